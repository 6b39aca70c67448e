section
-- ===== PART A: goes FIRST, ahead of the names: the tables' words, and 'selects' of the private methods out of them =====
/-- a private method of a class that the tables say can be made, by its rows of tables_1 -/
def lw_okq (q : MethodName × Nat) : Prop := (q.1.cls ≠ "java/lang/invoke/MethodHandle" ∧ q.1.cls ≠ "java/lang/invoke/VarHandle") ∧ Cond.instantiable q.1.cls q.2 ∈ tables_1 ∧ Cond.privateMethod q.1 ∈ tables_1 ∧ Cond.instanceMethod q.1 ∈ tables_1
theorem lw_p0 : lw_okq (⟨"java/lang/Throwable", "fillInStackTrace", "(I)Ljava/lang/Throwable;"⟩, 6) := ⟨⟨by decide +kernel, by decide +kernel⟩, List.mem_of_getElem? (i := 109) (by decide +kernel), List.mem_of_getElem? (i := 107) (by decide +kernel), List.mem_of_getElem? (i := 108) (by decide +kernel)⟩
theorem lw_p1 : lw_okq (⟨"BuildingPoints", "pointAt", "(I)LBuildingPoints$Point;"⟩, 8) := ⟨⟨by decide +kernel, by decide +kernel⟩, List.mem_of_getElem? (i := 16) (by decide +kernel), List.mem_of_getElem? (i := 213) (by decide +kernel), List.mem_of_getElem? (i := 214) (by decide +kernel)⟩
theorem lw_p2 : lw_okq (⟨"BuildingPoints", "put", "(LBuildingPoints$Point;II)V"⟩, 8) := ⟨⟨by decide +kernel, by decide +kernel⟩, List.mem_of_getElem? (i := 16) (by decide +kernel), List.mem_of_getElem? (i := 247) (by decide +kernel), List.mem_of_getElem? (i := 248) (by decide +kernel)⟩
theorem lw_p3 : lw_okq (⟨"BuildingPoints", "reportChange", "(LBuildingPoints$Point;)V"⟩, 8) := ⟨⟨by decide +kernel, by decide +kernel⟩, List.mem_of_getElem? (i := 16) (by decide +kernel), List.mem_of_getElem? (i := 263) (by decide +kernel), List.mem_of_getElem? (i := 264) (by decide +kernel)⟩
theorem lw_p4 : lw_okq (⟨"BuildingPoints", "subscriptionAt", "(I)LBuildingPoints$Subscription;"⟩, 8) := ⟨⟨by decide +kernel, by decide +kernel⟩, List.mem_of_getElem? (i := 16) (by decide +kernel), List.mem_of_getElem? (i := 358) (by decide +kernel), List.mem_of_getElem? (i := 359) (by decide +kernel)⟩
theorem lw_p5 : lw_okq (⟨"BuildingPoints", "scheduleAt", "(I)LBuildingPoints$Schedule;"⟩, 8) := ⟨⟨by decide +kernel, by decide +kernel⟩, List.mem_of_getElem? (i := 16) (by decide +kernel), List.mem_of_getElem? (i := 446) (by decide +kernel), List.mem_of_getElem? (i := 447) (by decide +kernel)⟩
theorem lw_p6 : lw_okq (⟨"BuildingPoints", "follow", "(LBuildingPoints$Schedule;)V"⟩, 8) := ⟨⟨by decide +kernel, by decide +kernel⟩, List.mem_of_getElem? (i := 16) (by decide +kernel), List.mem_of_getElem? (i := 462) (by decide +kernel), List.mem_of_getElem? (i := 463) (by decide +kernel)⟩
theorem lw_p7 : lw_okq (⟨"BuildingPoints", "passMinute", "()V"⟩, 8) := ⟨⟨by decide +kernel, by decide +kernel⟩, List.mem_of_getElem? (i := 16) (by decide +kernel), List.mem_of_getElem? (i := 502) (by decide +kernel), List.mem_of_getElem? (i := 503) (by decide +kernel)⟩
theorem lw_p8 : lw_okq (⟨"BuildingPoints", "releaseHeldCommands", "()V"⟩, 8) := ⟨⟨by decide +kernel, by decide +kernel⟩, List.mem_of_getElem? (i := 16) (by decide +kernel), List.mem_of_getElem? (i := 506) (by decide +kernel), List.mem_of_getElem? (i := 507) (by decide +kernel)⟩
theorem lw_p9 : lw_okq (⟨"BuildingPoints", "endOldSubscriptions", "()V"⟩, 8) := ⟨⟨by decide +kernel, by decide +kernel⟩, List.mem_of_getElem? (i := 16) (by decide +kernel), List.mem_of_getElem? (i := 510) (by decide +kernel), List.mem_of_getElem? (i := 511) (by decide +kernel)⟩
theorem lw_p10 : lw_okq (⟨"BuildingPoints", "followSchedules", "()V"⟩, 8) := ⟨⟨by decide +kernel, by decide +kernel⟩, List.mem_of_getElem? (i := 16) (by decide +kernel), List.mem_of_getElem? (i := 514) (by decide +kernel), List.mem_of_getElem? (i := 515) (by decide +kernel)⟩
theorem lw_p11 : lw_okq (⟨"BuildingPointsModel", "goes", "(ZZZ)Z"⟩, 25) := ⟨⟨by decide +kernel, by decide +kernel⟩, List.mem_of_getElem? (i := 518) (by decide +kernel), List.mem_of_getElem? (i := 612) (by decide +kernel), List.mem_of_getElem? (i := 613) (by decide +kernel)⟩
theorem lw_p12 : lw_okq (⟨"BuildingPointsModel", "adds", "(IZI)I"⟩, 25) := ⟨⟨by decide +kernel, by decide +kernel⟩, List.mem_of_getElem? (i := 518) (by decide +kernel), List.mem_of_getElem? (i := 616) (by decide +kernel), List.mem_of_getElem? (i := 617) (by decide +kernel)⟩
theorem lw_p13 : lw_okq (⟨"BuildingPointsModel", "isPoint", "(I)Z"⟩, 25) := ⟨⟨by decide +kernel, by decide +kernel⟩, List.mem_of_getElem? (i := 518) (by decide +kernel), List.mem_of_getElem? (i := 629) (by decide +kernel), List.mem_of_getElem? (i := 630) (by decide +kernel)⟩
theorem lw_p14 : lw_okq (⟨"BuildingPointsModel", "canHave", "(II)Z"⟩, 25) := ⟨⟨by decide +kernel, by decide +kernel⟩, List.mem_of_getElem? (i := 518) (by decide +kernel), List.mem_of_getElem? (i := 633) (by decide +kernel), List.mem_of_getElem? (i := 634) (by decide +kernel)⟩
theorem lw_p15 : lw_okq (⟨"BuildingPointsModel", "sets", "(III)V"⟩, 25) := ⟨⟨by decide +kernel, by decide +kernel⟩, List.mem_of_getElem? (i := 518) (by decide +kernel), List.mem_of_getElem? (i := 637) (by decide +kernel), List.mem_of_getElem? (i := 638) (by decide +kernel)⟩
def lw_privs_1 : List (MethodName × Nat) := [(⟨"java/lang/Throwable", "fillInStackTrace", "(I)Ljava/lang/Throwable;"⟩, 6), (⟨"BuildingPoints", "pointAt", "(I)LBuildingPoints$Point;"⟩, 8), (⟨"BuildingPoints", "put", "(LBuildingPoints$Point;II)V"⟩, 8), (⟨"BuildingPoints", "reportChange", "(LBuildingPoints$Point;)V"⟩, 8), (⟨"BuildingPoints", "subscriptionAt", "(I)LBuildingPoints$Subscription;"⟩, 8), (⟨"BuildingPoints", "scheduleAt", "(I)LBuildingPoints$Schedule;"⟩, 8), (⟨"BuildingPoints", "follow", "(LBuildingPoints$Schedule;)V"⟩, 8), (⟨"BuildingPoints", "passMinute", "()V"⟩, 8), (⟨"BuildingPoints", "releaseHeldCommands", "()V"⟩, 8), (⟨"BuildingPoints", "endOldSubscriptions", "()V"⟩, 8), (⟨"BuildingPoints", "followSchedules", "()V"⟩, 8), (⟨"BuildingPointsModel", "goes", "(ZZZ)Z"⟩, 25), (⟨"BuildingPointsModel", "adds", "(IZI)I"⟩, 25), (⟨"BuildingPointsModel", "isPoint", "(I)Z"⟩, 25), (⟨"BuildingPointsModel", "canHave", "(II)Z"⟩, 25), (⟨"BuildingPointsModel", "sets", "(III)V"⟩, 25)]
theorem lw_r1 : ∀ q ∈ lw_privs_1, lw_okq q := List.forall_mem_cons.mpr ⟨lw_p0, List.forall_mem_cons.mpr ⟨lw_p1, List.forall_mem_cons.mpr ⟨lw_p2, List.forall_mem_cons.mpr ⟨lw_p3, List.forall_mem_cons.mpr ⟨lw_p4, List.forall_mem_cons.mpr ⟨lw_p5, List.forall_mem_cons.mpr ⟨lw_p6, List.forall_mem_cons.mpr ⟨lw_p7, List.forall_mem_cons.mpr ⟨lw_p8, List.forall_mem_cons.mpr ⟨lw_p9, List.forall_mem_cons.mpr ⟨lw_p10, List.forall_mem_cons.mpr ⟨lw_p11, List.forall_mem_cons.mpr ⟨lw_p12, List.forall_mem_cons.mpr ⟨lw_p13, List.forall_mem_cons.mpr ⟨lw_p14, List.forall_mem_cons.mpr ⟨lw_p15, fun _ h => absurd h List.not_mem_nil⟩⟩⟩⟩⟩⟩⟩⟩⟩⟩⟩⟩⟩⟩⟩⟩
theorem lw_p16 : lw_okq (⟨"BuildingPointsModel", "valueOf", "(I)I"⟩, 25) := ⟨⟨by decide +kernel, by decide +kernel⟩, List.mem_of_getElem? (i := 518) (by decide +kernel), List.mem_of_getElem? (i := 641) (by decide +kernel), List.mem_of_getElem? (i := 642) (by decide +kernel)⟩
theorem lw_p17 : lw_okq (⟨"BuildingPointsModel", "standingOf", "(I)I"⟩, 25) := ⟨⟨by decide +kernel, by decide +kernel⟩, List.mem_of_getElem? (i := 518) (by decide +kernel), List.mem_of_getElem? (i := 645) (by decide +kernel), List.mem_of_getElem? (i := 646) (by decide +kernel)⟩
theorem lw_p18 : lw_okq (⟨"BuildingPointsModel", "informs", "(II)V"⟩, 25) := ⟨⟨by decide +kernel, by decide +kernel⟩, List.mem_of_getElem? (i := 518) (by decide +kernel), List.mem_of_getElem? (i := 649) (by decide +kernel), List.mem_of_getElem? (i := 650) (by decide +kernel)⟩
theorem lw_p19 : lw_okq (⟨"BuildingPointsModel", "isSubscription", "(I)Z"⟩, 25) := ⟨⟨by decide +kernel, by decide +kernel⟩, List.mem_of_getElem? (i := 518) (by decide +kernel), List.mem_of_getElem? (i := 682) (by decide +kernel), List.mem_of_getElem? (i := 683) (by decide +kernel)⟩
theorem lw_p20 : lw_okq (⟨"BuildingPointsModel", "isSchedule", "(I)Z"⟩, 25) := ⟨⟨by decide +kernel, by decide +kernel⟩, List.mem_of_getElem? (i := 518) (by decide +kernel), List.mem_of_getElem? (i := 706) (by decide +kernel), List.mem_of_getElem? (i := 707) (by decide +kernel)⟩
theorem lw_p21 : lw_okq (⟨"BuildingPointsModel", "enters", "(IIII)I"⟩, 25) := ⟨⟨by decide +kernel, by decide +kernel⟩, List.mem_of_getElem? (i := 518) (by decide +kernel), List.mem_of_getElem? (i := 710) (by decide +kernel), List.mem_of_getElem? (i := 711) (by decide +kernel)⟩
theorem lw_p22 : lw_okq (⟨"BuildingPointsModel", "obeys", "(I)V"⟩, 25) := ⟨⟨by decide +kernel, by decide +kernel⟩, List.mem_of_getElem? (i := 518) (by decide +kernel), List.mem_of_getElem? (i := 714) (by decide +kernel), List.mem_of_getElem? (i := 715) (by decide +kernel)⟩
theorem lw_p23 : lw_okq (⟨"BuildingPointsModel", "toldBy", "(II)I"⟩, 25) := ⟨⟨by decide +kernel, by decide +kernel⟩, List.mem_of_getElem? (i := 518) (by decide +kernel), List.mem_of_getElem? (i := 718) (by decide +kernel), List.mem_of_getElem? (i := 719) (by decide +kernel)⟩
theorem lw_p24 : lw_okq (⟨"BuildingPointsModel", "minutes", "()V"⟩, 25) := ⟨⟨by decide +kernel, by decide +kernel⟩, List.mem_of_getElem? (i := 518) (by decide +kernel), List.mem_of_getElem? (i := 735) (by decide +kernel), List.mem_of_getElem? (i := 736) (by decide +kernel)⟩
def lw_privs_2 : List (MethodName × Nat) := [(⟨"BuildingPointsModel", "valueOf", "(I)I"⟩, 25), (⟨"BuildingPointsModel", "standingOf", "(I)I"⟩, 25), (⟨"BuildingPointsModel", "informs", "(II)V"⟩, 25), (⟨"BuildingPointsModel", "isSubscription", "(I)Z"⟩, 25), (⟨"BuildingPointsModel", "isSchedule", "(I)Z"⟩, 25), (⟨"BuildingPointsModel", "enters", "(IIII)I"⟩, 25), (⟨"BuildingPointsModel", "obeys", "(I)V"⟩, 25), (⟨"BuildingPointsModel", "toldBy", "(II)I"⟩, 25), (⟨"BuildingPointsModel", "minutes", "()V"⟩, 25)]
theorem lw_r2 : ∀ q ∈ lw_privs_2, lw_okq q := List.forall_mem_cons.mpr ⟨lw_p16, List.forall_mem_cons.mpr ⟨lw_p17, List.forall_mem_cons.mpr ⟨lw_p18, List.forall_mem_cons.mpr ⟨lw_p19, List.forall_mem_cons.mpr ⟨lw_p20, List.forall_mem_cons.mpr ⟨lw_p21, List.forall_mem_cons.mpr ⟨lw_p22, List.forall_mem_cons.mpr ⟨lw_p23, List.forall_mem_cons.mpr ⟨lw_p24, fun _ h => absurd h List.not_mem_nil⟩⟩⟩⟩⟩⟩⟩⟩⟩
def lw_privs : List (MethodName × Nat) := lw_privs_1 ++ (lw_privs_2)
def lw_tbl : List Cond := k2_sels lw_privs ++ tables_1
theorem lw_privs_ok : ∀ q ∈ lw_privs, lw_okq q := by
  show ∀ q ∈ lw_privs_1 ++ (lw_privs_2), lw_okq q
  exact List.forall_mem_append.mpr ⟨lw_r1, lw_r2⟩
-- ===== end of PART A; then your names; then what follows =====
/-! ===== BEGIN words of one list among another's, by their places ===== -/
theorem goodIn_r {big : List Cond} (ws : List Cond) (ps : List Nat) (hp : ws = ps.filterMap (fun i => big[i]?)) (h : ws.all goodWord = true) : GoodIn big ws := by
  intro w hw
  have h1 := List.all_eq_true.mp h w hw
  rw [hp] at hw
  obtain ⟨i, -, hi⟩ := List.mem_filterMap.mp hw
  have hm : w ∈ big := by first | exact List.mem_of_getElem? hi | exact List.getElem?_mem hi
  exact ⟨hm, good_of_word h1⟩
theorem goodIn_app {big a b : List Cond} (ha : GoodIn big a) (hb : GoodIn big b) : GoodIn big (a ++ b) := fun w h => (List.mem_append.mp h).elim (ha w) (hb w)
theorem goodIn_ca {big a b : List Cond} {c : Cond} (ha : GoodIn big (c :: a)) (hb : GoodIn big b) : GoodIn big (c :: (a ++ b)) := fun w h => (List.mem_cons.mp h).elim (fun e => ha w (List.mem_cons.mpr (Or.inl e))) (fun h => (List.mem_append.mp h).elim (fun h => ha w (List.mem_cons.mpr (Or.inr h))) (hb w))
theorem goodIn_sub {big ws : List Cond} (hm : ∀ w ∈ ws, w ∈ big) (h : ws.all goodWord = true) : GoodIn big ws := fun w hw => ⟨hm w hw, good_of_word (List.all_eq_true.mp h w hw)⟩
/-! ===== END ===== -/

/-! ===== BEGIN exceptions that leave a method, and their catching by the caller (launches without stack traces) ===== -/
section VXA
/-! The laws vx_back, vx_callV, vx_callS, vx_callSW, vx_throw0, vx_throwS follow proofs of the library, with one case more: JvmDerived/Free/Laws.lean (Back.of_free), Shelf42/LK1.lean (callV, callS), Shelf/KitTraced.lean (throwNew0V, throwNewS). -/
/-- where a method has thrown q: the class by its name, the cell, what was written, the world -/
def vx_T (XC : String → State → State → Prop) (st : State) (q : Addr) (t : State) (mc ms : Nat) (free : Addr → Prop) : Prop :=
  ∃ (E : String) (ce : Cell) (L : List Loc), XC E st t ∧ t.heap[q]? = some ce ∧ ce.vm = .none ∧ st.vm.findClass E = some ce.cls ∧ st.WarmedH t.vm ∧ st.sameButNew ({ t with vm := st.vm } : State) L mc ms ∧ ∀ z ∈ L, free z.base
def vx_Q (Qc : Array Value → State → Outcome → State → Prop) (XC : String → State → State → Prop) (mc ms : Nat) (free : Addr → Prop) : Array Value → State → Outcome → State → Prop := fun a st o t =>
  (Qc a st o t ∧ ∃ L, FrameEnd st o t L mc ms ∧ ∀ q ∈ L, free q.base) ∨ ∃ q, o = .threw q ∧ vx_T XC st q t mc ms free
/-- a callee that returns or throws -/
def vx_Met (l : Launch) (y : MethodName) (ws : List Cond) (rm : Room) (Pc : Array Value → State → Prop) (Qc : Array Value → State → Outcome → State → Prop) (XC : String → State → State → Prop) (mc ms : Nat) (free : Addr → Prop) : Prop :=
  MetFree l y (headSpec ws rm) Pc (fun _ _ _ _ _ => True) (vx_Q Qc XC mc ms free)
def vx_Post (XC : String → State → State → Prop) (mc ms : Nat) (free : Addr → Prop) : Pt → Array Value → Addr → Pt → Prop := fun A a q B =>
  ∃ (g : JFrame) (mk : MethodId) (t : State) (L : List Loc) (E : String) (ce : Cell), B.U.heap = t.heap ∧ B.U.vm = t.vm ∧ XC E (A.U.calling g mk a) t ∧ t.heap[q]? = some ce ∧ ce.vm = .none ∧ A.U.vm.findClass E = some ce.cls ∧ B.locs = A.locs ++ L ∧ (∀ z ∈ L, free z.base) ∧ B.cells = A.cells + mc ∧ B.slots = A.slots + ms
def vx_Back (l : Launch) (R : Room) (p : Program) (e : Env) (below : List Frame) (s : State) (sargs : Array Value) (y : MethodName) (len W9 : Nat)
    (Pre : Pt → Array Value → Prop) (Post : Pt → Array Value → Option Value → Pt → Prop) (PostX : Pt → Array Value → Addr → Pt → Prop) : Prop :=
  ∀ (m : MethodId) (meth : Method) (c : Code) (A : Pt) (g : JFrame) (ig : Instr) (mk : MethodId) (a : Array Value),
    Stand p l e R s m sargs below meth c A.U A.locs A.cells A.slots → g.method = m → g.locals.size = c.maxLocals → decode c.code g.pc = .ok (ig, len) →
    2 * g.monitorRoom + (g.stack.map fun v => v.category).sum ≤ W9 → A.U.methodNamed? y = some mk → Pre A a →
    (∃ (v : Option Value) (B : Pt), Stand p l e R s m sargs below meth c B.U B.locs B.cells B.slots ∧ Post A a v B ∧
      Steps p.tables e below (doInvoke e (A.U.setTop g) [] mk a).1 (B.U.setTop { g with pc := g.pc + len, stack := v.toList ++ g.stack })) ∨
    (∃ (q : Addr) (B : Pt), Stand p l e R s m sargs below meth c B.U B.locs B.cells B.slots ∧ PostX A a q B ∧
      Steps p.tables e below (doInvoke e (A.U.setTop g) [] mk a).1 ((B.U.setTop g).pushFrame (.throwing q)))
section Payer
variable {l : Launch} {R : Room} {p : Program} {e : Env} {below : List Frame} {s : State} {sargs : Array Value} {y : MethodName} {len W9 : Nat}
theorem vx_back {ws : List Cond} {rm : Room} {Pc : Array Value → State → Prop} {Qc : Array Value → State → Outcome → State → Prop} {XC : String → State → State → Prop} {mc ms : Nat} {free : Addr → Prop} {bytes : ByteArray} {maxL : Nat} {ret : Option FieldType}
    (hM : vx_Met l y ws rm Pc Qc XC mc ms free) (hblind : FrameBlind Pc) (hrc : rm.cells = mc) (hrs : rm.slots = ms)
    (hframes : rm.frames + 1 ≤ R.frames) (hlocals : W9 + (maxL + 11) + rm.locals ≤ R.locals)
    (hws : ∀ w ∈ ws, ∀ a' U, s.WarmedH U.vm → w.before a' U = true) (hcode : Cond.code y bytes maxL ret ∈ ws) (hinit : ∀ a' U, s.WarmedH U.vm → (Cond.initialized y.cls).before a' U = true) :
    vx_Back l R p e below s sargs y len W9 (PreOf R mc ms Pc) (PostOf Qc mc ms free) (vx_Post XC mc ms free) := by
  intro m meth c A g ig mk a X hg hsize hdg hW hn hp
  have h1 : (headSpec ws rm).pre.before a A.U = true := atoms_intro fun w hw => hws w hw _ _ X.warmed
  have h2 : (Cond.code y bytes maxL ret).before a A.U = true := hws _ hcode _ _ X.warmed
  have h3 : (Cond.initialized y.cls).before a A.U = true := hinit _ _ X.warmed
  have h4 : A.cells + (headSpec ws rm).room.cells ≤ R.cells := by rw [show (headSpec ws rm).room.cells = mc from hrc]; exact hp.1
  have h5 : A.slots + (headSpec ws rm).room.slots ≤ R.slots := by rw [show (headSpec ws rm).room.slots = ms from hrs]; exact hp.2.1
  have hPc : Pc a (A.U.calling g mk a) := hblind _ _ _ _ hp.2.2
  obtain ⟨U, Ls, c0, s0⟩ := A
  dsimp only [Pt.U, Pt.locs, Pt.cells, Pt.slots] at h1 h2 h3 h4 h5 X hn hPc ⊢
  obtain ⟨methY, cY, hmY, hcY, -, hlY, -, -, -, -⟩ := Cond.code_spec hn h2
  obtain ⟨kY, hkY, -⟩ := className_of_methodNamed hn
  have hinitY : kY.init = .initialized := Cond.initialized_spec (findClass_of_methodNamed hn) hkY h3
  have h : At U g.method c below := by rw [hg]; exact X.here
  have hlocals9 : W9 + (maxL + 11) + (headSpec ws rm).room.locals ≤ R.locals := hlocals
  have happ : (headSpec ws rm).appliesLoose y e.platform (U.calling g mk a) = true :=
    Spec.appliesLoose_calling (g := g) h hdg hn hkY hinitY
      (X.room_calling (g := g) (R' := (headSpec ws rm).room) hsize hmY hcY hframes (by rw [hlY]; omega) h4 h5) h1
  obtain ⟨mid, hmid⟩ := h.above
  have hfr : (U.setTop g).frames = (.java g :: mid) ++ below := by rw [State.frames_setTop' g h.top, hmid]; rfl
  obtain ⟨o, s₂, hsteps, -, hend, hq⟩ := Steps.callFree hM p X.admits X.cas X.clock (acts := []) hfr happ hPc trivial
  have hq' : vx_Q Qc XC mc ms free a (U.calling g mk a) o s₂ := hq
  rw [State.frames_setTop' g h.top] at hend
  obtain ⟨g₀, hg0⟩ := Option.isSome_iff_exists.mp h.top
  obtain ⟨r, hr⟩ := State.topJava?_eq_some.mp hg0
  have hr' : (({ U with heap := s₂.heap, slotsUsed := s₂.slotsUsed } : State).setVm s₂.vm).frames = .java g₀ :: r := hr
  rcases hq' with ⟨hqc, L, hfe, hL⟩ | ⟨q, rfl, E, ce, L, hx, hce, hcv, hcl, hW₂, hsm, hL⟩
  · obtain ⟨⟨v, rfl⟩, hW₂, e2, q2, q3, q4, q5, q6⟩ := id hfe
    have e3 : s₂ = ({ (U.calling g mk a).setFrames s₂.frames with heap := s₂.heap, slotsUsed := s₂.slotsUsed } : State).setVm s₂.vm := by
      have : s₂ = ({ s₂ with vm := (U.calling g mk a).vm } : State).setVm s₂.vm := rfl
      rw [e2] at this
      exact this
    obtain ⟨c₂, i₂, len₂, hc₂, hd₂, hf₂⟩ := hend
    have hW' : U.WarmedH s₂.vm := hW₂
    have hcc : c₂ = c := by
      have h1 : s₂.code? g.method = U.code? g.method := by
        rw [State.code?_eq, State.code?_eq, hW'.alike.method?]
      exact Option.some.inj (hc₂.symm.trans (h1.trans h.code))
    subst hcc
    have hlen : len₂ = len := by rw [hdg] at hd₂; cases hd₂; rfl
    subst hlen
    have hs₂ : s₂ = (({ U with heap := s₂.heap, slotsUsed := s₂.slotsUsed } : State).setVm s₂.vm).setTop { g with pc := g.pc + len₂, stack := v.toList ++ g.stack } := by
      refine e3.trans ?_
      rw [hf₂, State.calling_eq h.top, State.setFrames_setFrames, State.setTop_of_frames _ hr', hr]
      rfl
    have hsame : U.sameButNew ({ U with heap := s₂.heap, slotsUsed := s₂.slotsUsed } : State) L mc ms := by
      refine ⟨?_, q2, q3, q4, q5, q6⟩
      obtain ⟨t, ht, -⟩ := State.frames_cons hr
      show ({ U with heap := s₂.heap, slotsUsed := s₂.slotsUsed } : State) = { U.setFrames U.frames with heap := s₂.heap, slotsUsed := s₂.slotsUsed }
      rw [State.setFrames_self ht]
    subst hg
    refine Or.inl ⟨v, ⟨(({ U with heap := s₂.heap, slotsUsed := s₂.slotsUsed } : State).setVm s₂.vm), Ls ++ L, c0 + mc, s0 + ms⟩,
      ⟨X.admits, X.cas, X.clock, X.frames, X.room, X.hears, X.method, X.code, (X.here.setHeapUsed s₂.heap s₂.slotsUsed).setVm hW'.alike, X.tail, State.WarmedH.trans X.warmed hW', X.limits, X.bytes, X.same.trans (hsame.setVm s.vm)⟩,
      ⟨g, mk, s₂, L, rfl, rfl, hqc, rfl, hL, rfl, rfl⟩, ?_⟩
    show Steps p.tables e below _ ((({ U with heap := s₂.heap, slotsUsed := s₂.slotsUsed } : State).setVm s₂.vm).setTop { g with pc := g.pc + len₂, stack := v.toList ++ g.stack })
    rw [← hs₂]
    exact hsteps
  · obtain ⟨e2, q2, q3, q4, q5, q6⟩ := id hsm
    have e3 : s₂ = ({ (U.calling g mk a).setFrames s₂.frames with heap := s₂.heap, slotsUsed := s₂.slotsUsed } : State).setVm s₂.vm := by
      have : s₂ = ({ s₂ with vm := (U.calling g mk a).vm } : State).setVm s₂.vm := rfl
      rw [e2] at this
      exact this
    have hf₂ : s₂.frames = .throwing q :: .java g :: U.frames.tail := hend
    have hW' : U.WarmedH s₂.vm := hW₂
    have hs₂ : s₂ = ((({ U with heap := s₂.heap, slotsUsed := s₂.slotsUsed } : State).setVm s₂.vm).setTop g).pushFrame (.throwing q) := by
      refine e3.trans ?_
      rw [hf₂, State.calling_eq h.top, State.setFrames_setFrames, State.pushFrame, State.frames_setTop _ hr', State.setTop_of_frames _ hr', State.setFrames_setFrames, hr]
      rfl
    have hsame : U.sameButNew ({ U with heap := s₂.heap, slotsUsed := s₂.slotsUsed } : State) L mc ms := by
      refine ⟨?_, q2, q3, q4, q5, q6⟩
      obtain ⟨t, ht, -⟩ := State.frames_cons hr
      show ({ U with heap := s₂.heap, slotsUsed := s₂.slotsUsed } : State) = { U.setFrames U.frames with heap := s₂.heap, slotsUsed := s₂.slotsUsed }
      rw [State.setFrames_self ht]
    subst hg
    refine Or.inr ⟨q, ⟨(({ U with heap := s₂.heap, slotsUsed := s₂.slotsUsed } : State).setVm s₂.vm), Ls ++ L, c0 + mc, s0 + ms⟩,
      ⟨X.admits, X.cas, X.clock, X.frames, X.room, X.hears, X.method, X.code, (X.here.setHeapUsed s₂.heap s₂.slotsUsed).setVm hW'.alike, X.tail, State.WarmedH.trans X.warmed hW', X.limits, X.bytes, X.same.trans (hsame.setVm s.vm)⟩,
      ⟨g, mk, s₂, L, E, ce, rfl, rfl, hx, hce, hcv, hcl, rfl, hL, rfl, rfl⟩, ?_⟩
    show Steps p.tables e below _ (((({ U with heap := s₂.heap, slotsUsed := s₂.slotsUsed } : State).setVm s₂.vm).setTop g).pushFrame (.throwing q))
    rw [← hs₂]
    exact hsteps
end Payer
section Calls
variable {p : Program} {l : Launch} {e : Env} {R : Room} {s : State} {m : MethodId} {args : Array Value} {below : List Frame} {meth : Method} {c : Code} {T : State} {locs : List Loc} {cells slots : Nat}
theorem vx_callV (X : Stand p l e R s m args below meth c T locs cells slots) (hexec : p.tables.exec = Jvm.exec) {own C : String} {index : Nat} {y : MethodName} {bytes : ByteArray} {maxL : Nat} {ret : Option FieldType}
    (hown : s.vm.findClass own = some m.cls) (hlink : (Cond.methodLink own index y).before args s = true) (hinst : (Cond.instanceMethod y).before args s = true) (hsel : (Cond.selects C y y).before args s = true)
    (hcode : (Cond.code y bytes maxL ret).before args s = true) (hy : y.cls ≠ "java/lang/invoke/MethodHandle" ∧ y.cls ≠ "java/lang/invoke/VarHandle")
    {W9 : Nat} {Pre : Pt → Array Value → Prop} {Post : Pt → Array Value → Option Value → Pt → Prop} {PostX : Pt → Array Value → Addr → Pt → Prop} (hK : vx_Back l R p e below s args y 3 W9 Pre Post PostX)
    {b : Addr} {cellB : Cell} (hcell : T.heap[b]? = some cellB) (hobj : cellB.vm.isStatics = false) (hcls : s.vm.findClass C = some cellB.cls)
    {g : JFrame} (hg : g.method = m) (hsize : g.locals.size = c.maxLocals) {argsL rest : List Value} (hlen : ∀ sig, parseMethodDescriptor y.desc = some sig → argsL.length = sig.parameters.length)
    (hstack : g.stack = argsL.reverse ++ .ref b :: rest) (hW : 2 * g.monitorRoom + (rest.map fun v => v.category).sum ≤ W9) (hdg : decode c.code g.pc = .ok (.invokevirtual index, 3))
    (hpre : ∀ vm₁, s.WarmedH vm₁ → Pre ⟨T.setVm vm₁, locs, cells, slots⟩ (Value.ref b :: argsL).toArray) :
    (∃ (v : Option Value) (vm₁ : Vm) (B : Pt), s.WarmedH vm₁ ∧ Stand p l e R s m args below meth c B.U B.locs B.cells B.slots ∧ Post ⟨T.setVm vm₁, locs, cells, slots⟩ (Value.ref b :: argsL).toArray v B ∧
      ∀ target, Steps p.tables e below (B.U.setTop { g with pc := g.pc + 3, stack := v.toList ++ rest }) target → Steps p.tables e below (T.setTop g) target) ∨
    (∃ (q : Addr) (vm₁ : Vm) (B : Pt), s.WarmedH vm₁ ∧ Stand p l e R s m args below meth c B.U B.locs B.cells B.slots ∧ PostX ⟨T.setVm vm₁, locs, cells, slots⟩ (Value.ref b :: argsL).toArray q B ∧
      Steps p.tables e below (T.setTop g) ((B.U.setTop { g with stack := rest }).pushFrame (.throwing q))) := by
  obtain ⟨mk, methM, hnamed, hmethM, hstM, habM⟩ := Cond.instanceMethod_spec hinst
  obtain ⟨methM', cM, hmethM', -, -, -, -, -, -, hsigM⟩ := Cond.code_spec hnamed hcode
  cases hmethM.symm.trans hmethM'
  obtain ⟨c2, r2, m2, q1, q2, q3, q4, kP, hkP, hkPi⟩ := Cond.selects_spec hsel
  cases hcls.symm.trans q1
  cases (State.methodFound?_of_named hnamed hy).symm.trans q2
  cases hnamed.symm.trans q3
  have hselP : selectMethod e.platform s.vm cellB.cls mk = .method mk := by rw [Launch.admits_selectMethod X.admits]; exact q4
  obtain ⟨vm₁, X₁, hstep₁⟩ := X.invokevirtual hexec hown hlink hnamed hmethM hstM hkP hkPi hy (a := b) (cell := cellB) hcell
    (fun z h => by rw [h] at hobj; cases hobj) hselP hmethM habM hkP hkPi (g := g) hg (argsL := argsL) (rest := rest) (hlen _ hsigM) hstack hdg
  rcases hK m meth c ⟨T.setVm vm₁, locs, cells, slots⟩ { g with stack := rest } (.invokevirtual index) mk (Value.ref b :: argsL).toArray X₁ hg hsize hdg hW (X₁.named hnamed) (hpre vm₁ X₁.warmed) with ⟨v, B, X', hpost, hsteps⟩ | ⟨q, B, X', hpost, hsteps⟩
  · exact Or.inl ⟨v, vm₁, B, X₁.warmed, X', hpost, fun target h => hstep₁ _ fun acts => by rw [doInvoke_state]; exact hsteps.trans h⟩
  · exact Or.inr ⟨q, vm₁, B, X₁.warmed, X', hpost, hstep₁ _ fun acts => by rw [doInvoke_state]; exact hsteps⟩
theorem vx_callS (X : Stand p l e R s m args below meth c T locs cells slots) (hexec : p.tables.exec = Jvm.exec) {own : String} {index : Nat} {y : MethodName} {bytes : ByteArray} {maxL : Nat} {ret : Option FieldType}
    (hown : s.vm.findClass own = some m.cls) (hlink : (Cond.methodLink own index y).before args s = true) (hstat : (Cond.static y).before args s = true) (hinit : (Cond.initialized y.cls).before args s = true)
    (hcode : (Cond.code y bytes maxL ret).before args s = true) (hy : y.cls ≠ "java/lang/invoke/MethodHandle" ∧ y.cls ≠ "java/lang/invoke/VarHandle")
    {W9 : Nat} {Pre : Pt → Array Value → Prop} {Post : Pt → Array Value → Option Value → Pt → Prop} {PostX : Pt → Array Value → Addr → Pt → Prop} (hK : vx_Back l R p e below s args y 3 W9 Pre Post PostX)
    {g : JFrame} (hg : g.method = m) (hsize : g.locals.size = c.maxLocals) {argsL rest : List Value} (hlen : ∀ sig, parseMethodDescriptor y.desc = some sig → argsL.length = sig.parameters.length)
    (hstack : g.stack = argsL.reverse ++ rest) (hW : 2 * g.monitorRoom + (rest.map fun v => v.category).sum ≤ W9) (hdg : decode c.code g.pc = .ok (.invokestatic index, 3))
    (hpre : ∀ vm₁, s.WarmedH vm₁ → Pre ⟨T.setVm vm₁, locs, cells, slots⟩ argsL.toArray) :
    (∃ (v : Option Value) (vm₁ : Vm) (B : Pt), s.WarmedH vm₁ ∧ Stand p l e R s m args below meth c B.U B.locs B.cells B.slots ∧ Post ⟨T.setVm vm₁, locs, cells, slots⟩ argsL.toArray v B ∧
      ∀ target, Steps p.tables e below (B.U.setTop { g with pc := g.pc + 3, stack := v.toList ++ rest }) target → Steps p.tables e below (T.setTop g) target) ∨
    (∃ (q : Addr) (vm₁ : Vm) (B : Pt), s.WarmedH vm₁ ∧ Stand p l e R s m args below meth c B.U B.locs B.cells B.slots ∧ PostX ⟨T.setVm vm₁, locs, cells, slots⟩ argsL.toArray q B ∧
      Steps p.tables e below (T.setTop g) ((B.U.setTop { g with stack := rest }).pushFrame (.throwing q))) := by
  obtain ⟨mk, hnamed⟩ := Cond.code_named hcode
  obtain ⟨methM, cM, hmethM, -, -, -, -, -, -, hsigM⟩ := Cond.code_spec hnamed hcode
  have hstatic : methM.isStatic = true := Cond.static_spec hnamed hmethM hstat
  obtain ⟨kP, hkP, -⟩ := className_of_methodNamed hnamed
  have hinitP : kP.init = .initialized := Cond.initialized_spec (findClass_of_methodNamed hnamed) hkP hinit
  obtain ⟨vm₁, X₁, hstep₁⟩ := X.invokestatic hexec hown hlink hnamed hmethM hstatic hkP hinitP hy (g := g) hg (argsL := argsL) (rest := rest) (hlen _ hsigM) hstack hdg
  rcases hK m meth c ⟨T.setVm vm₁, locs, cells, slots⟩ { g with stack := rest } (.invokestatic index) mk argsL.toArray X₁ hg hsize hdg hW (X₁.named hnamed) (hpre vm₁ X₁.warmed) with ⟨v, B, X', hpost, hsteps⟩ | ⟨q, B, X', hpost, hsteps⟩
  · exact Or.inl ⟨v, vm₁, B, X₁.warmed, X', hpost, fun target h => hstep₁ _ fun acts => by rw [doInvoke_state]; exact hsteps.trans h⟩
  · exact Or.inr ⟨q, vm₁, B, X₁.warmed, X', hpost, hstep₁ _ fun acts => by rw [doInvoke_state]; exact hsteps⟩
end Calls
theorem vx_cls {s : State} {T : State} {vm₁ : Vm} {E : String} {k : ClassId} (hW : s.WarmedH vm₁) (h : (T.setVm vm₁).vm.findClass E = some k) : s.vm.findClass E = some k := by
  have h1 : vm₁.findClass E = some k := h
  rw [hW.alike.findClass] at h1
  exact h1
/-- the method's frame g, with q thrown over it -/
def vx_W (p : Program) (l : Launch) (e : Env) (R : Room) (s : State) (m : MethodId) (args : Array Value) (below : List Frame) (meth : Method) (c : Code) (H : Heap) (locs : List Loc) (cells slots : Nat) (Q : State → Prop) (g : JFrame) (q : Addr) : Prop :=
  ∀ T : State, T.heap = H → Stand p l e R s m args below meth c T locs cells slots → ∃ t, Steps p.tables e below ((T.setTop g).pushFrame (.throwing q)) t ∧ Q t
def vx_Run (p : Program) (l : Launch) (e : Env) (R : Room) (s : State) (m : MethodId) (args : Array Value) (below : List Frame) (meth : Method) (c : Code) (H : Heap) (locs : List Loc) (cells slots mc ms : Nat) (g : JFrame) (rest : List Value) (Qa : State → Outcome → State → Prop) (XC : String → State → State → Prop) (free : Addr → Prop) : Prop :=
  ∀ T : State, T.heap = H → Stand p l e R s m args below meth c T locs cells slots →
    (∃ (v : Option Value) (st₀ t T' : State) (L : List Loc), st₀.heap = H ∧ Stand p l e R s m args below meth c T' (locs ++ L) (cells + mc) (slots + ms) ∧ (∀ q ∈ L, free q.base) ∧ T'.heap = t.heap ∧ T'.vm = t.vm ∧ Qa st₀ (.returned v) t ∧
      Goes p e below T g T' { g with pc := g.pc + 3, stack := v.toList ++ rest }) ∨
    (∃ (q : Addr) (st₀ t T' : State) (L : List Loc) (E : String) (ce : Cell), st₀.heap = H ∧ Stand p l e R s m args below meth c T' (locs ++ L) (cells + mc) (slots + ms) ∧ (∀ z ∈ L, free z.base) ∧ T'.heap = t.heap ∧ T'.vm = t.vm ∧ XC E st₀ t ∧ t.heap[q]? = some ce ∧ ce.vm = .none ∧ s.vm.findClass E = some ce.cls ∧
      Steps p.tables e below (T.setTop g) ((T'.setTop { g with stack := rest }).pushFrame (.throwing q)))
def vx_X {S : Type} (px : S → Prop) (B : String → S → State → Prop) (A : Nat → Prop) : String → State → State → Prop := fun E st t => ∃ u : S, px u ∧ B E u t ∧ va_F A st t
section Runs
variable {p : Program} {l : Launch} {e : Env} {R : Room} {s : State} {m : MethodId} {args : Array Value} {below : List Frame} {meth : Method} {c : Code} {H : Heap} {locs : List Loc} {cells slots : Nat}
variable {y : MethodName} {bytes cc : ByteArray} {maxL nL mc ms n index : Nat} {ret : Option FieldType} {ws : List Cond} {rm : Room} {Pc : Array Value → State → Prop} {Qc : Array Value → State → Outcome → State → Prop} {XC : String → State → State → Prop} {free : Addr → Prop} {Ts : List Cond} {own C : String} {b : Addr} {As rest : List Value} {g : JFrame}
theorem vx_callBack (cb : CallB R s args own index y bytes maxL ret ws rm mc ms n) (hM : vx_Met l y ws rm Pc Qc XC mc ms free) (hbl : FrameBlind Pc) : vx_Back l R p e below s args y 3 8 (PreOf R mc ms Pc) (PostOf Qc mc ms free) (vx_Post XC mc ms free) := by
  obtain ⟨hrc, hrs, hfr, hlo, hws, hcw, -, hini, -⟩ := cb
  exact vx_back (bytes := bytes) (maxL := maxL) (ret := ret) hM hbl hrc hrs hfr hlo hws hcw (fun a' U hW => word_at hW (Or.inl (by first | rfl | simp [Cond.onTables, Cond.keeps, Cond.steady])) hini)
theorem vx_runV (S : CallFix p m c cc nL s args Ts own) (hM : vx_Met l y ws rm Pc Qc XC mc ms free) (cw : CallW R s args own C index y bytes maxL ret ws rm mc ms n) (hp : PreV s H C b Pc As)
    (hg : g.method = m) (hn : As.length = n) (hsize : g.locals.size = nL) (hstack : g.stack = As.reverse ++ .ref b :: rest) (hW : 2 * g.monitorRoom + (rest.map fun v => v.category).sum ≤ 8) (hdg : decode cc g.pc = .ok (.invokevirtual index, 3)) (hf : cells + mc ≤ R.cells ∧ slots + ms ≤ R.slots) :
    vx_Run p l e R s m args below meth c H locs cells slots mc ms g rest (Qc (Value.ref b :: As).toArray) XC free := by
  have hK : vx_Back l R p e below s args y 3 8 (PreOf R mc ms Pc) (PostOf Qc mc ms free) (vx_Post XC mc ms free) := vx_callBack cw.1 hM hp.1
  obtain ⟨⟨-, -, -, -, -, -, hcode, -, hy, hlen, hl⟩, hin, hse⟩ := cw
  obtain ⟨hx, hb, hml, ho, -⟩ := S
  obtain ⟨-, ⟨cellB, hcB, hoB, hclB⟩, hPc⟩ := hp
  intro T hT X
  rcases vx_callV X hx (C := C) (bytes := bytes) (maxL := maxL) (ret := ret) ho hl hin hse hcode hy hK (by rw [hT]; exact hcB) hoB hclB hg (hsize.trans hml.symm) (argsL := As) (rest := rest) (fun sig h => hn.trans (hlen sig h)) hstack hW (by rw [hb]; exact hdg)
    (fun vm₁ hW₁ => ⟨hf.1, hf.2, hPc (T.setVm vm₁) hT hW₁⟩) with ⟨v, vm₁, ⟨U', l2, c2, s2⟩, hW₁, X', ⟨g', mk, t, L, e1, e2, hq, h1, hL, h2, h3⟩, st⟩ | ⟨q, vm₁, ⟨U', l2, c2, s2⟩, hW₁, X', ⟨g', mk, t, L, E, ce, e1, e2, hq, hce, hcv, hcl, h1, hL, h2, h3⟩, st⟩
  · dsimp only [Pt.U, Pt.locs, Pt.cells, Pt.slots] at X' e1 e2 h1 h2 h3 st
    subst h1; subst h2; subst h3
    exact Or.inl ⟨v, (T.setVm vm₁).calling g' mk (Value.ref b :: As).toArray, t, U', L, hT, X', hL, e1, e2, hq, st⟩
  · dsimp only [Pt.U, Pt.locs, Pt.cells, Pt.slots] at X' e1 e2 h1 h2 h3 st hcl
    subst h1; subst h2; subst h3
    exact Or.inr ⟨q, (T.setVm vm₁).calling g' mk (Value.ref b :: As).toArray, t, U', L, E, ce, hT, X', hL, e1, e2, hq, hce, hcv, vx_cls hW₁ hcl, st⟩
theorem vx_runS (S : CallFix p m c cc nL s args Ts own) (hM : vx_Met l y ws rm Pc Qc XC mc ms free) (cw : CallB R s args own index y bytes maxL ret ws rm mc ms n ∧ (Cond.static y).before args s = true) (hp : PreS s H Pc As)
    (hg : g.method = m) (hn : As.length = n) (hsize : g.locals.size = nL) (hstack : g.stack = As.reverse ++ rest) (hW : 2 * g.monitorRoom + (rest.map fun v => v.category).sum ≤ 8) (hdg : decode cc g.pc = .ok (.invokestatic index, 3)) (hf : cells + mc ≤ R.cells ∧ slots + ms ≤ R.slots) :
    vx_Run p l e R s m args below meth c H locs cells slots mc ms g rest (Qc As.toArray) XC free := by
  have hK : vx_Back l R p e below s args y 3 8 (PreOf R mc ms Pc) (PostOf Qc mc ms free) (vx_Post XC mc ms free) := vx_callBack cw.1 hM hp.1
  obtain ⟨⟨-, -, -, -, -, -, hcode, hini, hy, hlen, hl⟩, hstt⟩ := cw
  obtain ⟨hx, hb, hml, ho, -⟩ := S
  intro T hT X
  rcases vx_callS X hx (bytes := bytes) (maxL := maxL) (ret := ret) ho hl hstt hini hcode hy hK hg (hsize.trans hml.symm) (argsL := As) (rest := rest) (fun sig h => hn.trans (hlen sig h)) hstack hW (by rw [hb]; exact hdg)
    (fun vm₁ hW₁ => ⟨hf.1, hf.2, hp.2 (T.setVm vm₁) hT hW₁⟩) with ⟨v, vm₁, ⟨U', l2, c2, s2⟩, hW₁, X', ⟨g', mk, t, L, e1, e2, hq, h1, hL, h2, h3⟩, st⟩ | ⟨q, vm₁, ⟨U', l2, c2, s2⟩, hW₁, X', ⟨g', mk, t, L, E, ce, e1, e2, hq, hce, hcv, hcl, h1, hL, h2, h3⟩, st⟩
  · dsimp only [Pt.U, Pt.locs, Pt.cells, Pt.slots] at X' e1 e2 h1 h2 h3 st
    subst h1; subst h2; subst h3
    exact Or.inl ⟨v, (T.setVm vm₁).calling g' mk As.toArray, t, U', L, hT, X', hL, e1, e2, hq, st⟩
  · dsimp only [Pt.U, Pt.locs, Pt.cells, Pt.slots] at X' e1 e2 h1 h2 h3 st hcl
    subst h1; subst h2; subst h3
    exact Or.inr ⟨q, (T.setVm vm₁).calling g' mk As.toArray, t, U', L, E, ce, hT, X', hL, e1, e2, hq, hce, hcv, vx_cls hW₁ hcl, st⟩
end Runs
section Rows
variable {p : Program} {l : Launch} {e : Env} {R : Room} {s : State} {m : MethodId} {args : Array Value} {below : List Frame} {meth : Method} {c : Code} {H : Heap} {locs : List Loc} {cells slots : Nat} {Q : State → Prop}
variable {mc ms : Nat} {free : Addr → Prop} {A0 A1 : Nat → Prop} {H0 : Heap} {a : Array Value} {pc : Nat} {ls : Array Slot} {st0 rest : List Value}
theorem vx_keep {st₀ t T' : State} {L : List Loc} (h0 : st₀.heap = H) (e1 : T'.heap = t.heap) (hS : va_S A0 H0 H locs) (hA : ∀ q, q < H.size → A1 q → A0 q) (hf : ∀ q, free q → A0 q) (hL : ∀ q ∈ L, free q.base) (hF : va_F A1 st₀ t) :
    H.size ≤ T'.heap.size ∧ (∀ q : Nat, q < H.size → ¬ A1 q → T'.heap[q]? = H[q]?) ∧ va_S A0 H0 T'.heap (locs ++ L) := by
  obtain ⟨hz, hk⟩ := hF
  rw [h0] at hz hk
  exact ⟨by rw [e1]; exact hz, fun q h1 h2 => by rw [e1]; exact hk q h1 h2,
    ⟨Nat.le_trans hS.1 (by rw [e1]; exact hz), fun q h1 h2 => by rw [e1, hk q (Nat.lt_of_lt_of_le h1 hS.1) (fun z => h2 (hA q (Nat.lt_of_lt_of_le h1 hS.1) z))]; exact hS.2.1 q h1 h2, fun q hq => by
      rcases List.mem_append.mp hq with h | h
      · exact hS.2.2 q h
      · exact hf _ (hL q h)⟩⟩
theorem vx_calli {S SX : Type} {post : Int32 → S → Prop} {px : SX → Prop} {B : S → State → Prop} {BX : String → SX → State → Prop} {AX : Nat → Prop} (hr : vx_Run p l e R s m args below meth c H locs cells slots mc ms (F0 m pc ls st0) rest (va_Qi post B A1 a) (vx_X px BX AX) free) (hS : va_S A0 H0 H locs) (hA : ∀ q, q < H.size → A1 q → A0 q) (hf : ∀ q, free q → A0 q) (hAX : ∀ q, q < H.size → AX q → A0 q)
    (kx : ∀ (E : String) (ce : Cell) (q9 : Addr) (u : SX) (t : State) (H1 : Heap) (locs1 : List Loc), t.heap = H1 → s.vm.Alike t.vm → px u → BX E u t → H.size ≤ H1.size → (∀ q : Nat, q < H.size → ¬ AX q → H1[q]? = H[q]?) → va_S A0 H0 H1 locs1 → H1[q9]? = some ce → ce.vm = .none → s.vm.findClass E = some ce.cls → vx_W p l e R s m args below meth c H1 locs1 (cells + mc) (slots + ms) Q (F0 m pc ls rest) q9)
    (kk : ∀ (r : Int32) (u : S) (t : State) (H1 : Heap) (locs1 : List Loc), t.heap = H1 → s.vm.Alike t.vm → post r u → B u t → H.size ≤ H1.size → (∀ q : Nat, q < H.size → ¬ A1 q → H1[q]? = H[q]?) → va_S A0 H0 H1 locs1 → W p l e R s m args below meth c H1 locs1 (cells + mc) (slots + ms) Q (F0 m (pc + 3) ls (.int r :: rest))) : W p l e R s m args below meth c H locs cells slots Q (F0 m pc ls st0) := by
  intro T hT X
  rcases hr T hT X with ⟨v, st₀, t, T', L, h0, X', hL, e1, e2, ⟨⟨r, u, hv, hp, hb⟩, hF⟩, st⟩ | ⟨q, st₀, t, T', L, E, ce, h0, X', hL, e1, e2, ⟨u, hp, hb, hF⟩, hce, hcv, hcl, st⟩
  · cases hv
    obtain ⟨k1, k2, k3⟩ := vx_keep h0 e1 hS hA hf hL hF
    obtain ⟨t2, a1, b1⟩ := kk r u t T'.heap (locs ++ L) e1.symm (by rw [← e2]; exact X'.warmed.alike) hp hb k1 k2 k3 T' rfl X'
    exact ⟨t2, st t2 a1, b1⟩
  · obtain ⟨k1, k2, k3⟩ := vx_keep h0 e1 hS hAX hf hL hF
    obtain ⟨t2, a1, b1⟩ := kx E ce q u t T'.heap (locs ++ L) e1.symm (by rw [← e2]; exact X'.warmed.alike) hp hb k1 k2 k3 (by rw [e1]; exact hce) hcv hcl T' rfl X'
    exact ⟨t2, st.trans a1, b1⟩
theorem vx_calll {S SX : Type} {post : Int64 → S → Prop} {px : SX → Prop} {B : S → State → Prop} {BX : String → SX → State → Prop} {AX : Nat → Prop} (hr : vx_Run p l e R s m args below meth c H locs cells slots mc ms (F0 m pc ls st0) rest (va_Ql post B A1 a) (vx_X px BX AX) free) (hS : va_S A0 H0 H locs) (hA : ∀ q, q < H.size → A1 q → A0 q) (hf : ∀ q, free q → A0 q) (hAX : ∀ q, q < H.size → AX q → A0 q)
    (kx : ∀ (E : String) (ce : Cell) (q9 : Addr) (u : SX) (t : State) (H1 : Heap) (locs1 : List Loc), t.heap = H1 → s.vm.Alike t.vm → px u → BX E u t → H.size ≤ H1.size → (∀ q : Nat, q < H.size → ¬ AX q → H1[q]? = H[q]?) → va_S A0 H0 H1 locs1 → H1[q9]? = some ce → ce.vm = .none → s.vm.findClass E = some ce.cls → vx_W p l e R s m args below meth c H1 locs1 (cells + mc) (slots + ms) Q (F0 m pc ls rest) q9)
    (kk : ∀ (r : Int64) (u : S) (t : State) (H1 : Heap) (locs1 : List Loc), t.heap = H1 → s.vm.Alike t.vm → post r u → B u t → H.size ≤ H1.size → (∀ q : Nat, q < H.size → ¬ A1 q → H1[q]? = H[q]?) → va_S A0 H0 H1 locs1 → W p l e R s m args below meth c H1 locs1 (cells + mc) (slots + ms) Q (F0 m (pc + 3) ls (.long r :: rest))) : W p l e R s m args below meth c H locs cells slots Q (F0 m pc ls st0) := by
  intro T hT X
  rcases hr T hT X with ⟨v, st₀, t, T', L, h0, X', hL, e1, e2, ⟨⟨r, u, hv, hp, hb⟩, hF⟩, st⟩ | ⟨q, st₀, t, T', L, E, ce, h0, X', hL, e1, e2, ⟨u, hp, hb, hF⟩, hce, hcv, hcl, st⟩
  · cases hv
    obtain ⟨k1, k2, k3⟩ := vx_keep h0 e1 hS hA hf hL hF
    obtain ⟨t2, a1, b1⟩ := kk r u t T'.heap (locs ++ L) e1.symm (by rw [← e2]; exact X'.warmed.alike) hp hb k1 k2 k3 T' rfl X'
    exact ⟨t2, st t2 a1, b1⟩
  · obtain ⟨k1, k2, k3⟩ := vx_keep h0 e1 hS hAX hf hL hF
    obtain ⟨t2, a1, b1⟩ := kx E ce q u t T'.heap (locs ++ L) e1.symm (by rw [← e2]; exact X'.warmed.alike) hp hb k1 k2 k3 (by rw [e1]; exact hce) hcv hcl T' rfl X'
    exact ⟨t2, st.trans a1, b1⟩
theorem vx_callf {S SX : Type} {post : UInt32 → S → Prop} {px : SX → Prop} {B : S → State → Prop} {BX : String → SX → State → Prop} {AX : Nat → Prop} (hr : vx_Run p l e R s m args below meth c H locs cells slots mc ms (F0 m pc ls st0) rest (va_Qf post B A1 a) (vx_X px BX AX) free) (hS : va_S A0 H0 H locs) (hA : ∀ q, q < H.size → A1 q → A0 q) (hf : ∀ q, free q → A0 q) (hAX : ∀ q, q < H.size → AX q → A0 q)
    (kx : ∀ (E : String) (ce : Cell) (q9 : Addr) (u : SX) (t : State) (H1 : Heap) (locs1 : List Loc), t.heap = H1 → s.vm.Alike t.vm → px u → BX E u t → H.size ≤ H1.size → (∀ q : Nat, q < H.size → ¬ AX q → H1[q]? = H[q]?) → va_S A0 H0 H1 locs1 → H1[q9]? = some ce → ce.vm = .none → s.vm.findClass E = some ce.cls → vx_W p l e R s m args below meth c H1 locs1 (cells + mc) (slots + ms) Q (F0 m pc ls rest) q9)
    (kk : ∀ (r : UInt32) (u : S) (t : State) (H1 : Heap) (locs1 : List Loc), t.heap = H1 → s.vm.Alike t.vm → post r u → B u t → H.size ≤ H1.size → (∀ q : Nat, q < H.size → ¬ A1 q → H1[q]? = H[q]?) → va_S A0 H0 H1 locs1 → W p l e R s m args below meth c H1 locs1 (cells + mc) (slots + ms) Q (F0 m (pc + 3) ls (.float r :: rest))) : W p l e R s m args below meth c H locs cells slots Q (F0 m pc ls st0) := by
  intro T hT X
  rcases hr T hT X with ⟨v, st₀, t, T', L, h0, X', hL, e1, e2, ⟨⟨r, u, hv, hp, hb⟩, hF⟩, st⟩ | ⟨q, st₀, t, T', L, E, ce, h0, X', hL, e1, e2, ⟨u, hp, hb, hF⟩, hce, hcv, hcl, st⟩
  · cases hv
    obtain ⟨k1, k2, k3⟩ := vx_keep h0 e1 hS hA hf hL hF
    obtain ⟨t2, a1, b1⟩ := kk r u t T'.heap (locs ++ L) e1.symm (by rw [← e2]; exact X'.warmed.alike) hp hb k1 k2 k3 T' rfl X'
    exact ⟨t2, st t2 a1, b1⟩
  · obtain ⟨k1, k2, k3⟩ := vx_keep h0 e1 hS hAX hf hL hF
    obtain ⟨t2, a1, b1⟩ := kx E ce q u t T'.heap (locs ++ L) e1.symm (by rw [← e2]; exact X'.warmed.alike) hp hb k1 k2 k3 (by rw [e1]; exact hce) hcv hcl T' rfl X'
    exact ⟨t2, st.trans a1, b1⟩
theorem vx_calld {S SX : Type} {post : UInt64 → S → Prop} {px : SX → Prop} {B : S → State → Prop} {BX : String → SX → State → Prop} {AX : Nat → Prop} (hr : vx_Run p l e R s m args below meth c H locs cells slots mc ms (F0 m pc ls st0) rest (va_Qd post B A1 a) (vx_X px BX AX) free) (hS : va_S A0 H0 H locs) (hA : ∀ q, q < H.size → A1 q → A0 q) (hf : ∀ q, free q → A0 q) (hAX : ∀ q, q < H.size → AX q → A0 q)
    (kx : ∀ (E : String) (ce : Cell) (q9 : Addr) (u : SX) (t : State) (H1 : Heap) (locs1 : List Loc), t.heap = H1 → s.vm.Alike t.vm → px u → BX E u t → H.size ≤ H1.size → (∀ q : Nat, q < H.size → ¬ AX q → H1[q]? = H[q]?) → va_S A0 H0 H1 locs1 → H1[q9]? = some ce → ce.vm = .none → s.vm.findClass E = some ce.cls → vx_W p l e R s m args below meth c H1 locs1 (cells + mc) (slots + ms) Q (F0 m pc ls rest) q9)
    (kk : ∀ (r : UInt64) (u : S) (t : State) (H1 : Heap) (locs1 : List Loc), t.heap = H1 → s.vm.Alike t.vm → post r u → B u t → H.size ≤ H1.size → (∀ q : Nat, q < H.size → ¬ A1 q → H1[q]? = H[q]?) → va_S A0 H0 H1 locs1 → W p l e R s m args below meth c H1 locs1 (cells + mc) (slots + ms) Q (F0 m (pc + 3) ls (.double r :: rest))) : W p l e R s m args below meth c H locs cells slots Q (F0 m pc ls st0) := by
  intro T hT X
  rcases hr T hT X with ⟨v, st₀, t, T', L, h0, X', hL, e1, e2, ⟨⟨r, u, hv, hp, hb⟩, hF⟩, st⟩ | ⟨q, st₀, t, T', L, E, ce, h0, X', hL, e1, e2, ⟨u, hp, hb, hF⟩, hce, hcv, hcl, st⟩
  · cases hv
    obtain ⟨k1, k2, k3⟩ := vx_keep h0 e1 hS hA hf hL hF
    obtain ⟨t2, a1, b1⟩ := kk r u t T'.heap (locs ++ L) e1.symm (by rw [← e2]; exact X'.warmed.alike) hp hb k1 k2 k3 T' rfl X'
    exact ⟨t2, st t2 a1, b1⟩
  · obtain ⟨k1, k2, k3⟩ := vx_keep h0 e1 hS hAX hf hL hF
    obtain ⟨t2, a1, b1⟩ := kx E ce q u t T'.heap (locs ++ L) e1.symm (by rw [← e2]; exact X'.warmed.alike) hp hb k1 k2 k3 (by rw [e1]; exact hce) hcv hcl T' rfl X'
    exact ⟨t2, st.trans a1, b1⟩
theorem vx_callv {S SX : Type} {post : S → Prop} {px : SX → Prop} {B : S → State → Prop} {BX : String → SX → State → Prop} {AX : Nat → Prop} (hr : vx_Run p l e R s m args below meth c H locs cells slots mc ms (F0 m pc ls st0) rest (va_Qv post B A1 a) (vx_X px BX AX) free) (hS : va_S A0 H0 H locs) (hA : ∀ q, q < H.size → A1 q → A0 q) (hf : ∀ q, free q → A0 q) (hAX : ∀ q, q < H.size → AX q → A0 q)
    (kx : ∀ (E : String) (ce : Cell) (q9 : Addr) (u : SX) (t : State) (H1 : Heap) (locs1 : List Loc), t.heap = H1 → s.vm.Alike t.vm → px u → BX E u t → H.size ≤ H1.size → (∀ q : Nat, q < H.size → ¬ AX q → H1[q]? = H[q]?) → va_S A0 H0 H1 locs1 → H1[q9]? = some ce → ce.vm = .none → s.vm.findClass E = some ce.cls → vx_W p l e R s m args below meth c H1 locs1 (cells + mc) (slots + ms) Q (F0 m pc ls rest) q9)
    (kk : ∀ (u : S) (t : State) (H1 : Heap) (locs1 : List Loc), t.heap = H1 → s.vm.Alike t.vm → post u → B u t → H.size ≤ H1.size → (∀ q : Nat, q < H.size → ¬ A1 q → H1[q]? = H[q]?) → va_S A0 H0 H1 locs1 → W p l e R s m args below meth c H1 locs1 (cells + mc) (slots + ms) Q (F0 m (pc + 3) ls (rest))) : W p l e R s m args below meth c H locs cells slots Q (F0 m pc ls st0) := by
  intro T hT X
  rcases hr T hT X with ⟨v, st₀, t, T', L, h0, X', hL, e1, e2, ⟨⟨u, hv, hp, hb⟩, hF⟩, st⟩ | ⟨q, st₀, t, T', L, E, ce, h0, X', hL, e1, e2, ⟨u, hp, hb, hF⟩, hce, hcv, hcl, st⟩
  · cases hv
    obtain ⟨k1, k2, k3⟩ := vx_keep h0 e1 hS hA hf hL hF
    obtain ⟨t2, a1, b1⟩ := kk u t T'.heap (locs ++ L) e1.symm (by rw [← e2]; exact X'.warmed.alike) hp hb k1 k2 k3 T' rfl X'
    exact ⟨t2, st t2 a1, b1⟩
  · obtain ⟨k1, k2, k3⟩ := vx_keep h0 e1 hS hAX hf hL hF
    obtain ⟨t2, a1, b1⟩ := kx E ce q u t T'.heap (locs ++ L) e1.symm (by rw [← e2]; exact X'.warmed.alike) hp hb k1 k2 k3 (by rw [e1]; exact hce) hcv hcl T' rfl X'
    exact ⟨t2, st.trans a1, b1⟩
/-- caught by the row x of this method's table; the rows ahead don't take it -/
theorem vx_catch {own name : String} {E : String} {ce : Cell} {q : Addr} (hown : s.vm.findClass own = some m.cls) (pre : List ExceptionTableEntry) (x : ExceptionTableEntry) (suf : List ExceptionTableEntry) (hsplit : c.exceptionTable.toList = pre ++ x :: suf)
    (hpass : ∀ z ∈ pre, covers z pc = false ∨ (z.catchType ≠ 0 ∧ ∃ nm : String, (Cond.classLink own z.catchType nm).before args s = true ∧ va_Nc E nm s)) (hx : covers x pc = true) (h0 : x.catchType ≠ 0)
    (hlink : (Cond.classLink own x.catchType name).before args s = true) (hcast : (Cond.castable E name).before args s = true) (hcell : H[q]? = some ce) (hv : ce.vm = .none) (hcl : s.vm.findClass E = some ce.cls)
    (kk : W p l e R s m args below meth c H locs cells slots Q (F0 m x.handlerPc ls [.ref q])) : vx_W p l e R s m args below meth c H locs cells slots Q (F0 m pc ls rest) q := by
  intro T hT X
  have hpl : e.platform.magicAccessors = ({} : Platform).magicAccessors := by rw [X.admits.platform]
  obtain ⟨c3, c4, hc3, hc4, hasg⟩ := Cond.castable_spec hcast
  cases Option.some.inj (hc3.symm.trans hcl)
  obtain ⟨c5, hc5, hcl5⟩ := Cond.classLink_spec hown hlink e.platform hpl
  cases Option.some.inj (hc4.symm.trans hc5)
  obtain ⟨vm', X', st⟩ := X.thenCaughtThrough q (g := F0 m pc ls rest) rfl (Steps.refl _) (by rw [hT]; exact hcell) (by rw [hv]; rfl) (by obtain ⟨k9, h9, -⟩ := Vm.findClass_spec hcl; exact ⟨k9, h9⟩) pre x suf hsplit
    (fun z hz => by
      rcases hpass z hz with h | ⟨hz0, nm, hl1, hn1⟩
      · exact Or.inl h
      · obtain ⟨c6, hc6, hcl6⟩ := Cond.classLink_spec hown hl1 e.platform hpl
        obtain ⟨a8, b8, h1, h2, h3⟩ := hn1
        cases Option.some.inj (h1.symm.trans hcl)
        cases Option.some.inj (h2.symm.trans hc6)
        exact Or.inr ⟨hz0, _, hcl6, h3⟩) hx (Or.inr ⟨h0, c4, hcl5, hasg⟩)
  obtain ⟨t, a1, b1⟩ := kk (T.setVm vm') hT X'
  exact ⟨t, st.trans a1, b1⟩
end Rows
section Ends
variable {p : Program} {l : Launch} {e : Env} {R : Room} {s : State} {m : MethodId} {args : Array Value} {below : List Frame} {meth : Method} {c : Code} {H : Heap} {locs : List Loc} {cells slots : Nat} {Q : State → Prop}
variable {mc ms : Nat} {free : Addr → Prop} {A0 A1 : Nat → Prop} {H0 : Heap} {a : Array Value} {ls : Array Slot} {st0 rest : List Value}
variable {Qc : Array Value → State → Outcome → State → Prop} {XC : String → State → State → Prop}
/-- what a body that may throw owes at its end -/
def vx_MQ (below : List Frame) (Qc : Array Value → State → Outcome → State → Prop) (XC : String → State → State → Prop) (a : Array Value) (s : State) (mc ms : Nat) (free : Addr → Prop) : State → Prop := fun t =>
  ∃ o, t.status = .running ∧ Ended t below o ∧ vx_Q Qc XC mc ms free a s o t
theorem vx_ret {g : JFrame} {mc ms : Nat} (k : W p l e R s m args below meth c H locs cells slots (MQ below Qc args s mc ms free) g) : W p l e R s m args below meth c H locs cells slots (vx_MQ below Qc XC args s mc ms free) g := by
  intro T hT X
  obtain ⟨t, a1, o, b1, b2, b3, b4⟩ := k T hT X
  exact ⟨t, a1, o, b1, b2, Or.inl ⟨b3, b4⟩⟩
/-- not caught here: it goes on to the caller -/
theorem vx_widen {g : JFrame} {q : Addr} {k n : Nat} (h1 : cells ≤ k) (h2 : slots ≤ n) (kk : vx_W p l e R s m args below meth c H locs k n Q g q) : vx_W p l e R s m args below meth c H locs cells slots Q g q := fun T hT X => kk T hT (stand_widen X h1 h2)
theorem vx_out {pc : Nat} {E : String} {ce : Cell} {q : Addr} {mc ms : Nat} (hout : ∀ x ∈ c.exceptionTable.toList, covers x pc = false) (hlocks : meth.locks = false) (hcell : H[q]? = some ce) (hv : ce.vm = .none) (hcl : s.vm.findClass E = some ce.cls)
    (hx : ∀ t : State, t.heap = H → s.vm.Alike t.vm → XC E s t) (hf : ∀ z ∈ locs, free z.base) (hc : cells ≤ mc) (hs : slots ≤ ms) :
    vx_W p l e R s m args below meth c H locs cells slots (vx_MQ below Qc XC args s mc ms free) (F0 m pc ls rest) q := by
  intro T hT X
  obtain ⟨st1, hrun, hend, hW, hsm⟩ := X.leaveThrown q (g := F0 m pc ls rest) rfl rfl rfl hout hlocks
  have hcell9 : (T.setFrames (.throwing q :: below)).heap[q]? = some ce := by
    show T.heap[q]? = some ce
    rw [hT]; exact hcell
  exact ⟨_, st1, .threw q, hrun, hend, Or.inr ⟨q, rfl, E, ce, locs, hx _ hT hW.alike, hcell9, hv, hcl, hW, hsm.mono hc hs, hf⟩⟩
theorem vx_frame {U : State} {k n : Nat} (h : s.sameButNew ({ U with vm := s.vm } : State) locs k n) : s.heap.size ≤ U.heap.size ∧ ∀ q : Nat, q < s.heap.size → (∀ z ∈ locs, z.base ≠ q) → U.heap[q]? = s.heap[q]? := by
  obtain ⟨-, h2, -, -, -, h6⟩ := h
  refine ⟨h2, fun q hq hz => ?_⟩
  obtain ⟨c9, e1, e2, e3, e4⟩ := h6 q _ (Array.getElem?_eq_getElem hq)
  have hs : c9.slots = (s.heap[q]).slots := Array.ext_getElem? fun i => e4 i fun hm => hz _ hm rfl
  have h9 : c9 = s.heap[q] := by
    rw [hs] at e2
    exact e2
  have e5 : U.heap[q]? = some c9 := e1
  rw [e5, h9, Array.getElem?_eq_getElem hq]
/-- the words of a throw but the four that speak of the heap -/
def vx_no (w : Cond) : Bool := decide (w ≠ .isRef (.static Bundle.tN "UNASSIGNED_STACK" Bundle.steD)) && decide (w ≠ .isRef (.static Bundle.tN "SUPPRESSED_SENTINEL" Bundle.listD)) && decide (w ≠ .laysStatic Bundle.tN "UNASSIGNED_STACK" Bundle.steD) && decide (w ≠ .laysStatic Bundle.tN "SUPPRESSED_SENTINEL" Bundle.listD)
def vx_at0 (own : String) (ic : Nat) (X : String) (names : List String) : List Cond := (Bundle.ownAtoms0 own ic X names).filter vx_no
def vx_atS (own : String) (ic : Nat) (X : String) (names : List String) : List Cond := (Bundle.ownAtoms own ic X names).filter vx_no
/-- a word that the tables alone decide, or a good one -/
def vx_ot (w : Cond) : Bool := w.onTables || goodWord w
theorem vx_ot_at {args a' : Array Value} {s U : State} {w : Cond} (hW : s.WarmedH U.vm) (hvm : s.vm = U.vm) (hg : vx_ot w = true) (h : w.before args s = true) : w.before a' U = true := by
  simp only [vx_ot, Bool.or_eq_true] at hg
  rcases hg with hg | hg
  · exact va_tabs hg hvm h
  · exact word_at hW (good_of_word hg) h
/-- a list's words: the good ones out of the method's own list, the others by premises of their own -/
theorem vx_hat {args : Array Value} {s : State} {L B : List Cond} (h1 : ∀ w ∈ L.filter goodWord, w.before args s = true) (h2 : ∀ w ∈ L.filter (fun w => !goodWord w), w ∈ B) (h3 : ∀ w ∈ B, w.before args s = true) : ∀ w ∈ L, w.before args s = true := by
  intro w hw
  by_cases g : goodWord w = true
  · exact h1 w (List.mem_filter.mpr ⟨hw, g⟩)
  · refine h3 w (h2 w (List.mem_filter.mpr ⟨hw, ?_⟩))
    show (!goodWord w) = true
    cases hgw : goodWord w
    · rfl
    · exact absurd hgw g
theorem vx_c {args : Array Value} {s : State} {w : Cond} {B : List Cond} (h : w.before args s = true) (t : ∀ w ∈ B, w.before args s = true) : ∀ w' ∈ w :: B, w'.before args s = true := fun w' h' => (List.mem_cons.mp h').elim (fun e => by rw [e]; exact h) (t w')
theorem vx_n {args : Array Value} {s : State} : ∀ w ∈ ([] : List Cond), w.before args s = true := fun _ h => nomatch h
theorem vx_own {args : Array Value} {s : State} {L : List Cond} (h1 : ∀ w ∈ L.filter vx_no, w.before args s = true)
    (hU : (Cond.isRef (.static Bundle.tN "UNASSIGNED_STACK" Bundle.steD)).before args s = true) (hN : (Cond.isRef (.static Bundle.tN "SUPPRESSED_SENTINEL" Bundle.listD)).before args s = true)
    (lU : (Cond.laysStatic Bundle.tN "UNASSIGNED_STACK" Bundle.steD).before args s = true) (lN : (Cond.laysStatic Bundle.tN "SUPPRESSED_SENTINEL" Bundle.listD).before args s = true) : ∀ w ∈ L, w.before args s = true := by
  intro w hw
  by_cases e1 : w = .isRef (.static Bundle.tN "UNASSIGNED_STACK" Bundle.steD)
  · rw [e1]; exact hU
  · by_cases e2 : w = .isRef (.static Bundle.tN "SUPPRESSED_SENTINEL" Bundle.listD)
    · rw [e2]; exact hN
    · by_cases e3 : w = .laysStatic Bundle.tN "UNASSIGNED_STACK" Bundle.steD
      · rw [e3]; exact lU
      · by_cases e4 : w = .laysStatic Bundle.tN "SUPPRESSED_SENTINEL" Bundle.listD
        · rw [e4]; exact lN
        · exact h1 w (List.mem_filter.mpr ⟨hw, by unfold vx_no; rw [decide_eq_true e1, decide_eq_true e2, decide_eq_true e3, decide_eq_true e4]; rfl⟩)
/-- where a static field lies, its class's statics cell in H -/
def vx_L (C n d : String) (A : Nat → Prop) (U : State) (H : Heap) : Prop := ∃ (c : ClassId) (k : Class) (i : Nat) (f : Field) (a : Nat) (cell : Cell), U.vm.findClass C = some c ∧ U.fieldFound? C n d = some (c, k, i, f) ∧ f.isStatic = true ∧ k.statics = some a ∧ H[a]? = some cell ∧ cell.vm.isStatics = true ∧ cell.cls = c ∧ f.slot < cell.slots.size ∧ k.staticTypes[f.slot]? = some f.type ∧ ¬ A a
theorem vx_L.moved {C n d : String} {A : Nat → Prop} {u U : State} {H : Heap} (hvm : u.vm.Alike U.vm) (h : vx_L C n d A u H) : vx_L C n d A U H := by
  obtain ⟨c, k, i, f, a, cell, h1, h2, h3, h4, h5, h6, h7, h8, h9, h10⟩ := h
  obtain ⟨k', hi', he⟩ := State.fieldFound?_setVm hvm h2
  exact ⟨c, k', i, f, a, cell, by rw [hvm.findClass]; exact h1, hi', h3, by rw [he]; exact h4, h5, h6, h7, h8, by rw [he]; exact h9, h10⟩
theorem vx_L.kept {C n d : String} {A : Nat → Prop} {U : State} {H H1 : Heap} (h : vx_L C n d A U H) (hq : ∀ a : Nat, a < H.size → ¬ A a → H1[a]? = H[a]?) : vx_L C n d A U H1 := by
  obtain ⟨c, k, i, f, a, cell, h1, h2, h3, h4, h5, h6, h7, h8, h9, h10⟩ := h
  exact ⟨c, k, i, f, a, cell, h1, h2, h3, h4, by rw [hq a (Array.getElem?_eq_some_iff.mp h5).1 h10]; exact h5, h6, h7, h8, h9, h10⟩
theorem vx_L.narrow {C n d : String} {A B : Nat → Prop} {U : State} {H : Heap} (h : vx_L C n d A U H) (hAB : ∀ q, B q → A q) : vx_L C n d B U H := by
  obtain ⟨c, k, i, f, a, cell, h1, h2, h3, h4, h5, h6, h7, h8, h9, h10⟩ := h
  exact ⟨c, k, i, f, a, cell, h1, h2, h3, h4, h5, h6, h7, h8, h9, fun z => h10 (hAB _ z)⟩
theorem vx_L.word {C n d : String} {A : Nat → Prop} {s : State} {args : Array Value} (h : vx_L C n d A s s.heap) : (Cond.laysStatic C n d).before args s = true := by
  obtain ⟨c, k, i, f, a, cell, h1, h2, h3, h4, h5, h6, h7, h8, h9, -⟩ := h
  show (Cond.laysStatic C n d).holds args s none s [] = true
  exact Cond.laysStatic_of h1 h2 h3 h4 h5 h6 h7 h8 h9
/-- .. and what it holds: null or some reference -/
def vx_Zq (C n d : String) (A : Nat → Prop) (U : State) (H : Heap) : Prop := va_Zq C n d A U H ∧ vx_L C n d A U H
theorem vx_Zq.moved {C n d : String} {A : Nat → Prop} {u U : State} {H : Heap} (hvm : u.vm.Alike U.vm) (h : vx_Zq C n d A u H) : vx_Zq C n d A U H := ⟨va_Zq.moved hvm h.1, vx_L.moved hvm h.2⟩
theorem vx_Zq.kept {C n d : String} {A : Nat → Prop} {U : State} {H H1 : Heap} (h : vx_Zq C n d A U H) (hq : ∀ a : Nat, a < H.size → ¬ A a → H1[a]? = H[a]?) : vx_Zq C n d A U H1 := ⟨va_Zq.kept h.1 hq, vx_L.kept h.2 hq⟩
theorem vx_Zq.narrow {C n d : String} {A B : Nat → Prop} {U : State} {H : Heap} (h : vx_Zq C n d A U H) (hAB : ∀ q, B q → A q) : vx_Zq C n d B U H := ⟨va_Zq.narrow h.1 hAB, vx_L.narrow h.2 hAB⟩
theorem vx_Zqof {args : Array Value} {s : State} {C n d : String} {A : Nat → Prop} (hl : (Cond.laysStatic C n d).before args s = true) (hini : (Cond.initialized C).before args s = true) (h : (Cond.isRef (.static C n d)).before args s = true) (hA : ∀ a : Nat, a < s.heap.size → ¬ A a) : vx_Zq C n d A s s.heap := by
  refine ⟨va_Zqof hl hini h hA, ?_⟩
  obtain ⟨c, k, i, f, a, cell, h1, h2, h3, h4, h5, h6, h7, h8, h9⟩ := Cond.laysStatic_spec hl
  exact ⟨c, k, i, f, a, cell, h1, h2, h3, h4, h5, h6, h7, h8, h9, hA a (Array.getElem?_eq_some_iff.mp h5).1⟩
theorem vx_isRef {C n d : String} {v : Value} {A : Nat → Prop} {s : State} {args : Array Value} (h : va_Z C n d v A s s.heap) (hv : v.isRef = true) : (Cond.isRef (.static C n d)).before args s = true := by
  obtain ⟨cf, kf, fi, f, a, cell, h1, h2, h3, h4, h5, h6, h7, -⟩ := h
  have he : (Term.static C n d).eval args s none [] s = some v := by
    simp [Term.eval, State.fieldNamed?, h1, h2, h4, h5, h6, h7]
  simp only [Cond.before, Cond.holds, Cond.value, he]
  cases v <;> simp_all [Value.isRef]
theorem vx_isRefq {C n d : String} {A : Nat → Prop} {s : State} {args : Array Value} (h : va_Zq C n d A s s.heap) : (Cond.isRef (.static C n d)).before args s = true := by
  rcases h with h | ⟨t, h⟩
  · exact vx_isRef h rfl
  · exact vx_isRef h rfl
/-- the same frame, seen from here: as if the method were called anew in this heap -/
theorem vx_rebase {T : State} (X : Stand p l e R s m args below meth c T locs cells slots) {R' : Room} (hf : R'.frames ≤ R.frames) (hl : R'.locals ≤ R.locals) (hc : cells + R'.cells ≤ R.cells) (hs : slots + R'.slots ≤ R.slots) :
    Stand p l e R' ((T.setVm s.vm).setFrames (.invoking m args :: below)) m args below meth c T [] 0 0 := by
  have htop : (T.setVm s.vm).topJava?.isSome := X.here.top
  have hF : ((T.setVm s.vm).setFrames (.invoking m args :: below)).frames = .invoking m args :: below := State.frames_setFrames _ (State.cur_lt_of_top htop)
  obtain ⟨g₀, hg0⟩ := Option.isSome_iff_exists.mp htop
  obtain ⟨r, hr⟩ := State.topJava?_eq_some.mp hg0
  have hl9 : e.platform.stackLimits (T.setVm s.vm).me = e.platform.stackLimits s.me := X.limits
  have hb9 : (T.setVm s.vm).me.stackBytes = s.me.stackBytes := X.bytes
  refine ⟨X.admits, X.cas, X.clock, hF, ?_, X.hears, X.method, X.code, X.here, X.tail, X.warmed, ?_, ?_, ?_⟩
  · have h := X.room
    have hU : ((T.setVm s.vm).setFrames (.invoking m args :: below)).localsInUse = s.localsInUse := by
      rw [State.localsInUse_invoking hF (meth := meth) (c := c) X.method X.code, State.localsInUse_invoking X.frames X.method X.code]
    simp only [State.hasRoom, Bool.and_eq_true, decide_eq_true_eq] at h ⊢
    obtain ⟨⟨⟨⟨h1, h2, h3, h4, h5, h6⟩, h7⟩, h8⟩, h9⟩ := h
    rw [X.frames, List.length_cons] at h2 h3
    have q1 := X.heapSize
    have q2 := X.used
    simp only [hF, hU, List.length_cons, State.stackLimits_setFrames, State.stackBytes_setFrames, hl9, hb9]
    refine ⟨⟨⟨⟨by omega, by omega, by omega, by omega, by omega, h6⟩, ?_⟩, ?_⟩, X.book⟩
    · show T.heap.size + R'.cells ≤ e.platform.maxCells
      omega
    · show T.slotsUsed + R'.slots ≤ e.platform.maxSlots
      omega
  · rw [State.stackLimits_setFrames]; rfl
  · rw [State.stackBytes_setFrames]; rfl
  · refine ⟨?_, Nat.le_refl _, Nat.le_refl _, ?_, ?_, fun a c9 h9 => ⟨c9, h9, rfl, rfl, fun _ _ => rfl⟩⟩
    · obtain ⟨t, ht, -⟩ := State.frames_cons hr
      show T.setVm s.vm = { ((T.setVm s.vm).setFrames (.invoking m args :: below)).setFrames (T.setVm s.vm).frames with heap := T.heap, slotsUsed := T.slotsUsed }
      rw [State.setFrames_setFrames, State.setFrames_self ht]
      rfl
    · show T.slotsUsed = T.slotsUsed + ((T.heap.toList.drop T.heap.size).map (·.slots.size)).sum
      rw [List.drop_eq_nil_of_le (Nat.le_of_eq Array.length_toList)]
      rfl
    · show ((T.heap.toList.drop T.heap.size).map (·.slots.size)).sum ≤ 0
      rw [List.drop_eq_nil_of_le (Nat.le_of_eq Array.length_toList)]
      exact Nat.le_refl _
/-- 'throw new E()': new; dup; invokespecial; athrow -/
theorem vx_throw0 {cc : ByteArray} {pc : Nat} (hexec : p.tables.exec = Jvm.exec) (hb : c.code = cc) (hl : l.stackTraces = false) {own cls : String} {names : List String} {ik ic mc ms : Nat} {A : Nat → Prop}
    (hown : s.vm.findClass own = some m.cls) (hcls : Bundle.fit cls = true) (hnames : ∀ n ∈ names, Bundle.fit n = true)
    (hk : (Cond.classLink own ik cls).before args s = true) (hini : (Cond.initialized cls).before args s = true) (hat : ∀ w ∈ vx_at0 own ic cls names, w.before args s = true)
    (hgood : ∀ w ∈ Cond.classLink own ik cls :: Cond.initialized cls :: vx_at0 own ic cls names, vx_ot w = true)
    (hU : vx_Zq Bundle.tN "UNASSIGNED_STACK" Bundle.steD A s s.heap) (hN : vx_Zq Bundle.tN "SUPPRESSED_SENTINEL" Bundle.listD A s s.heap) (hS : va_S A s.heap H locs) (hsize : ls.size = c.maxLocals)
    (d0 : decode cc pc = .ok (.new ik, 3)) (d3 : decode cc (pc + 3) = .ok (.dup, 1)) (d4 : decode cc (pc + 4) = .ok (.invokespecial ic, 3)) (d7 : decode cc (pc + 7) = .ok (.athrow, 1))
    (hout : ∀ x ∈ c.exceptionTable.toList, covers x (pc + 7) = false)
    (hRframes : names.length + 3 < R.frames) (hRlocals : (rest.map fun v => v.category).sum + (13 * (names.length + 1) + 42) ≤ R.locals) (hRcells : cells + 1 ≤ R.cells) (hRslots : slots + 6 ≤ R.slots) (hlocks : meth.locks = false)
    (hx : ∀ t : State, s.vm.Alike t.vm → H.size ≤ t.heap.size → (∀ q : Nat, q < H.size → t.heap[q]? = H[q]?) → XC cls s t)
    (hf : ∀ z ∈ locs, free z.base) (hc : cells + 1 ≤ mc) (hs : slots + 6 ≤ ms) :
    W p l e R s m args below meth c H locs cells slots (vx_MQ below Qc XC args s mc ms free) (F0 m pc ls rest) := by
  intro T hT X
  have htr : e.platform.stackTraces = false := (show e.platform.stackTraces = l.stackTraces by rw [X.admits.platform]).trans hl
  have Y := vx_rebase X (R' := { frames := R.frames, locals := R.locals, cells := 1, slots := 6 }) (Nat.le_refl _) (Nat.le_refl _) hRcells hRslots
  obtain ⟨s', hA⟩ : ∃ z, z = (T.setVm s.vm).setFrames (.invoking m args :: below) := ⟨_, rfl⟩
  rw [← hA] at Y
  have hvm : s'.vm = s.vm := by rw [hA]; rfl
  have hhp : s'.heap = H := by rw [hA]; exact hT
  have hW0 : s.WarmedH s'.vm := by rw [hvm]; exact State.WarmedH.refl s
  have hat' : ∀ w ∈ vx_at0 own ic cls names, w.before args s' = true := fun w hw => vx_ot_at hW0 hvm.symm (hgood w (List.mem_cons_of_mem _ (List.mem_cons_of_mem _ hw))) (hat w hw)
  have hk' : (Cond.classLink own ik cls).before args s' = true := vx_ot_at hW0 hvm.symm (hgood _ List.mem_cons_self) hk
  have hini' : (Cond.initialized cls).before args s' = true := vx_ot_at hW0 hvm.symm (hgood _ (List.mem_cons_of_mem _ List.mem_cons_self)) hini
  have hU' : vx_Zq Bundle.tN "UNASSIGNED_STACK" Bundle.steD A s' s'.heap := by rw [hhp]; exact vx_Zq.moved hW0.alike (hU.kept hS.2.1)
  have hN' : vx_Zq Bundle.tN "SUPPRESSED_SENTINEL" Bundle.listD A s' s'.heap := by rw [hhp]; exact vx_Zq.moved hW0.alike (hN.kept hS.2.1)
  have h : ∀ w ∈ Bundle.ownAtoms0 own ic cls names, w.before args s' = true := vx_own hat' (vx_isRefq hU'.1) (vx_isRefq hN'.1) hU'.2.word hN'.2.word
  have hown' : s'.vm.findClass own = some m.cls := by rw [hvm]; exact hown
  have hins : (Cond.instantiable cls 6).before args s' = true := h _ (by simp [Bundle.ownAtoms0])
  obtain ⟨vm₁, cX, kX, hfX, hkX, -, -, X₁, st1⟩ := Y.newCold hexec (own := own) (C := cls) (index := ik) (n := 6) hown' hk' hins hini'
    (g := F0 m pc ls rest) rfl (by rw [hb]; exact d0) (Nat.le_refl _) (Nat.le_refl _)
  generalize hT1 : (T.setVm vm₁).pushCell { cls := cX, slots := kX.instanceTypes.map defaultValue, vm := .none } = T1 at X₁ st1
  have hcat : (Value.ref T.heap.size).category = 1 := rfl
  have hcellA : T1.heap[T.heap.size]? = some (freshCell cX kX) := by rw [← hT1]; exact State.heap_pushCell_size _ _
  have d3' : decode c.code (pc + 3) = .ok (.dup, 1) := by rw [hb]; exact d3
  obtain ⟨U, hsteps, hrun, hend, hW, hsame, ce, hce, hO⟩ := X₁.ctorThrow0 hexec htr (own := own) (cls := cls) (names := names) (ic := ic) hown' hcls hnames h (fun x hx => nomatch hx) hfX hkX hcellA (by rw [hhp, hT]; exact Nat.le_refl _)
    (g := { method := m, pc := pc + 4, locals := ls, stack := .ref T.heap.size :: .ref T.heap.size :: rest, locked := none }) rfl hsize rfl rfl (rest := rest) rfl
    (by rw [hb]; exact d4) (by rw [hb]; exact d7) hout hRframes (by simp only [List.map_cons, List.sum_cons, hcat]; omega) hlocks
  obtain ⟨f1, f2⟩ := vx_frame hsame
  rw [hhp] at f1 f2
  have hWs : s.WarmedH U.vm := State.WarmedH.trans hW0 hW
  have hcl : s.vm.findClass cls = some ce.cls := by
    have h9 := hO.cls
    rw [hvm] at h9
    exact h9
  have hall : s.sameButNew ({ U with vm := s.vm } : State) locs mc ms := by
    subst hA
    obtain ⟨e1, e2⟩ := hsame
    rw [State.setFrames_setFrames] at e1
    have h2 : (T.setVm s.vm).sameButNew ({ U with vm := s.vm } : State) [] (0 + 1) (0 + 6) := ⟨e1, e2⟩
    have h3 := X.same.trans h2
    rw [List.append_nil] at h3
    exact h3.mono hc hs
  refine ⟨U, ?_, .threw T.heap.size, hrun, hend, Or.inr ⟨T.heap.size, rfl, cls, ce, locs, hx U hWs.alike f1 (fun q hq => f2 q hq (fun z hz => nomatch hz)), hce, hO.vm, hcl, hWs, hall, hf⟩⟩
  refine st1 _ ?_
  show Steps p.tables e below (T1.setTop { method := m, pc := pc + 3, locals := ls, stack := .ref T.heap.size :: rest, locked := none }) _
  jvm_step X₁.here [X₁.here.top, hexec, d3', Value.category]
  exact hsteps
/-- 'throw new E("text")': new; dup; ldc; invokespecial; athrow -/
theorem vx_throwS {cc : ByteArray} {pc : Nat} (hexec : p.tables.exec = Jvm.exec) (hb : c.code = cc) (hl : l.stackTraces = false) {own cls text : String} {names : List String} {ik is ic mc ms sa : Nat} {A : Nat → Prop}
    (hown : s.vm.findClass own = some m.cls) (hcls : Bundle.fit cls = true) (hnames : ∀ n ∈ names, Bundle.fit n = true)
    (hk : (Cond.classLink own ik cls).before args s = true) (hini : (Cond.initialized cls).before args s = true) (hstr : vk_R own is text sa s) (hat : ∀ w ∈ vx_atS own ic cls names, w.before args s = true)
    (hgood : ∀ w ∈ Cond.classLink own ik cls :: Cond.initialized cls :: vx_atS own ic cls names, vx_ot w = true)
    (hU : vx_Zq Bundle.tN "UNASSIGNED_STACK" Bundle.steD A s s.heap) (hN : vx_Zq Bundle.tN "SUPPRESSED_SENTINEL" Bundle.listD A s s.heap) (hS : va_S A s.heap H locs) (hsize : ls.size = c.maxLocals)
    (d0 : decode cc pc = .ok (.new ik, 3)) (d3 : decode cc (pc + 3) = .ok (.dup, 1)) (d4 : decode cc (pc + 4) = .ok (.ldc is, 2)) (d6 : decode cc (pc + 6) = .ok (.invokespecial ic, 3)) (d9 : decode cc (pc + 9) = .ok (.athrow, 1))
    (hout : ∀ x ∈ c.exceptionTable.toList, covers x (pc + 9) = false)
    (hRframes : names.length + 3 < R.frames) (hRlocals : (rest.map fun v => v.category).sum + (13 * (names.length + 1) + 43) ≤ R.locals) (hRcells : cells + 1 ≤ R.cells) (hRslots : slots + 6 ≤ R.slots) (hlocks : meth.locks = false)
    (hx : ∀ t : State, s.vm.Alike t.vm → H.size ≤ t.heap.size → (∀ q : Nat, q < H.size → t.heap[q]? = H[q]?) → XC cls s t)
    (hf : ∀ z ∈ locs, free z.base) (hc : cells + 1 ≤ mc) (hs : slots + 6 ≤ ms) :
    W p l e R s m args below meth c H locs cells slots (vx_MQ below Qc XC args s mc ms free) (F0 m pc ls rest) := by
  intro T hT X
  have htr : e.platform.stackTraces = false := (show e.platform.stackTraces = l.stackTraces by rw [X.admits.platform]).trans hl
  have Y := vx_rebase X (R' := { frames := R.frames, locals := R.locals, cells := 1, slots := 6 }) (Nat.le_refl _) (Nat.le_refl _) hRcells hRslots
  obtain ⟨s', hA⟩ : ∃ z, z = (T.setVm s.vm).setFrames (.invoking m args :: below) := ⟨_, rfl⟩
  rw [← hA] at Y
  have hvm : s'.vm = s.vm := by rw [hA]; rfl
  have hhp : s'.heap = H := by rw [hA]; exact hT
  have hW0 : s.WarmedH s'.vm := by rw [hvm]; exact State.WarmedH.refl s
  have hat' : ∀ w ∈ vx_atS own ic cls names, w.before args s' = true := fun w hw => vx_ot_at hW0 hvm.symm (hgood w (List.mem_cons_of_mem _ (List.mem_cons_of_mem _ hw))) (hat w hw)
  have hk' : (Cond.classLink own ik cls).before args s' = true := vx_ot_at hW0 hvm.symm (hgood _ List.mem_cons_self) hk
  have hini' : (Cond.initialized cls).before args s' = true := vx_ot_at hW0 hvm.symm (hgood _ (List.mem_cons_of_mem _ List.mem_cons_self)) hini
  have hU' : vx_Zq Bundle.tN "UNASSIGNED_STACK" Bundle.steD A s' s'.heap := by rw [hhp]; exact vx_Zq.moved hW0.alike (hU.kept hS.2.1)
  have hN' : vx_Zq Bundle.tN "SUPPRESSED_SENTINEL" Bundle.listD A s' s'.heap := by rw [hhp]; exact vx_Zq.moved hW0.alike (hN.kept hS.2.1)
  have h : ∀ w ∈ Bundle.ownAtoms own ic cls names, w.before args s' = true := vx_own hat' (vx_isRefq hU'.1) (vx_isRefq hN'.1) hU'.2.word hN'.2.word
  have hown' : s'.vm.findClass own = some m.cls := by rw [hvm]; exact hown
  have hins : (Cond.instantiable cls 6).before args s' = true := h _ (by simp [Bundle.ownAtoms])
  obtain ⟨vm₁, cX, kX, hfX, hkX, -, -, X₁, st1⟩ := Y.newCold hexec (own := own) (C := cls) (index := ik) (n := 6) hown' hk' hins hini'
    (g := F0 m pc ls rest) rfl (by rw [hb]; exact d0) (Nat.le_refl _) (Nat.le_refl _)
  generalize hT1 : (T.setVm vm₁).pushCell { cls := cX, slots := kX.instanceTypes.map defaultValue, vm := .none } = T1 at X₁ st1
  have hcat : (Value.ref T.heap.size).category = 1 := rfl
  have hcellA : T1.heap[T.heap.size]? = some (freshCell cX kX) := by rw [← hT1]; exact State.heap_pushCell_size _ _
  have d3' : decode c.code (pc + 3) = .ok (.dup, 1) := by rw [hb]; exact d3
  have d4' : decode c.code (pc + 4) = .ok (.ldc is, 2) := by rw [hb]; exact d4
  have hstr' : vk_R own is text sa s' := vk_R.warm hW0 hstr
  obtain ⟨U, hsteps, hrun, hend, hW, hsame, ce, hce, hO⟩ := X₁.ctorThrowS hexec htr (own := own) (cls := cls) (names := names) (ic := ic) hown' hcls hnames h (fun x hx => nomatch hx) hfX hkX hcellA (by rw [hhp, hT]; exact Nat.le_refl _) (msg := .ref sa) rfl
    (g := { method := m, pc := pc + 6, locals := ls, stack := .ref sa :: .ref T.heap.size :: .ref T.heap.size :: rest, locked := none }) rfl hsize rfl rfl (rest := rest) rfl
    (by rw [hb]; exact d6) (by rw [hb]; exact d9) hout hRframes (by simp only [List.map_cons, List.sum_cons, hcat]; omega) hlocks
  obtain ⟨f1, f2⟩ := vx_frame hsame
  rw [hhp] at f1 f2
  have hWs : s.WarmedH U.vm := State.WarmedH.trans hW0 hW
  have hcl : s.vm.findClass cls = some ce.cls := by
    have h9 := hO.cls
    rw [hvm] at h9
    exact h9
  have hall : s.sameButNew ({ U with vm := s.vm } : State) locs mc ms := by
    subst hA
    obtain ⟨e1, e2⟩ := hsame
    rw [State.setFrames_setFrames] at e1
    have h2 : (T.setVm s.vm).sameButNew ({ U with vm := s.vm } : State) [] (0 + 1) (0 + 6) := ⟨e1, e2⟩
    have h3 := X.same.trans h2
    rw [List.append_nil] at h3
    exact h3.mono hc hs
  refine ⟨U, ?_, .threw T.heap.size, hrun, hend, Or.inr ⟨T.heap.size, rfl, cls, ce, locs, hx U hWs.alike f1 (fun q hq => f2 q hq (fun z hz => nomatch hz)), hce, hO.vm, hcl, hWs, hall, hf⟩⟩
  refine st1 _ ?_
  show Steps p.tables e below (T1.setTop { method := m, pc := pc + 3, locals := ls, stack := .ref T.heap.size :: rest, locked := none }) _
  jvm_step X₁.here [X₁.here.top, hexec, d3', Value.category]
  exact X₁.ldcString hexec (own := own) (text := text) (index := is) (a := sa) hown' hstr'.1 hstr'.2
    (g := { method := m, pc := pc + 4, locals := ls, stack := .ref T.heap.size :: .ref T.heap.size :: rest, locked := none }) rfl d4' _ hsteps
/-- 'throw new E("text")', the text by a wide index -/
theorem vx_throwSW {cc : ByteArray} {pc : Nat} (hexec : p.tables.exec = Jvm.exec) (hb : c.code = cc) (hl : l.stackTraces = false) {own cls text : String} {names : List String} {ik is ic mc ms sa : Nat} {A : Nat → Prop}
    (hown : s.vm.findClass own = some m.cls) (hcls : Bundle.fit cls = true) (hnames : ∀ n ∈ names, Bundle.fit n = true)
    (hk : (Cond.classLink own ik cls).before args s = true) (hini : (Cond.initialized cls).before args s = true) (hstr : vk_R own is text sa s) (hat : ∀ w ∈ vx_atS own ic cls names, w.before args s = true)
    (hgood : ∀ w ∈ Cond.classLink own ik cls :: Cond.initialized cls :: vx_atS own ic cls names, vx_ot w = true)
    (hU : vx_Zq Bundle.tN "UNASSIGNED_STACK" Bundle.steD A s s.heap) (hN : vx_Zq Bundle.tN "SUPPRESSED_SENTINEL" Bundle.listD A s s.heap) (hS : va_S A s.heap H locs) (hsize : ls.size = c.maxLocals)
    (d0 : decode cc pc = .ok (.new ik, 3)) (d3 : decode cc (pc + 3) = .ok (.dup, 1)) (d4 : decode cc (pc + 4) = .ok (.ldc_w is, 3)) (d7 : decode cc (pc + 7) = .ok (.invokespecial ic, 3)) (d10 : decode cc (pc + 10) = .ok (.athrow, 1))
    (hout : ∀ x ∈ c.exceptionTable.toList, covers x (pc + 10) = false)
    (hRframes : names.length + 3 < R.frames) (hRlocals : (rest.map fun v => v.category).sum + (13 * (names.length + 1) + 43) ≤ R.locals) (hRcells : cells + 1 ≤ R.cells) (hRslots : slots + 6 ≤ R.slots) (hlocks : meth.locks = false)
    (hx : ∀ t : State, s.vm.Alike t.vm → H.size ≤ t.heap.size → (∀ q : Nat, q < H.size → t.heap[q]? = H[q]?) → XC cls s t)
    (hf : ∀ z ∈ locs, free z.base) (hc : cells + 1 ≤ mc) (hs : slots + 6 ≤ ms) :
    W p l e R s m args below meth c H locs cells slots (vx_MQ below Qc XC args s mc ms free) (F0 m pc ls rest) := by
  intro T hT X
  have htr : e.platform.stackTraces = false := (show e.platform.stackTraces = l.stackTraces by rw [X.admits.platform]).trans hl
  have Y := vx_rebase X (R' := { frames := R.frames, locals := R.locals, cells := 1, slots := 6 }) (Nat.le_refl _) (Nat.le_refl _) hRcells hRslots
  obtain ⟨s', hA⟩ : ∃ z, z = (T.setVm s.vm).setFrames (.invoking m args :: below) := ⟨_, rfl⟩
  rw [← hA] at Y
  have hvm : s'.vm = s.vm := by rw [hA]; rfl
  have hhp : s'.heap = H := by rw [hA]; exact hT
  have hW0 : s.WarmedH s'.vm := by rw [hvm]; exact State.WarmedH.refl s
  have hat' : ∀ w ∈ vx_atS own ic cls names, w.before args s' = true := fun w hw => vx_ot_at hW0 hvm.symm (hgood w (List.mem_cons_of_mem _ (List.mem_cons_of_mem _ hw))) (hat w hw)
  have hk' : (Cond.classLink own ik cls).before args s' = true := vx_ot_at hW0 hvm.symm (hgood _ List.mem_cons_self) hk
  have hini' : (Cond.initialized cls).before args s' = true := vx_ot_at hW0 hvm.symm (hgood _ (List.mem_cons_of_mem _ List.mem_cons_self)) hini
  have hU' : vx_Zq Bundle.tN "UNASSIGNED_STACK" Bundle.steD A s' s'.heap := by rw [hhp]; exact vx_Zq.moved hW0.alike (hU.kept hS.2.1)
  have hN' : vx_Zq Bundle.tN "SUPPRESSED_SENTINEL" Bundle.listD A s' s'.heap := by rw [hhp]; exact vx_Zq.moved hW0.alike (hN.kept hS.2.1)
  have h : ∀ w ∈ Bundle.ownAtoms own ic cls names, w.before args s' = true := vx_own hat' (vx_isRefq hU'.1) (vx_isRefq hN'.1) hU'.2.word hN'.2.word
  have hown' : s'.vm.findClass own = some m.cls := by rw [hvm]; exact hown
  have hins : (Cond.instantiable cls 6).before args s' = true := h _ (by simp [Bundle.ownAtoms])
  obtain ⟨vm₁, cX, kX, hfX, hkX, -, -, X₁, st1⟩ := Y.newCold hexec (own := own) (C := cls) (index := ik) (n := 6) hown' hk' hins hini'
    (g := F0 m pc ls rest) rfl (by rw [hb]; exact d0) (Nat.le_refl _) (Nat.le_refl _)
  generalize hT1 : (T.setVm vm₁).pushCell { cls := cX, slots := kX.instanceTypes.map defaultValue, vm := .none } = T1 at X₁ st1
  have hcat : (Value.ref T.heap.size).category = 1 := rfl
  have hcellA : T1.heap[T.heap.size]? = some (freshCell cX kX) := by rw [← hT1]; exact State.heap_pushCell_size _ _
  have d3' : decode c.code (pc + 3) = .ok (.dup, 1) := by rw [hb]; exact d3
  have d4' : decode c.code (pc + 4) = .ok (.ldc_w is, 3) := by rw [hb]; exact d4
  have hstr' : vk_R own is text sa s' := vk_R.warm hW0 hstr
  obtain ⟨U, hsteps, hrun, hend, hW, hsame, ce, hce, hO⟩ := X₁.ctorThrowS hexec htr (own := own) (cls := cls) (names := names) (ic := ic) hown' hcls hnames h (fun x hx => nomatch hx) hfX hkX hcellA (by rw [hhp, hT]; exact Nat.le_refl _) (msg := .ref sa) rfl
    (g := { method := m, pc := pc + 7, locals := ls, stack := .ref sa :: .ref T.heap.size :: .ref T.heap.size :: rest, locked := none }) rfl hsize rfl rfl (rest := rest) rfl
    (by rw [hb]; exact d7) (by rw [hb]; exact d10) hout hRframes (by simp only [List.map_cons, List.sum_cons, hcat]; omega) hlocks
  obtain ⟨f1, f2⟩ := vx_frame hsame
  rw [hhp] at f1 f2
  have hWs : s.WarmedH U.vm := State.WarmedH.trans hW0 hW
  have hcl : s.vm.findClass cls = some ce.cls := by
    have h9 := hO.cls
    rw [hvm] at h9
    exact h9
  have hall : s.sameButNew ({ U with vm := s.vm } : State) locs mc ms := by
    subst hA
    obtain ⟨e1, e2⟩ := hsame
    rw [State.setFrames_setFrames] at e1
    have h2 : (T.setVm s.vm).sameButNew ({ U with vm := s.vm } : State) [] (0 + 1) (0 + 6) := ⟨e1, e2⟩
    have h3 := X.same.trans h2
    rw [List.append_nil] at h3
    exact h3.mono hc hs
  refine ⟨U, ?_, .threw T.heap.size, hrun, hend, Or.inr ⟨T.heap.size, rfl, cls, ce, locs, hx U hWs.alike f1 (fun q hq => f2 q hq (fun z hz => nomatch hz)), hce, hO.vm, hcl, hWs, hall, hf⟩⟩
  refine st1 _ ?_
  show Steps p.tables e below (T1.setTop { method := m, pc := pc + 3, locals := ls, stack := .ref T.heap.size :: rest, locked := none }) _
  jvm_step X₁.here [X₁.here.top, hexec, d3', Value.category]
  exact X₁.ldcStringW hexec (own := own) (text := text) (index := is) (a := sa) hown' hstr'.1 hstr'.2
    (g := { method := m, pc := pc + 4, locals := ls, stack := .ref T.heap.size :: .ref T.heap.size :: rest, locked := none }) rfl d4' _ hsteps
end Ends
section Bodies
variable {l : Launch}
theorem vx_ofW {y : MethodName} {ws ws' : List Cond} {rm : Room} {Pc : Array Value → State → Prop} {Qc : Array Value → State → Outcome → State → Prop} {XC : String → State → State → Prop} {mc ms : Nat} {free : Addr → Prop} {cc : ByteArray} {maxL : Nat} {ret : Option FieldType}
    (hy : plainName y.cls = true) (hw : ws = Cond.code y cc maxL ret :: ws')
    (body : ∀ p e s m args below meth c s₁, BodyLoose p l y (headSpec ws rm) cc maxL ret e s m args below meth c s₁ → c.maxLocals = maxL → (∀ x ∈ c.exceptionTable.toList, False) → Pc args s →
      W p l e (headSpec ws rm).room s m args below meth c s.heap [] 0 0 (vx_MQ below Qc XC args s mc ms free) (entryFrame m args maxL)) : vx_Met l y ws rm Pc Qc XC mc ms free := by
  refine MetFree.of_bodyS (code := cc) (maxLocals := maxL) (ret := ret) hy ?_ ?_
  · intro args s m h hn
    obtain ⟨meth, c, h1, h2, h3, h4, h5, h6, -, -⟩ := Cond.code_spec hn (atoms_spec (ws := ws) h _ (by rw [hw]; exact List.mem_cons_self))
    exact ⟨meth, c, h1, h2, h3, h4, h5, h6⟩
  · intro p e s m args below meth c s₁ B hml hP _
    have hh0 : s₁.heap = s.heap := by rw [B.state]; rfl
    have ht : ∀ x ∈ c.exceptionTable.toList, False := by
      obtain ⟨meth9, c9, h1, h2, -, -, -, -, h7, -⟩ := Cond.code_spec B.named (atoms_spec (ws := ws) B.pre _ (by rw [hw]; exact List.mem_cons_self))
      cases Option.some.inj (h1.symm.trans B.method)
      cases Option.some.inj (h2.symm.trans (Stand.of_body B).code)
      intro x hx
      rw [Array.isEmpty_iff.mp h7] at hx
      cases hx
    obtain ⟨t, a1, o, b1, b2, b3⟩ := body p e s m args below meth c s₁ B hml ht hP s₁ hh0 (Stand.of_body B)
    exact ⟨t, o, a1, b1, b2, b3⟩
/-- the table of a body with handlers -/
theorem vx_table {p : Program} {x y : MethodName} {S : Spec} {cc bytes : ByteArray} {maxL maxL' : Nat} {ret ret' : Option FieldType} {e : Env} {s s₁ : State} {m : MethodId} {args : Array Value} {below : List Frame} {meth : Method} {c : Code} {hh : List (Nat × Nat × Nat × Nat)}
    (B : BodyLoose p l y S cc maxL ret e s m args below meth c s₁) (h : (Cond.codeWith y bytes maxL' ret' hh).before args s = true) : c.exceptionTable.toList = tableOf hh := by
  obtain ⟨m9, meth9, c9, hn9, h1, h2, -, -, h6, -⟩ := Cond.codeWith_spec h
  cases Option.some.inj (hn9.symm.trans B.named)
  cases Option.some.inj (h1.symm.trans B.method)
  cases Option.some.inj (h2.symm.trans (Stand.of_body B).code)
  rw [← h6, table_eq]
end Bodies
end VXA
/-! ===== END ===== -/
/-! ===== BEGIN a static call of a method with an exception table ===== -/
section VXS
variable {p : Program} {l : Launch} {e : Env} {R : Room} {s : State} {m : MethodId} {args : Array Value} {below : List Frame} {meth : Method} {c : Code} {T : State} {H : Heap} {locs : List Loc} {cells slots : Nat}
abbrev vx_CSW (R : Room) (s : State) (args : Array Value) (own : String) (index : Nat) (y : MethodName) (bytes : ByteArray) (maxL : Nat) (ret : Option FieldType) (hh : List (Nat × Nat × Nat × Nat)) (ws : List Cond) (rm : Room) (mc ms n : Nat) : Prop :=
  (rm.cells = mc ∧ rm.slots = ms ∧ rm.frames + 1 ≤ R.frames ∧ 8 + (maxL + 11) + rm.locals ≤ R.locals ∧ (∀ w ∈ ws, ∀ (a' : Array Value) (U : State), s.WarmedH U.vm → w.before a' U = true) ∧ Cond.codeWith y bytes maxL ret hh ∈ ws) ∧
  (Cond.codeWith y bytes maxL ret hh).before args s = true ∧ (Cond.initialized y.cls).before args s = true ∧ (y.cls ≠ "java/lang/invoke/MethodHandle" ∧ y.cls ≠ "java/lang/invoke/VarHandle") ∧
  (∀ sig, parseMethodDescriptor y.desc = some sig → n = sig.parameters.length) ∧ (Cond.methodLink own index y).before args s = true ∧ (Cond.static y).before args s = true
theorem vx_cwSW {own : String} {index maxL mc ms : Nat} {y : MethodName} {bytes : ByteArray} {ret : Option FieldType} {hh : List (Nat × Nat × Nat × Nat)} {Ts ws ws' : List Cond} {rm : Room} (n : Nat) (ht : ∀ w ∈ Ts, w.before args s = true) (hT : GoodIn Ts (va_wsS own index y ws)) (hw : ws = Cond.codeWith y bytes maxL ret hh :: ws') (hrc : rm.cells = mc) (hrs : rm.slots = ms)
    (hd : y.cls ≠ "java/lang/invoke/MethodHandle" ∧ y.cls ≠ "java/lang/invoke/VarHandle" ∧ (parseMethodDescriptor y.desc).map (fun d => d.parameters.length) = some n) (hR : rm.frames + 1 ≤ R.frames ∧ 8 + (maxL + 11) + rm.locals ≤ R.locals) :
    vx_CSW R s args own index y bytes maxL ret hh ws rm mc ms n := by
  have ok : ∀ w ∈ va_wsS own index y ws, w.before args s = true := fun w h => ht w (hT w h).1
  have hG : GoodIn Ts ws := fun w h => hT w (by unfold va_wsS; exact List.mem_append_right _ h)
  have hc : Cond.codeWith y bytes maxL ret hh ∈ ws := by rw [hw]; exact List.mem_cons_self
  refine ⟨⟨hrc, hrs, hR.1, hR.2, pay_in ht hG, hc⟩, ht _ (hG _ hc).1, ok _ (by simp [va_wsS]), ⟨hd.1, hd.2.1⟩, fun sig h => ?_, ok _ (by simp [va_wsS]), ok _ (by simp [va_wsS])⟩
  have h2 := hd.2.2
  rw [h] at h2
  exact (Option.some.inj h2).symm
theorem vx_callSW (X : Stand p l e R s m args below meth c T locs cells slots) (hexec : p.tables.exec = Jvm.exec) {own : String} {index : Nat} {y : MethodName} {bytes : ByteArray} {maxL : Nat} {ret : Option FieldType} {hh : List (Nat × Nat × Nat × Nat)}
    (hown : s.vm.findClass own = some m.cls) (hlink : (Cond.methodLink own index y).before args s = true) (hstat : (Cond.static y).before args s = true) (hinit : (Cond.initialized y.cls).before args s = true)
    (hcode : (Cond.codeWith y bytes maxL ret hh).before args s = true) (hy : y.cls ≠ "java/lang/invoke/MethodHandle" ∧ y.cls ≠ "java/lang/invoke/VarHandle")
    {W9 : Nat} {Pre : Pt → Array Value → Prop} {Post : Pt → Array Value → Option Value → Pt → Prop} (hK : Back l R p e below s args y 3 W9 Pre Post)
    {g : JFrame} (hg : g.method = m) (hsize : g.locals.size = c.maxLocals) {argsL rest : List Value} (hlen : ∀ sig, parseMethodDescriptor y.desc = some sig → argsL.length = sig.parameters.length)
    (hstack : g.stack = argsL.reverse ++ rest) (hW : 2 * g.monitorRoom + (rest.map fun v => v.category).sum ≤ W9) (hdg : decode c.code g.pc = .ok (.invokestatic index, 3))
    (hpre : ∀ vm₁, s.WarmedH vm₁ → Pre ⟨T.setVm vm₁, locs, cells, slots⟩ argsL.toArray) :
    ∃ (v : Option Value) (vm₁ : Vm) (B : Pt), s.WarmedH vm₁ ∧ Stand p l e R s m args below meth c B.U B.locs B.cells B.slots ∧ Post ⟨T.setVm vm₁, locs, cells, slots⟩ argsL.toArray v B ∧
      ∀ target, Steps p.tables e below (B.U.setTop { g with pc := g.pc + 3, stack := v.toList ++ rest }) target → Steps p.tables e below (T.setTop g) target := by
  obtain ⟨mk, methM, cM, hnamed, hmethM, -, -, -, -, -, -, hsigM⟩ := Cond.codeWith_spec hcode
  have hstatic : methM.isStatic = true := Cond.static_spec hnamed hmethM hstat
  obtain ⟨kP, hkP, -⟩ := className_of_methodNamed hnamed
  have hinitP : kP.init = .initialized := Cond.initialized_spec (findClass_of_methodNamed hnamed) hkP hinit
  obtain ⟨vm₁, X₁, hstep₁⟩ := X.invokestatic hexec hown hlink hnamed hmethM hstatic hkP hinitP hy (g := g) hg (argsL := argsL) (rest := rest) (hlen _ hsigM) hstack hdg
  obtain ⟨v, B, X', hpost, hsteps⟩ := hK m meth c ⟨T.setVm vm₁, locs, cells, slots⟩ { g with stack := rest } (.invokestatic index) mk argsL.toArray X₁ hg hsize hdg hW (X₁.named hnamed) (hpre vm₁ X₁.warmed)
  exact ⟨v, vm₁, B, X₁.warmed, X', hpost, fun target h => hstep₁ _ fun acts => by rw [doInvoke_state]; exact hsteps.trans h⟩
theorem vx_runSW {y : MethodName} {bytes cc : ByteArray} {maxL nL mc ms n index : Nat} {ret : Option FieldType} {hh : List (Nat × Nat × Nat × Nat)} {ws : List Cond} {rm : Room} {Pc : Array Value → State → Prop} {Qc : Array Value → State → Outcome → State → Prop} {free : Addr → Prop} {Ts : List Cond} {own : String} {As rest : List Value} {g : JFrame}
    (S : CallFix p m c cc nL s args Ts own) (hM : Met l y ws rm Pc Qc mc ms free) (cw : vx_CSW R s args own index y bytes maxL ret hh ws rm mc ms n) (hp : PreS s H Pc As)
    (hg : g.method = m) (hn : As.length = n) (hsize : g.locals.size = nL) (hstack : g.stack = As.reverse ++ rest) (hW : 2 * g.monitorRoom + (rest.map fun v => v.category).sum ≤ 8) (hdg : decode cc g.pc = .ok (.invokestatic index, 3)) (hf : cells + mc ≤ R.cells ∧ slots + ms ≤ R.slots) :
    va_Run p l e R s m args below meth c H locs cells slots mc ms g rest (Qc As.toArray) (free) := by
  obtain ⟨⟨hrc, hrs, hfr, hlo, hws, hcw⟩, hcode, hini, hy, hlen, hl, hstt⟩ := cw
  have hK : Back l R p e below s args y 3 8 (PreOf R mc ms Pc) (PostOf Qc mc ms free) := va_backW (hh := hh) (bytes := bytes) (maxL := maxL) (ret := ret) hM hp.1 hrc hrs hfr hlo hws hcw (fun a' U hW => word_at hW (Or.inl (by first | rfl | simp [Cond.onTables, Cond.keeps, Cond.steady])) hini)
  obtain ⟨hx, hb, hml, ho, -⟩ := S
  intro T hT X
  obtain ⟨v, vm₁, ⟨U', l2, c2, s2⟩, hW₁, X', ⟨g', mk, t, L, e1, e2, hq, h1, hL, h2, h3⟩, st⟩ := vx_callSW X hx (hh := hh) (bytes := bytes) (maxL := maxL) (ret := ret) ho hl hstt hini hcode hy hK hg (hsize.trans hml.symm) (argsL := As) (rest := rest) (fun sig h => hn.trans (hlen sig h)) hstack hW (by rw [hb]; exact hdg)
    (fun vm₁ hW₁ => ⟨hf.1, hf.2, hp.2 (T.setVm vm₁) hT hW₁⟩)
  dsimp only [Pt.U, Pt.locs, Pt.cells, Pt.slots] at X' e1 e2 h1 h2 h3 st
  subst h1; subst h2; subst h3
  exact ⟨v, (T.setVm vm₁).calling g' mk As.toArray, t, U', L, hT, X', hL, e1, e2, hq, st⟩
/-- not caught here, past rows that name other classes: it goes on to the caller -/
theorem vx_outP {p : Program} {l : Launch} {e : Env} {R : Room} {s : State} {m : MethodId} {args : Array Value} {below : List Frame} {meth : Method} {c : Code} {H : Heap} {locs : List Loc} {cells slots : Nat} {free : Addr → Prop} {ls : Array Slot} {rest : List Value} {Qc : Array Value → State → Outcome → State → Prop} {XC : String → State → State → Prop}
    {pc : Nat} {own E : String} {ce : Cell} {q : Addr} {mc ms : Nat} (hown : s.vm.findClass own = some m.cls) (hlocks : meth.locks = false)
    (hpass : ∀ z ∈ c.exceptionTable.toList, covers z pc = false ∨ (z.catchType ≠ 0 ∧ ∃ nm : String, (Cond.classLink own z.catchType nm).before args s = true ∧ va_Nc E nm s)) (hcell : H[q]? = some ce) (hv : ce.vm = .none) (hcl : s.vm.findClass E = some ce.cls)
    (hx : ∀ t : State, t.heap = H → s.vm.Alike t.vm → XC E s t) (hf : ∀ z ∈ locs, free z.base) (hc : cells ≤ mc) (hs : slots ≤ ms) :
    vx_W p l e R s m args below meth c H locs cells slots (vx_MQ below Qc XC args s mc ms free) (F0 m pc ls rest) q := by
  intro T hT X
  have hpl : e.platform.magicAccessors = ({} : Platform).magicAccessors := by rw [X.admits.platform]
  obtain ⟨vm', hW', X', st⟩ := X.outThrough hlocks q (g := F0 m pc ls rest) rfl rfl rfl (cell := ce) (by rw [hT]; exact hcell) (by rw [hv]; rfl)
    (by obtain ⟨k9, h9, -⟩ := Vm.findClass_spec hcl; exact ⟨k9, h9⟩) (fun z hz => by
      rcases hpass z hz with h | ⟨hz0, nm, hl1, hn1⟩
      · exact Or.inl h
      · obtain ⟨c6, hc6, hcl6⟩ := Cond.classLink_spec hown hl1 e.platform hpl
        obtain ⟨a8, b8, h1, h2, h3⟩ := hn1
        cases Option.some.inj (h1.symm.trans hcl)
        cases Option.some.inj (h2.symm.trans hc6)
        exact Or.inr ⟨hz0, _, hcl6, h3⟩)
  obtain ⟨g₀, hfr⟩ := X'.frames_eq
  have hcell9 : ((T.setVm vm').setFrames (.throwing q :: below)).heap[q]? = some ce := by
    show T.heap[q]? = some ce
    rw [hT]; exact hcell
  have hend : Ended ((T.setVm vm').setFrames (.throwing q :: below)) below (.threw q) := State.frames_setFrames _ (State.cur_lt_of_frames hfr)
  refine ⟨(T.setVm vm').setFrames (.throwing q :: below), ?_, .threw q, X'.here.running, hend, Or.inr ⟨q, rfl, E, ce, locs, hx _ hT (X'.ends _).1.alike, hcell9, hv, hcl, (X'.ends _).1, (X'.ends _).2.mono hc hs, hf⟩⟩
  rw [X.pushThrowing_eq]
  exact st
/-- a thing of a world lies in the heap -/
theorem vx_lt {D : va_G} {cl : List vw_C} {ws : va_W} {H1 : Heap} (h : va_P D cl ws H1) {k : Nat} {q : Nat × va_E} (hk : ws[k]? = some q) : q.1 < H1.size := (h k q hk).lt
end VXS
/-! ===== END ===== -/
/-! ===== BEGIN methods with a table of their own: called by a name, returning or throwing ===== -/
section VXH
/-! vx_backW, vx_callVX, vx_callSX, vx_callVW, vx_runVW, vx_runVX, vx_runSX, vx_ofWH follow the same proofs as their sisters above (Free/Laws.lean, Shelf42/LK1.lean); vx_outP calls Shelf42/NT130.lean (outThrough). -/
section
variable {l : Launch} {R : Room} {p : Program} {e : Env} {below : List Frame} {s : State} {sargs : Array Value} {y : MethodName} {len W9 : Nat}
theorem vx_backW {ws : List Cond} {rm : Room} {Pc : Array Value → State → Prop} {Qc : Array Value → State → Outcome → State → Prop} {XC : String → State → State → Prop} {mc ms : Nat} {free : Addr → Prop} {bytes : ByteArray} {maxL : Nat} {ret : Option FieldType} {hh : List (Nat × Nat × Nat × Nat)}
    (hM : vx_Met l y ws rm Pc Qc XC mc ms free) (hblind : FrameBlind Pc) (hrc : rm.cells = mc) (hrs : rm.slots = ms)
    (hframes : rm.frames + 1 ≤ R.frames) (hlocals : W9 + (maxL + 11) + rm.locals ≤ R.locals)
    (hws : ∀ w ∈ ws, ∀ a' U, s.WarmedH U.vm → w.before a' U = true) (hcode : Cond.codeWith y bytes maxL ret hh ∈ ws) (hinit : ∀ a' U, s.WarmedH U.vm → (Cond.initialized y.cls).before a' U = true) :
    vx_Back l R p e below s sargs y len W9 (PreOf R mc ms Pc) (PostOf Qc mc ms free) (vx_Post XC mc ms free) := by
  intro m meth c A g ig mk a X hg hsize hdg hW hn hp
  have h1 : (headSpec ws rm).pre.before a A.U = true := atoms_intro fun w hw => hws w hw _ _ X.warmed
  have h2 : (Cond.codeWith y bytes maxL ret hh).before a A.U = true := hws _ hcode _ _ X.warmed
  have h3 : (Cond.initialized y.cls).before a A.U = true := hinit _ _ X.warmed
  have h4 : A.cells + (headSpec ws rm).room.cells ≤ R.cells := by rw [show (headSpec ws rm).room.cells = mc from hrc]; exact hp.1
  have h5 : A.slots + (headSpec ws rm).room.slots ≤ R.slots := by rw [show (headSpec ws rm).room.slots = ms from hrs]; exact hp.2.1
  have hPc : Pc a (A.U.calling g mk a) := hblind _ _ _ _ hp.2.2
  obtain ⟨U, Ls, c0, s0⟩ := A
  dsimp only [Pt.U, Pt.locs, Pt.cells, Pt.slots] at h1 h2 h3 h4 h5 X hn hPc ⊢
  obtain ⟨m9, methY, cY, hn9, hmY, hcY, -, hlY, -⟩ := Cond.codeWith_spec h2
  cases Option.some.inj (hn9.symm.trans hn)
  obtain ⟨kY, hkY, -⟩ := className_of_methodNamed hn
  have hinitY : kY.init = .initialized := Cond.initialized_spec (findClass_of_methodNamed hn) hkY h3
  have h : At U g.method c below := by rw [hg]; exact X.here
  have hlocals9 : W9 + (maxL + 11) + (headSpec ws rm).room.locals ≤ R.locals := hlocals
  have happ : (headSpec ws rm).appliesLoose y e.platform (U.calling g mk a) = true :=
    Spec.appliesLoose_calling (g := g) h hdg hn hkY hinitY
      (X.room_calling (g := g) (R' := (headSpec ws rm).room) hsize hmY hcY hframes (by rw [hlY]; omega) h4 h5) h1
  obtain ⟨mid, hmid⟩ := h.above
  have hfr : (U.setTop g).frames = (.java g :: mid) ++ below := by rw [State.frames_setTop' g h.top, hmid]; rfl
  obtain ⟨o, s₂, hsteps, -, hend, hq⟩ := Steps.callFree hM p X.admits X.cas X.clock (acts := []) hfr happ hPc trivial
  have hq' : vx_Q Qc XC mc ms free a (U.calling g mk a) o s₂ := hq
  rw [State.frames_setTop' g h.top] at hend
  obtain ⟨g₀, hg0⟩ := Option.isSome_iff_exists.mp h.top
  obtain ⟨r, hr⟩ := State.topJava?_eq_some.mp hg0
  have hr' : (({ U with heap := s₂.heap, slotsUsed := s₂.slotsUsed } : State).setVm s₂.vm).frames = .java g₀ :: r := hr
  rcases hq' with ⟨hqc, L, hfe, hL⟩ | ⟨q, rfl, E, ce, L, hx, hce, hcv, hcl, hW₂, hsm, hL⟩
  · obtain ⟨⟨v, rfl⟩, hW₂, e2, q2, q3, q4, q5, q6⟩ := id hfe
    have e3 : s₂ = ({ (U.calling g mk a).setFrames s₂.frames with heap := s₂.heap, slotsUsed := s₂.slotsUsed } : State).setVm s₂.vm := by
      have : s₂ = ({ s₂ with vm := (U.calling g mk a).vm } : State).setVm s₂.vm := rfl
      rw [e2] at this
      exact this
    obtain ⟨c₂, i₂, len₂, hc₂, hd₂, hf₂⟩ := hend
    have hW' : U.WarmedH s₂.vm := hW₂
    have hcc : c₂ = c := by
      have h1 : s₂.code? g.method = U.code? g.method := by
        rw [State.code?_eq, State.code?_eq, hW'.alike.method?]
      exact Option.some.inj (hc₂.symm.trans (h1.trans h.code))
    subst hcc
    have hlen : len₂ = len := by rw [hdg] at hd₂; cases hd₂; rfl
    subst hlen
    have hs₂ : s₂ = (({ U with heap := s₂.heap, slotsUsed := s₂.slotsUsed } : State).setVm s₂.vm).setTop { g with pc := g.pc + len₂, stack := v.toList ++ g.stack } := by
      refine e3.trans ?_
      rw [hf₂, State.calling_eq h.top, State.setFrames_setFrames, State.setTop_of_frames _ hr', hr]
      rfl
    have hsame : U.sameButNew ({ U with heap := s₂.heap, slotsUsed := s₂.slotsUsed } : State) L mc ms := by
      refine ⟨?_, q2, q3, q4, q5, q6⟩
      obtain ⟨t, ht, -⟩ := State.frames_cons hr
      show ({ U with heap := s₂.heap, slotsUsed := s₂.slotsUsed } : State) = { U.setFrames U.frames with heap := s₂.heap, slotsUsed := s₂.slotsUsed }
      rw [State.setFrames_self ht]
    subst hg
    refine Or.inl ⟨v, ⟨(({ U with heap := s₂.heap, slotsUsed := s₂.slotsUsed } : State).setVm s₂.vm), Ls ++ L, c0 + mc, s0 + ms⟩,
      ⟨X.admits, X.cas, X.clock, X.frames, X.room, X.hears, X.method, X.code, (X.here.setHeapUsed s₂.heap s₂.slotsUsed).setVm hW'.alike, X.tail, State.WarmedH.trans X.warmed hW', X.limits, X.bytes, X.same.trans (hsame.setVm s.vm)⟩,
      ⟨g, mk, s₂, L, rfl, rfl, hqc, rfl, hL, rfl, rfl⟩, ?_⟩
    show Steps p.tables e below _ ((({ U with heap := s₂.heap, slotsUsed := s₂.slotsUsed } : State).setVm s₂.vm).setTop { g with pc := g.pc + len₂, stack := v.toList ++ g.stack })
    rw [← hs₂]
    exact hsteps
  · obtain ⟨e2, q2, q3, q4, q5, q6⟩ := id hsm
    have e3 : s₂ = ({ (U.calling g mk a).setFrames s₂.frames with heap := s₂.heap, slotsUsed := s₂.slotsUsed } : State).setVm s₂.vm := by
      have : s₂ = ({ s₂ with vm := (U.calling g mk a).vm } : State).setVm s₂.vm := rfl
      rw [e2] at this
      exact this
    have hf₂ : s₂.frames = .throwing q :: .java g :: U.frames.tail := hend
    have hW' : U.WarmedH s₂.vm := hW₂
    have hs₂ : s₂ = ((({ U with heap := s₂.heap, slotsUsed := s₂.slotsUsed } : State).setVm s₂.vm).setTop g).pushFrame (.throwing q) := by
      refine e3.trans ?_
      rw [hf₂, State.calling_eq h.top, State.setFrames_setFrames, State.pushFrame, State.frames_setTop _ hr', State.setTop_of_frames _ hr', State.setFrames_setFrames, hr]
      rfl
    have hsame : U.sameButNew ({ U with heap := s₂.heap, slotsUsed := s₂.slotsUsed } : State) L mc ms := by
      refine ⟨?_, q2, q3, q4, q5, q6⟩
      obtain ⟨t, ht, -⟩ := State.frames_cons hr
      show ({ U with heap := s₂.heap, slotsUsed := s₂.slotsUsed } : State) = { U.setFrames U.frames with heap := s₂.heap, slotsUsed := s₂.slotsUsed }
      rw [State.setFrames_self ht]
    subst hg
    refine Or.inr ⟨q, ⟨(({ U with heap := s₂.heap, slotsUsed := s₂.slotsUsed } : State).setVm s₂.vm), Ls ++ L, c0 + mc, s0 + ms⟩,
      ⟨X.admits, X.cas, X.clock, X.frames, X.room, X.hears, X.method, X.code, (X.here.setHeapUsed s₂.heap s₂.slotsUsed).setVm hW'.alike, X.tail, State.WarmedH.trans X.warmed hW', X.limits, X.bytes, X.same.trans (hsame.setVm s.vm)⟩,
      ⟨g, mk, s₂, L, E, ce, rfl, rfl, hx, hce, hcv, hcl, rfl, hL, rfl, rfl⟩, ?_⟩
    show Steps p.tables e below _ (((({ U with heap := s₂.heap, slotsUsed := s₂.slotsUsed } : State).setVm s₂.vm).setTop g).pushFrame (.throwing q))
    rw [← hs₂]
    exact hsteps
end
variable {p : Program} {l : Launch} {e : Env} {R : Room} {s : State} {m : MethodId} {args : Array Value} {below : List Frame} {meth : Method} {c : Code} {T : State} {H : Heap} {locs : List Loc} {cells slots : Nat}
theorem vx_callVX (X : Stand p l e R s m args below meth c T locs cells slots) (hexec : p.tables.exec = Jvm.exec) {own C : String} {index : Nat} {y : MethodName} {bytes : ByteArray} {maxL : Nat} {ret : Option FieldType} {hh : List (Nat × Nat × Nat × Nat)}
    (hown : s.vm.findClass own = some m.cls) (hlink : (Cond.methodLink own index y).before args s = true) (hinst : (Cond.instanceMethod y).before args s = true) (hsel : (Cond.selects C y y).before args s = true)
    (hcode : (Cond.codeWith y bytes maxL ret hh).before args s = true) (hy : y.cls ≠ "java/lang/invoke/MethodHandle" ∧ y.cls ≠ "java/lang/invoke/VarHandle")
    {W9 : Nat} {Pre : Pt → Array Value → Prop} {Post : Pt → Array Value → Option Value → Pt → Prop} {PostX : Pt → Array Value → Addr → Pt → Prop} (hK : vx_Back l R p e below s args y 3 W9 Pre Post PostX)
    {b : Addr} {cellB : Cell} (hcell : T.heap[b]? = some cellB) (hobj : cellB.vm.isStatics = false) (hcls : s.vm.findClass C = some cellB.cls)
    {g : JFrame} (hg : g.method = m) (hsize : g.locals.size = c.maxLocals) {argsL rest : List Value} (hlen : ∀ sig, parseMethodDescriptor y.desc = some sig → argsL.length = sig.parameters.length)
    (hstack : g.stack = argsL.reverse ++ .ref b :: rest) (hW : 2 * g.monitorRoom + (rest.map fun v => v.category).sum ≤ W9) (hdg : decode c.code g.pc = .ok (.invokevirtual index, 3))
    (hpre : ∀ vm₁, s.WarmedH vm₁ → Pre ⟨T.setVm vm₁, locs, cells, slots⟩ (Value.ref b :: argsL).toArray) :
    (∃ (v : Option Value) (vm₁ : Vm) (B : Pt), s.WarmedH vm₁ ∧ Stand p l e R s m args below meth c B.U B.locs B.cells B.slots ∧ Post ⟨T.setVm vm₁, locs, cells, slots⟩ (Value.ref b :: argsL).toArray v B ∧
      ∀ target, Steps p.tables e below (B.U.setTop { g with pc := g.pc + 3, stack := v.toList ++ rest }) target → Steps p.tables e below (T.setTop g) target) ∨
    (∃ (q : Addr) (vm₁ : Vm) (B : Pt), s.WarmedH vm₁ ∧ Stand p l e R s m args below meth c B.U B.locs B.cells B.slots ∧ PostX ⟨T.setVm vm₁, locs, cells, slots⟩ (Value.ref b :: argsL).toArray q B ∧
      Steps p.tables e below (T.setTop g) ((B.U.setTop { g with stack := rest }).pushFrame (.throwing q))) := by
  obtain ⟨mk, methM, hnamed, hmethM, hstM, habM⟩ := Cond.instanceMethod_spec hinst
  obtain ⟨m8, methM', cM, hn8, hmethM', -, -, -, -, -, -, hsigM⟩ := Cond.codeWith_spec hcode
  cases Option.some.inj (hn8.symm.trans hnamed)
  cases hmethM.symm.trans hmethM'
  obtain ⟨c2, r2, m2, q1, q2, q3, q4, kP, hkP, hkPi⟩ := Cond.selects_spec hsel
  cases hcls.symm.trans q1
  cases (State.methodFound?_of_named hnamed hy).symm.trans q2
  cases hnamed.symm.trans q3
  have hselP : selectMethod e.platform s.vm cellB.cls mk = .method mk := by rw [Launch.admits_selectMethod X.admits]; exact q4
  obtain ⟨vm₁, X₁, hstep₁⟩ := X.invokevirtual hexec hown hlink hnamed hmethM hstM hkP hkPi hy (a := b) (cell := cellB) hcell
    (fun z h => by rw [h] at hobj; cases hobj) hselP hmethM habM hkP hkPi (g := g) hg (argsL := argsL) (rest := rest) (hlen _ hsigM) hstack hdg
  rcases hK m meth c ⟨T.setVm vm₁, locs, cells, slots⟩ { g with stack := rest } (.invokevirtual index) mk (Value.ref b :: argsL).toArray X₁ hg hsize hdg hW (X₁.named hnamed) (hpre vm₁ X₁.warmed) with ⟨v, B, X', hpost, hsteps⟩ | ⟨q, B, X', hpost, hsteps⟩
  · exact Or.inl ⟨v, vm₁, B, X₁.warmed, X', hpost, fun target h => hstep₁ _ fun acts => by rw [doInvoke_state]; exact hsteps.trans h⟩
  · exact Or.inr ⟨q, vm₁, B, X₁.warmed, X', hpost, hstep₁ _ fun acts => by rw [doInvoke_state]; exact hsteps⟩
theorem vx_callSX (X : Stand p l e R s m args below meth c T locs cells slots) (hexec : p.tables.exec = Jvm.exec) {own : String} {index : Nat} {y : MethodName} {bytes : ByteArray} {maxL : Nat} {ret : Option FieldType} {hh : List (Nat × Nat × Nat × Nat)}
    (hown : s.vm.findClass own = some m.cls) (hlink : (Cond.methodLink own index y).before args s = true) (hstat : (Cond.static y).before args s = true) (hinit : (Cond.initialized y.cls).before args s = true)
    (hcode : (Cond.codeWith y bytes maxL ret hh).before args s = true) (hy : y.cls ≠ "java/lang/invoke/MethodHandle" ∧ y.cls ≠ "java/lang/invoke/VarHandle")
    {W9 : Nat} {Pre : Pt → Array Value → Prop} {Post : Pt → Array Value → Option Value → Pt → Prop} {PostX : Pt → Array Value → Addr → Pt → Prop} (hK : vx_Back l R p e below s args y 3 W9 Pre Post PostX)
    {g : JFrame} (hg : g.method = m) (hsize : g.locals.size = c.maxLocals) {argsL rest : List Value} (hlen : ∀ sig, parseMethodDescriptor y.desc = some sig → argsL.length = sig.parameters.length)
    (hstack : g.stack = argsL.reverse ++ rest) (hW : 2 * g.monitorRoom + (rest.map fun v => v.category).sum ≤ W9) (hdg : decode c.code g.pc = .ok (.invokestatic index, 3))
    (hpre : ∀ vm₁, s.WarmedH vm₁ → Pre ⟨T.setVm vm₁, locs, cells, slots⟩ argsL.toArray) :
    (∃ (v : Option Value) (vm₁ : Vm) (B : Pt), s.WarmedH vm₁ ∧ Stand p l e R s m args below meth c B.U B.locs B.cells B.slots ∧ Post ⟨T.setVm vm₁, locs, cells, slots⟩ argsL.toArray v B ∧
      ∀ target, Steps p.tables e below (B.U.setTop { g with pc := g.pc + 3, stack := v.toList ++ rest }) target → Steps p.tables e below (T.setTop g) target) ∨
    (∃ (q : Addr) (vm₁ : Vm) (B : Pt), s.WarmedH vm₁ ∧ Stand p l e R s m args below meth c B.U B.locs B.cells B.slots ∧ PostX ⟨T.setVm vm₁, locs, cells, slots⟩ argsL.toArray q B ∧
      Steps p.tables e below (T.setTop g) ((B.U.setTop { g with stack := rest }).pushFrame (.throwing q))) := by
  obtain ⟨mk, methM, cM, hnamed, hmethM, -, -, -, -, -, -, hsigM⟩ := Cond.codeWith_spec hcode
  have hstatic : methM.isStatic = true := Cond.static_spec hnamed hmethM hstat
  obtain ⟨kP, hkP, -⟩ := className_of_methodNamed hnamed
  have hinitP : kP.init = .initialized := Cond.initialized_spec (findClass_of_methodNamed hnamed) hkP hinit
  obtain ⟨vm₁, X₁, hstep₁⟩ := X.invokestatic hexec hown hlink hnamed hmethM hstatic hkP hinitP hy (g := g) hg (argsL := argsL) (rest := rest) (hlen _ hsigM) hstack hdg
  rcases hK m meth c ⟨T.setVm vm₁, locs, cells, slots⟩ { g with stack := rest } (.invokestatic index) mk argsL.toArray X₁ hg hsize hdg hW (X₁.named hnamed) (hpre vm₁ X₁.warmed) with ⟨v, B, X', hpost, hsteps⟩ | ⟨q, B, X', hpost, hsteps⟩
  · exact Or.inl ⟨v, vm₁, B, X₁.warmed, X', hpost, fun target h => hstep₁ _ fun acts => by rw [doInvoke_state]; exact hsteps.trans h⟩
  · exact Or.inr ⟨q, vm₁, B, X₁.warmed, X', hpost, hstep₁ _ fun acts => by rw [doInvoke_state]; exact hsteps⟩
theorem vx_callVW (X : Stand p l e R s m args below meth c T locs cells slots) (hexec : p.tables.exec = Jvm.exec) {own C : String} {index : Nat} {y : MethodName} {bytes : ByteArray} {maxL : Nat} {ret : Option FieldType} {hh : List (Nat × Nat × Nat × Nat)}
    (hown : s.vm.findClass own = some m.cls) (hlink : (Cond.methodLink own index y).before args s = true) (hinst : (Cond.instanceMethod y).before args s = true) (hsel : (Cond.selects C y y).before args s = true)
    (hcode : (Cond.codeWith y bytes maxL ret hh).before args s = true) (hy : y.cls ≠ "java/lang/invoke/MethodHandle" ∧ y.cls ≠ "java/lang/invoke/VarHandle")
    {W9 : Nat} {Pre : Pt → Array Value → Prop} {Post : Pt → Array Value → Option Value → Pt → Prop} (hK : Back l R p e below s args y 3 W9 Pre Post)
    {b : Addr} {cellB : Cell} (hcell : T.heap[b]? = some cellB) (hobj : cellB.vm.isStatics = false) (hcls : s.vm.findClass C = some cellB.cls)
    {g : JFrame} (hg : g.method = m) (hsize : g.locals.size = c.maxLocals) {argsL rest : List Value} (hlen : ∀ sig, parseMethodDescriptor y.desc = some sig → argsL.length = sig.parameters.length)
    (hstack : g.stack = argsL.reverse ++ .ref b :: rest) (hW : 2 * g.monitorRoom + (rest.map fun v => v.category).sum ≤ W9) (hdg : decode c.code g.pc = .ok (.invokevirtual index, 3))
    (hpre : ∀ vm₁, s.WarmedH vm₁ → Pre ⟨T.setVm vm₁, locs, cells, slots⟩ (Value.ref b :: argsL).toArray) :
    ∃ (v : Option Value) (vm₁ : Vm) (B : Pt), s.WarmedH vm₁ ∧ Stand p l e R s m args below meth c B.U B.locs B.cells B.slots ∧ Post ⟨T.setVm vm₁, locs, cells, slots⟩ (Value.ref b :: argsL).toArray v B ∧
      ∀ target, Steps p.tables e below (B.U.setTop { g with pc := g.pc + 3, stack := v.toList ++ rest }) target → Steps p.tables e below (T.setTop g) target := by
  obtain ⟨mk, methM, hnamed, hmethM, hstM, habM⟩ := Cond.instanceMethod_spec hinst
  obtain ⟨m8, methM', cM, hn8, hmethM', -, -, -, -, -, -, hsigM⟩ := Cond.codeWith_spec hcode
  cases Option.some.inj (hn8.symm.trans hnamed)
  cases hmethM.symm.trans hmethM'
  obtain ⟨c2, r2, m2, q1, q2, q3, q4, kP, hkP, hkPi⟩ := Cond.selects_spec hsel
  cases hcls.symm.trans q1
  cases (State.methodFound?_of_named hnamed hy).symm.trans q2
  cases hnamed.symm.trans q3
  have hselP : selectMethod e.platform s.vm cellB.cls mk = .method mk := by rw [Launch.admits_selectMethod X.admits]; exact q4
  obtain ⟨vm₁, X₁, hstep₁⟩ := X.invokevirtual hexec hown hlink hnamed hmethM hstM hkP hkPi hy (a := b) (cell := cellB) hcell
    (fun z h => by rw [h] at hobj; cases hobj) hselP hmethM habM hkP hkPi (g := g) hg (argsL := argsL) (rest := rest) (hlen _ hsigM) hstack hdg
  obtain ⟨v, B, X', hpost, hsteps⟩ := hK m meth c ⟨T.setVm vm₁, locs, cells, slots⟩ { g with stack := rest } (.invokevirtual index) mk (Value.ref b :: argsL).toArray X₁ hg hsize hdg hW (X₁.named hnamed) (hpre vm₁ X₁.warmed)
  exact ⟨v, vm₁, B, X₁.warmed, X', hpost, fun target h => hstep₁ _ fun acts => by rw [doInvoke_state]; exact hsteps.trans h⟩
abbrev vx_CVW (R : Room) (s : State) (args : Array Value) (own C : String) (index : Nat) (y : MethodName) (bytes : ByteArray) (maxL : Nat) (ret : Option FieldType) (hh : List (Nat × Nat × Nat × Nat)) (ws : List Cond) (rm : Room) (mc ms n : Nat) : Prop :=
  (rm.cells = mc ∧ rm.slots = ms ∧ rm.frames + 1 ≤ R.frames ∧ 8 + (maxL + 11) + rm.locals ≤ R.locals ∧ (∀ w ∈ ws, ∀ (a' : Array Value) (U : State), s.WarmedH U.vm → w.before a' U = true) ∧ Cond.codeWith y bytes maxL ret hh ∈ ws) ∧
  (Cond.codeWith y bytes maxL ret hh).before args s = true ∧ (Cond.initialized y.cls).before args s = true ∧ (y.cls ≠ "java/lang/invoke/MethodHandle" ∧ y.cls ≠ "java/lang/invoke/VarHandle") ∧
  (∀ sig, parseMethodDescriptor y.desc = some sig → n = sig.parameters.length) ∧ (Cond.methodLink own index y).before args s = true ∧ (Cond.instanceMethod y).before args s = true ∧ (Cond.selects C y y).before args s = true
theorem vx_cwVW {own C : String} {index maxL mc ms : Nat} {y : MethodName} {bytes : ByteArray} {ret : Option FieldType} {hh : List (Nat × Nat × Nat × Nat)} {Ts ws ws' : List Cond} {rm : Room} (n : Nat) (ht : ∀ w ∈ Ts, w.before args s = true) (hT : GoodIn Ts (wsV own index C y ws)) (hw : ws = Cond.codeWith y bytes maxL ret hh :: ws') (hrc : rm.cells = mc) (hrs : rm.slots = ms)
    (hd : y.cls = C ∧ y.cls ≠ "java/lang/invoke/MethodHandle" ∧ y.cls ≠ "java/lang/invoke/VarHandle" ∧ (parseMethodDescriptor y.desc).map (fun d => d.parameters.length) = some n) (hR : rm.frames + 1 ≤ R.frames ∧ 8 + (maxL + 11) + rm.locals ≤ R.locals) :
    vx_CVW R s args own C index y bytes maxL ret hh ws rm mc ms n := by
  obtain ⟨hC, hd⟩ := hd
  subst hC
  have ok : ∀ w ∈ wsV own index y.cls y ws, w.before args s = true := fun w h => ht w (hT w h).1
  have hG : GoodIn Ts ws := fun w h => hT w (by unfold wsV; exact List.mem_append_right _ h)
  have hc : Cond.codeWith y bytes maxL ret hh ∈ ws := by rw [hw]; exact List.mem_cons_self
  refine ⟨⟨hrc, hrs, hR.1, hR.2, pay_in ht hG, hc⟩, ht _ (hG _ hc).1, ok _ (by simp [wsV]), ⟨hd.1, hd.2.1⟩, fun sig h => ?_, ok _ (by simp [wsV]), ok _ (by simp [wsV]), ok _ (by simp [wsV])⟩
  have h2 := hd.2.2
  rw [h] at h2
  exact (Option.some.inj h2).symm
theorem vx_runVW {y : MethodName} {bytes cc : ByteArray} {maxL nL mc ms n index : Nat} {ret : Option FieldType} {hh : List (Nat × Nat × Nat × Nat)} {ws : List Cond} {rm : Room} {Pc : Array Value → State → Prop} {Qc : Array Value → State → Outcome → State → Prop} {free : Addr → Prop} {Ts : List Cond} {own C : String} {b : Addr} {As rest : List Value} {g : JFrame}
    (S : CallFix p m c cc nL s args Ts own) (hM : Met l y ws rm Pc Qc mc ms free) (cw : vx_CVW R s args own C index y bytes maxL ret hh ws rm mc ms n) (hp : PreV s H C b Pc As)
    (hg : g.method = m) (hn : As.length = n) (hsize : g.locals.size = nL) (hstack : g.stack = As.reverse ++ .ref b :: rest) (hW : 2 * g.monitorRoom + (rest.map fun v => v.category).sum ≤ 8) (hdg : decode cc g.pc = .ok (.invokevirtual index, 3)) (hf : cells + mc ≤ R.cells ∧ slots + ms ≤ R.slots) :
    va_Run p l e R s m args below meth c H locs cells slots mc ms g rest (Qc (Value.ref b :: As).toArray) free := by
  obtain ⟨⟨hrc, hrs, hfr, hlo, hws, hcw⟩, hcode, hini, hy, hlen, hl, hin, hse⟩ := cw
  have hK : Back l R p e below s args y 3 8 (PreOf R mc ms Pc) (PostOf Qc mc ms free) := va_backW (hh := hh) (bytes := bytes) (maxL := maxL) (ret := ret) hM hp.1 hrc hrs hfr hlo hws hcw (fun a' U hW => word_at hW (Or.inl (by first | rfl | simp [Cond.onTables, Cond.keeps, Cond.steady])) hini)
  obtain ⟨hx, hb, hml, ho, -⟩ := S
  obtain ⟨-, ⟨cellB, hcB, hoB, hclB⟩, hPc⟩ := hp
  intro T hT X
  obtain ⟨v, vm₁, ⟨U', l2, c2, s2⟩, hW₁, X', ⟨g', mk, t, L, e1, e2, hq, h1, hL, h2, h3⟩, st⟩ := vx_callVW X hx (C := C) (hh := hh) (bytes := bytes) (maxL := maxL) (ret := ret) ho hl hin hse hcode hy hK (by rw [hT]; exact hcB) hoB hclB hg (hsize.trans hml.symm) (argsL := As) (rest := rest) (fun sig h => hn.trans (hlen sig h)) hstack hW (by rw [hb]; exact hdg)
    (fun vm₁ hW₁ => ⟨hf.1, hf.2, hPc (T.setVm vm₁) hT hW₁⟩)
  dsimp only [Pt.U, Pt.locs, Pt.cells, Pt.slots] at X' e1 e2 h1 h2 h3 st
  subst h1; subst h2; subst h3
  exact ⟨v, (T.setVm vm₁).calling g' mk (Value.ref b :: As).toArray, t, U', L, hT, X', hL, e1, e2, hq, st⟩
section
variable {y : MethodName} {bytes cc : ByteArray} {maxL nL mc ms n index : Nat} {ret : Option FieldType} {ws : List Cond} {rm : Room} {Pc : Array Value → State → Prop} {Qc : Array Value → State → Outcome → State → Prop} {XC : String → State → State → Prop} {free : Addr → Prop} {Ts : List Cond} {own C : String} {b : Addr} {As rest : List Value} {g : JFrame}
theorem vx_runVX {hh : List (Nat × Nat × Nat × Nat)} (S : CallFix p m c cc nL s args Ts own) (hM : vx_Met l y ws rm Pc Qc XC mc ms free) (cw : vx_CVW R s args own C index y bytes maxL ret hh ws rm mc ms n) (hp : PreV s H C b Pc As)
    (hg : g.method = m) (hn : As.length = n) (hsize : g.locals.size = nL) (hstack : g.stack = As.reverse ++ .ref b :: rest) (hW : 2 * g.monitorRoom + (rest.map fun v => v.category).sum ≤ 8) (hdg : decode cc g.pc = .ok (.invokevirtual index, 3)) (hf : cells + mc ≤ R.cells ∧ slots + ms ≤ R.slots) :
    vx_Run p l e R s m args below meth c H locs cells slots mc ms g rest (Qc (Value.ref b :: As).toArray) XC free := by
  obtain ⟨⟨hrc, hrs, hfr, hlo, hws, hcw⟩, hcode, hini, hy, hlen, hl, hin, hse⟩ := cw
  have hK : vx_Back l R p e below s args y 3 8 (PreOf R mc ms Pc) (PostOf Qc mc ms free) (vx_Post XC mc ms free) := vx_backW (hh := hh) (bytes := bytes) (maxL := maxL) (ret := ret) hM hp.1 hrc hrs hfr hlo hws hcw (fun a' U hW => word_at hW (Or.inl (by first | rfl | simp [Cond.onTables, Cond.keeps, Cond.steady])) hini)
  obtain ⟨hx, hb, hml, ho, -⟩ := S
  obtain ⟨-, ⟨cellB, hcB, hoB, hclB⟩, hPc⟩ := hp
  intro T hT X
  rcases vx_callVX X hx (C := C) (hh := hh) (bytes := bytes) (maxL := maxL) (ret := ret) ho hl hin hse hcode hy hK (by rw [hT]; exact hcB) hoB hclB hg (hsize.trans hml.symm) (argsL := As) (rest := rest) (fun sig h => hn.trans (hlen sig h)) hstack hW (by rw [hb]; exact hdg)
    (fun vm₁ hW₁ => ⟨hf.1, hf.2, hPc (T.setVm vm₁) hT hW₁⟩) with ⟨v, vm₁, ⟨U', l2, c2, s2⟩, hW₁, X', ⟨g', mk, t, L, e1, e2, hq, h1, hL, h2, h3⟩, st⟩ | ⟨q, vm₁, ⟨U', l2, c2, s2⟩, hW₁, X', ⟨g', mk, t, L, E, ce, e1, e2, hq, hce, hcv, hcl, h1, hL, h2, h3⟩, st⟩
  · dsimp only [Pt.U, Pt.locs, Pt.cells, Pt.slots] at X' e1 e2 h1 h2 h3 st
    subst h1; subst h2; subst h3
    exact Or.inl ⟨v, (T.setVm vm₁).calling g' mk (Value.ref b :: As).toArray, t, U', L, hT, X', hL, e1, e2, hq, st⟩
  · dsimp only [Pt.U, Pt.locs, Pt.cells, Pt.slots] at X' e1 e2 h1 h2 h3 st hcl
    subst h1; subst h2; subst h3
    exact Or.inr ⟨q, (T.setVm vm₁).calling g' mk (Value.ref b :: As).toArray, t, U', L, E, ce, hT, X', hL, e1, e2, hq, hce, hcv, vx_cls hW₁ hcl, st⟩
theorem vx_runSX {hh : List (Nat × Nat × Nat × Nat)} (S : CallFix p m c cc nL s args Ts own) (hM : vx_Met l y ws rm Pc Qc XC mc ms free) (cw : vx_CSW R s args own index y bytes maxL ret hh ws rm mc ms n) (hp : PreS s H Pc As)
    (hg : g.method = m) (hn : As.length = n) (hsize : g.locals.size = nL) (hstack : g.stack = As.reverse ++ rest) (hW : 2 * g.monitorRoom + (rest.map fun v => v.category).sum ≤ 8) (hdg : decode cc g.pc = .ok (.invokestatic index, 3)) (hf : cells + mc ≤ R.cells ∧ slots + ms ≤ R.slots) :
    vx_Run p l e R s m args below meth c H locs cells slots mc ms g rest (Qc As.toArray) XC free := by
  obtain ⟨⟨hrc, hrs, hfr, hlo, hws, hcw⟩, hcode, hini, hy, hlen, hl, hstt⟩ := cw
  have hK : vx_Back l R p e below s args y 3 8 (PreOf R mc ms Pc) (PostOf Qc mc ms free) (vx_Post XC mc ms free) := vx_backW (hh := hh) (bytes := bytes) (maxL := maxL) (ret := ret) hM hp.1 hrc hrs hfr hlo hws hcw (fun a' U hW => word_at hW (Or.inl (by first | rfl | simp [Cond.onTables, Cond.keeps, Cond.steady])) hini)
  obtain ⟨hx, hb, hml, ho, -⟩ := S
  intro T hT X
  rcases vx_callSX X hx (hh := hh) (bytes := bytes) (maxL := maxL) (ret := ret) ho hl hstt hini hcode hy hK hg (hsize.trans hml.symm) (argsL := As) (rest := rest) (fun sig h => hn.trans (hlen sig h)) hstack hW (by rw [hb]; exact hdg)
    (fun vm₁ hW₁ => ⟨hf.1, hf.2, hp.2 (T.setVm vm₁) hT hW₁⟩) with ⟨v, vm₁, ⟨U', l2, c2, s2⟩, hW₁, X', ⟨g', mk, t, L, e1, e2, hq, h1, hL, h2, h3⟩, st⟩ | ⟨q, vm₁, ⟨U', l2, c2, s2⟩, hW₁, X', ⟨g', mk, t, L, E, ce, e1, e2, hq, hce, hcv, hcl, h1, hL, h2, h3⟩, st⟩
  · dsimp only [Pt.U, Pt.locs, Pt.cells, Pt.slots] at X' e1 e2 h1 h2 h3 st
    subst h1; subst h2; subst h3
    exact Or.inl ⟨v, (T.setVm vm₁).calling g' mk As.toArray, t, U', L, hT, X', hL, e1, e2, hq, st⟩
  · dsimp only [Pt.U, Pt.locs, Pt.cells, Pt.slots] at X' e1 e2 h1 h2 h3 st hcl
    subst h1; subst h2; subst h3
    exact Or.inr ⟨q, (T.setVm vm₁).calling g' mk As.toArray, t, U', L, E, ce, hT, X', hL, e1, e2, hq, hce, hcv, vx_cls hW₁ hcl, st⟩
end
end VXH
theorem vx_ofWH {l : Launch} {y : MethodName} {ws ws' : List Cond} {rm : Room} {Pc : Array Value → State → Prop} {Qc : Array Value → State → Outcome → State → Prop} {XC : String → State → State → Prop} {mc ms : Nat} {free : Addr → Prop} {cc : ByteArray} {maxL : Nat} {ret : Option FieldType} {hh : List (Nat × Nat × Nat × Nat)}
    (hy : plainName y.cls = true) (hw : ws = Cond.codeWith y cc maxL ret hh :: ws')
    (body : ∀ p e s m args below meth c s₁, BodyLoose p l y (headSpec ws rm) cc maxL ret e s m args below meth c s₁ → c.maxLocals = maxL → Pc args s →
      W p l e (headSpec ws rm).room s m args below meth c s.heap [] 0 0 (vx_MQ below Qc XC args s mc ms free) (entryFrame m args maxL)) : vx_Met l y ws rm Pc Qc XC mc ms free := by
  refine MetFree.of_bodyS (code := cc) (maxLocals := maxL) (ret := ret) hy ?_ ?_
  · intro args s m h hn
    obtain ⟨m9, meth, c, hn9, h1, h2, h3, h4, -, h5, h6, -⟩ := Cond.codeWith_spec (atoms_spec (ws := ws) h _ (by rw [hw]; exact List.mem_cons_self))
    cases hn.symm.trans hn9
    exact ⟨meth, c, h1, h2, h3, h4, h5, h6⟩
  · intro p e s m args below meth c s₁ B hml hP _
    have hh0 : s₁.heap = s.heap := by rw [B.state]; rfl
    obtain ⟨t, a1, o, b1, b2, b3⟩ := body p e s m args below meth c s₁ B hml hP s₁ hh0 (Stand.of_body B)
    exact ⟨t, o, a1, b1, b2, b3⟩
/-! ===== END ===== -/
end
section
/-! ===== BEGIN printed: names, fields, word lists, decode rows ===== -/
def RX0 : String := "BuildingPoints$Entries"
def TX0 : u_T := fun k => match k with
  | 0 => ("BuildingPoints$Entries", "days", "[I", true)
  | 1 => ("BuildingPoints$Entries", "minutes", "[I", true)
  | 2 => ("BuildingPoints$Entries", "told", "[I", true)
  | _ => ("BuildingPoints$Entries", "count", "I", false)
def tyX0 : Nat → FieldType := fun k => match k with
  | 0 => .array .int
  | 1 => .array .int
  | 2 => .array .int
  | _ => .int
abbrev wsX00 : List Cond := u_ws RX0 TX0 4
theorem nmX0 : ∀ a, a < 4 → ∀ b, b < 4 → a ≠ b → (TX0 a).2.1 ≠ (TX0 b).2.1 := by decide +kernel
theorem tyX0_ok : ∀ k, k < 4 → parseFieldDescriptor (TX0 k).2.2.1 = some (tyX0 k) := by decide +kernel
abbrev cX0_init : ByteArray := prog_2_method_1_code
def yX0_init : MethodName := ⟨RX0, "<init>", "()V"⟩
abbrev cX0_add : ByteArray := prog_2_method_2_code
def yX0_add : MethodName := ⟨RX0, "add", "(III)V"⟩
abbrev cX0_hasDay : ByteArray := prog_2_method_3_code
def yX0_hasDay : MethodName := ⟨RX0, "hasDay", "(I)Z"⟩
abbrev cX0_latest : ByteArray := prog_2_method_4_code
def yX0_latest : MethodName := ⟨RX0, "latest", "(II)I"⟩
def RX1 : String := "BuildingPoints$Point"
def TX1 : u_T := fun k => match k with
  | 0 => ("BuildingPoints$Point", "lowest", "I", true)
  | 1 => ("BuildingPoints$Point", "highest", "I", true)
  | 2 => ("BuildingPoints$Point", "original", "I", true)
  | 3 => ("BuildingPoints$Point", "leastTime", "I", true)
  | 4 => ("BuildingPoints$Point", "commands", "[I", true)
  | 5 => ("BuildingPoints$Point", "present", "I", false)
  | 6 => ("BuildingPoints$Point", "heldUntil", "I", false)
  | _ => ("BuildingPoints$Point", "changeCount", "I", false)
def tyX1 : Nat → FieldType := fun k => match k with
  | 0 => .int
  | 1 => .int
  | 2 => .int
  | 3 => .int
  | 4 => .array .int
  | 5 => .int
  | 6 => .int
  | _ => .int
abbrev wsX10 : List Cond := u_ws RX1 TX1 8
theorem nmX1 : ∀ a, a < 8 → ∀ b, b < 8 → a ≠ b → (TX1 a).2.1 ≠ (TX1 b).2.1 := by decide +kernel
theorem tyX1_ok : ∀ k, k < 8 → parseFieldDescriptor (TX1 k).2.2.1 = some (tyX1 k) := by decide +kernel
abbrev cX1_init : ByteArray := prog_3_method_1_code
def yX1_init : MethodName := ⟨RX1, "<init>", "(IIII)V"⟩
abbrev cX1_canHave : ByteArray := prog_3_method_2_code
def yX1_canHave : MethodName := ⟨RX1, "canHave", "(I)Z"⟩
abbrev cX1_isHeld : ByteArray := prog_3_method_3_code
def yX1_isHeld : MethodName := ⟨RX1, "isHeld", "()Z"⟩
abbrev cX1_lowestCommanded : ByteArray := prog_3_method_4_code
def yX1_lowestCommanded : MethodName := ⟨RX1, "lowestCommanded", "()I"⟩
abbrev cX1_dueValue : ByteArray := prog_3_method_5_code
def yX1_dueValue : MethodName := ⟨RX1, "dueValue", "()I"⟩
abbrev cX1_change : ByteArray := prog_3_method_6_code
def yX1_change : MethodName := ⟨RX1, "change", "(II)V"⟩
def RX2 : String := "BuildingPoints$Schedule"
def TX2 : u_T := fun k => match k with
  | 0 => ("BuildingPoints$Schedule", "point", "LBuildingPoints$Point;", true)
  | 1 => ("BuildingPoints$Schedule", "priority", "I", true)
  | 2 => ("BuildingPoints$Schedule", "weekdays", "LBuildingPoints$Entries;", true)
  | 3 => ("BuildingPoints$Schedule", "singleDays", "LBuildingPoints$Entries;", true)
  | _ => ("BuildingPoints$Schedule", "toldLast", "I", false)
def tyX2 : Nat → FieldType := fun k => match k with
  | 0 => .object "BuildingPoints$Point"
  | 1 => .int
  | 2 => .object "BuildingPoints$Entries"
  | 3 => .object "BuildingPoints$Entries"
  | _ => .int
abbrev wsX20 : List Cond := u_ws RX2 TX2 5
theorem nmX2 : ∀ a, a < 5 → ∀ b, b < 5 → a ≠ b → (TX2 a).2.1 ≠ (TX2 b).2.1 := by decide +kernel
theorem tyX2_ok : ∀ k, k < 5 → parseFieldDescriptor (TX2 k).2.2.1 = some (tyX2 k) := by decide +kernel
abbrev cX2_init : ByteArray := prog_4_method_1_code
def yX2_init : MethodName := ⟨RX2, "<init>", "(LBuildingPoints$Point;I)V"⟩
abbrev cX2_entryCount : ByteArray := prog_4_method_2_code
def yX2_entryCount : MethodName := ⟨RX2, "entryCount", "()I"⟩
abbrev cX2_toldAt : ByteArray := prog_4_method_3_code
def yX2_toldAt : MethodName := ⟨RX2, "toldAt", "(I)I"⟩
def RX3 : String := "BuildingPoints$Subscription"
def TX3 : u_T := fun k => match k with
  | 0 => ("BuildingPoints$Subscription", "point", "LBuildingPoints$Point;", true)
  | 1 => ("BuildingPoints$Subscription", "increment", "I", true)
  | 2 => ("BuildingPoints$Subscription", "endTime", "I", true)
  | 3 => ("BuildingPoints$Subscription", "kept", "I", false)
  | 4 => ("BuildingPoints$Subscription", "reportCount", "I", false)
  | _ => ("BuildingPoints$Subscription", "isOpen", "Z", false)
def tyX3 : Nat → FieldType := fun k => match k with
  | 0 => .object "BuildingPoints$Point"
  | 1 => .int
  | 2 => .int
  | 3 => .int
  | 4 => .int
  | _ => .boolean
abbrev wsX30 : List Cond := u_ws RX3 TX3 6
theorem nmX3 : ∀ a, a < 6 → ∀ b, b < 6 → a ≠ b → (TX3 a).2.1 ≠ (TX3 b).2.1 := by decide +kernel
theorem tyX3_ok : ∀ k, k < 6 → parseFieldDescriptor (TX3 k).2.2.1 = some (tyX3 k) := by decide +kernel
abbrev cX3_init : ByteArray := prog_5_method_1_code
def yX3_init : MethodName := ⟨RX3, "<init>", "(LBuildingPoints$Point;II)V"⟩
abbrev cX3_isFarFrom : ByteArray := prog_5_method_2_code
def yX3_isFarFrom : MethodName := ⟨RX3, "isFarFrom", "(I)Z"⟩
abbrev cX3_report : ByteArray := prog_5_method_3_code
def yX3_report : MethodName := ⟨RX3, "report", "(I)V"⟩
def RX4 : String := "BuildingPoints"
def TX4 : u_T := fun k => match k with
  | 0 => ("BuildingPoints", "points", "[LBuildingPoints$Point;", true)
  | 1 => ("BuildingPoints", "subscriptions", "[LBuildingPoints$Subscription;", true)
  | 2 => ("BuildingPoints", "schedules", "[LBuildingPoints$Schedule;", true)
  | 3 => ("BuildingPoints", "pointCount", "I", false)
  | 4 => ("BuildingPoints", "subscriptionCount", "I", false)
  | 5 => ("BuildingPoints", "scheduleCount", "I", false)
  | 6 => ("BuildingPoints", "now", "I", false)
  | _ => ("BuildingPoints", "allReports", "I", false)
def tyX4 : Nat → FieldType := fun k => match k with
  | 0 => .array (.object "BuildingPoints$Point")
  | 1 => .array (.object "BuildingPoints$Subscription")
  | 2 => .array (.object "BuildingPoints$Schedule")
  | 3 => .int
  | 4 => .int
  | 5 => .int
  | 6 => .int
  | _ => .int
abbrev wsX40 : List Cond := u_ws RX4 TX4 8
theorem nmX4 : ∀ a, a < 8 → ∀ b, b < 8 → a ≠ b → (TX4 a).2.1 ≠ (TX4 b).2.1 := by decide +kernel
theorem tyX4_ok : ∀ k, k < 8 → parseFieldDescriptor (TX4 k).2.2.1 = some (tyX4 k) := by decide +kernel
abbrev cX4_init : ByteArray := prog_1_method_1_code
def yX4_init : MethodName := ⟨RX4, "<init>", "()V"⟩
abbrev cX4_addMeasure : ByteArray := prog_1_method_2_code
def yX4_addMeasure : MethodName := ⟨RX4, "addMeasure", "(I)I"⟩
abbrev cX4_addSwitch : ByteArray := prog_1_method_3_code
def yX4_addSwitch : MethodName := ⟨RX4, "addSwitch", "(II)I"⟩
abbrev cX4_write : ByteArray := prog_1_method_4_code
def yX4_write : MethodName := ⟨RX4, "write", "(III)I"⟩
abbrev cX4_value : ByteArray := prog_1_method_5_code
def yX4_value : MethodName := ⟨RX4, "value", "(I)I"⟩
abbrev cX4_command : ByteArray := prog_1_method_6_code
def yX4_command : MethodName := ⟨RX4, "command", "(II)I"⟩
abbrev cX4_standing : ByteArray := prog_1_method_7_code
def yX4_standing : MethodName := ⟨RX4, "standing", "(I)I"⟩
abbrev cX4_held : ByteArray := prog_1_method_8_code
def yX4_held : MethodName := ⟨RX4, "held", "(I)I"⟩
abbrev cX4_changes : ByteArray := prog_1_method_9_code
def yX4_changes : MethodName := ⟨RX4, "changes", "(I)I"⟩
abbrev cX4_subscribe : ByteArray := prog_1_method_10_code
def yX4_subscribe : MethodName := ⟨RX4, "subscribe", "(III)I"⟩
abbrev cX4_end : ByteArray := prog_1_method_11_code
def yX4_end : MethodName := ⟨RX4, "end", "(I)V"⟩
abbrev cX4_goesOn : ByteArray := prog_1_method_12_code
def yX4_goesOn : MethodName := ⟨RX4, "goesOn", "(I)Z"⟩
abbrev cX4_reports : ByteArray := prog_1_method_13_code
def yX4_reports : MethodName := ⟨RX4, "reports", "(I)I"⟩
abbrev cX4_reported : ByteArray := prog_1_method_14_code
def yX4_reported : MethodName := ⟨RX4, "reported", "(I)I"⟩
abbrev cX4_addSchedule : ByteArray := prog_1_method_15_code
def yX4_addSchedule : MethodName := ⟨RX4, "addSchedule", "(II)I"⟩
abbrev cX4_weekly : ByteArray := prog_1_method_16_code
def yX4_weekly : MethodName := ⟨RX4, "weekly", "(IIII)I"⟩
abbrev cX4_once : ByteArray := prog_1_method_17_code
def yX4_once : MethodName := ⟨RX4, "once", "(IIII)I"⟩
abbrev cX4_tells : ByteArray := prog_1_method_18_code
def yX4_tells : MethodName := ⟨RX4, "tells", "(II)I"⟩
abbrev cX4_pass : ByteArray := prog_1_method_19_code
def yX4_pass : MethodName := ⟨RX4, "pass", "(I)I"⟩
abbrev cX4_clock : ByteArray := prog_1_method_20_code
def yX4_clock : MethodName := ⟨RX4, "clock", "()I"⟩
abbrev cX4_requireWithin : ByteArray := prog_1_method_21_code
def yX4_requireWithin : MethodName := ⟨RX4, "requireWithin", "(III)V"⟩
abbrev cX4_requireCommand : ByteArray := prog_1_method_22_code
def yX4_requireCommand : MethodName := ⟨RX4, "requireCommand", "(LBuildingPoints$Point;I)V"⟩
abbrev cX4_requireRoom : ByteArray := prog_1_method_23_code
def yX4_requireRoom : MethodName := ⟨RX4, "requireRoom", "(II)V"⟩
abbrev cX4_requireEntry : ByteArray := prog_1_method_24_code
def yX4_requireEntry : MethodName := ⟨RX4, "requireEntry", "(LBuildingPoints$Schedule;II)V"⟩
abbrev cX4_pointAt : ByteArray := prog_1_method_25_code
def yX4_pointAt : MethodName := ⟨RX4, "pointAt", "(I)LBuildingPoints$Point;"⟩
abbrev cX4_subscriptionAt : ByteArray := prog_1_method_26_code
def yX4_subscriptionAt : MethodName := ⟨RX4, "subscriptionAt", "(I)LBuildingPoints$Subscription;"⟩
abbrev cX4_scheduleAt : ByteArray := prog_1_method_27_code
def yX4_scheduleAt : MethodName := ⟨RX4, "scheduleAt", "(I)LBuildingPoints$Schedule;"⟩
abbrev cX4_put : ByteArray := prog_1_method_28_code
def yX4_put : MethodName := ⟨RX4, "put", "(LBuildingPoints$Point;II)V"⟩
abbrev cX4_reportChange : ByteArray := prog_1_method_29_code
def yX4_reportChange : MethodName := ⟨RX4, "reportChange", "(LBuildingPoints$Point;)V"⟩
abbrev cX4_follow : ByteArray := prog_1_method_30_code
def yX4_follow : MethodName := ⟨RX4, "follow", "(LBuildingPoints$Schedule;)V"⟩
abbrev cX4_passMinute : ByteArray := prog_1_method_31_code
def yX4_passMinute : MethodName := ⟨RX4, "passMinute", "()V"⟩
abbrev cX4_releaseHeldCommands : ByteArray := prog_1_method_32_code
def yX4_releaseHeldCommands : MethodName := ⟨RX4, "releaseHeldCommands", "()V"⟩
abbrev cX4_endOldSubscriptions : ByteArray := prog_1_method_33_code
def yX4_endOldSubscriptions : MethodName := ⟨RX4, "endOldSubscriptions", "()V"⟩
abbrev cX4_followSchedules : ByteArray := prog_1_method_34_code
def yX4_followSchedules : MethodName := ⟨RX4, "followSchedules", "()V"⟩
def RX5 : String := "BuildingPointsModel"
def TX5 : u_T := fun k => match k with
  | 0 => ("BuildingPointsModel", "clock", "I", false)
  | 1 => ("BuildingPointsModel", "points", "I", false)
  | 2 => ("BuildingPointsModel", "subscriptions", "I", false)
  | 3 => ("BuildingPointsModel", "schedules", "I", false)
  | 4 => ("BuildingPointsModel", "told", "I", false)
  | 5 => ("BuildingPointsModel", "isSwitch", "[Z", true)
  | 6 => ("BuildingPointsModel", "first", "[I", true)
  | 7 => ("BuildingPointsModel", "least", "[I", true)
  | 8 => ("BuildingPointsModel", "until", "[I", true)
  | 9 => ("BuildingPointsModel", "changed", "[I", true)
  | 10 => ("BuildingPointsModel", "commands", "[I", true)
  | 11 => ("BuildingPointsModel", "of", "[I", true)
  | 12 => ("BuildingPointsModel", "increment", "[I", true)
  | 13 => ("BuildingPointsModel", "over", "[I", true)
  | 14 => ("BuildingPointsModel", "ended", "[Z", true)
  | 15 => ("BuildingPointsModel", "sent", "[I", true)
  | 16 => ("BuildingPointsModel", "kept", "[I", true)
  | 17 => ("BuildingPointsModel", "to", "[I", true)
  | 18 => ("BuildingPointsModel", "at", "[I", true)
  | 19 => ("BuildingPointsModel", "last", "[I", true)
  | 20 => ("BuildingPointsModel", "entries", "[I", true)
  | 21 => ("BuildingPointsModel", "when", "[I", true)
  | 22 => ("BuildingPointsModel", "minute", "[I", true)
  | 23 => ("BuildingPointsModel", "tells", "[I", true)
  | _ => ("BuildingPointsModel", "thrown", "I", false)
def tyX5 : Nat → FieldType := fun k => match k with
  | 0 => .int
  | 1 => .int
  | 2 => .int
  | 3 => .int
  | 4 => .int
  | 5 => .array .boolean
  | 6 => .array .int
  | 7 => .array .int
  | 8 => .array .int
  | 9 => .array .int
  | 10 => .array .int
  | 11 => .array .int
  | 12 => .array .int
  | 13 => .array .int
  | 14 => .array .boolean
  | 15 => .array .int
  | 16 => .array .int
  | 17 => .array .int
  | 18 => .array .int
  | 19 => .array .int
  | 20 => .array .int
  | 21 => .array .int
  | 22 => .array .int
  | 23 => .array .int
  | _ => .int
abbrev wsX50 : List Cond := u_ws RX5 TX5 25
theorem nmX5 : ∀ a, a < 25 → ∀ b, b < 25 → a ≠ b → (TX5 a).2.1 ≠ (TX5 b).2.1 := by decide +kernel
theorem tyX5_ok : ∀ k, k < 25 → parseFieldDescriptor (TX5 k).2.2.1 = some (tyX5 k) := by decide +kernel
abbrev cX5_init : ByteArray := prog_7_method_1_code
def yX5_init : MethodName := ⟨RX5, "<init>", "()V"⟩
abbrev cX5_thrown : ByteArray := prog_7_method_2_code
def yX5_thrown : MethodName := ⟨RX5, "thrown", "()I"⟩
abbrev cX5_in : ByteArray := prog_7_method_3_code
def yX5_in : MethodName := ⟨RX5, "in", "(III)Z"⟩
abbrev cX5_goes : ByteArray := prog_7_method_4_code
def yX5_goes : MethodName := ⟨RX5, "goes", "(ZZZ)Z"⟩
abbrev cX5_isPoint : ByteArray := prog_7_method_5_code
def yX5_isPoint : MethodName := ⟨RX5, "isPoint", "(I)Z"⟩
abbrev cX5_canHave : ByteArray := prog_7_method_6_code
def yX5_canHave : MethodName := ⟨RX5, "canHave", "(II)Z"⟩
abbrev cX5_adds : ByteArray := prog_7_method_7_code
def yX5_adds : MethodName := ⟨RX5, "adds", "(IZI)I"⟩
abbrev cX5_addMeasure : ByteArray := prog_7_method_8_code
def yX5_addMeasure : MethodName := ⟨RX5, "addMeasure", "(I)I"⟩
abbrev cX5_addSwitch : ByteArray := prog_7_method_9_code
def yX5_addSwitch : MethodName := ⟨RX5, "addSwitch", "(II)I"⟩
abbrev cX5_standingOf : ByteArray := prog_7_method_10_code
def yX5_standingOf : MethodName := ⟨RX5, "standingOf", "(I)I"⟩
abbrev cX5_valueOf : ByteArray := prog_7_method_11_code
def yX5_valueOf : MethodName := ⟨RX5, "valueOf", "(I)I"⟩
abbrev cX5_informs : ByteArray := prog_7_method_12_code
def yX5_informs : MethodName := ⟨RX5, "informs", "(II)V"⟩
abbrev cX5_sets : ByteArray := prog_7_method_13_code
def yX5_sets : MethodName := ⟨RX5, "sets", "(III)V"⟩
abbrev cX5_write : ByteArray := prog_7_method_14_code
def yX5_write : MethodName := ⟨RX5, "write", "(III)I"⟩
abbrev cX5_value : ByteArray := prog_7_method_15_code
def yX5_value : MethodName := ⟨RX5, "value", "(I)I"⟩
abbrev cX5_command : ByteArray := prog_7_method_16_code
def yX5_command : MethodName := ⟨RX5, "command", "(II)I"⟩
abbrev cX5_standing : ByteArray := prog_7_method_17_code
def yX5_standing : MethodName := ⟨RX5, "standing", "(I)I"⟩
abbrev cX5_held : ByteArray := prog_7_method_18_code
def yX5_held : MethodName := ⟨RX5, "held", "(I)I"⟩
abbrev cX5_changes : ByteArray := prog_7_method_19_code
def yX5_changes : MethodName := ⟨RX5, "changes", "(I)I"⟩
abbrev cX5_subscribe : ByteArray := prog_7_method_20_code
def yX5_subscribe : MethodName := ⟨RX5, "subscribe", "(III)I"⟩
abbrev cX5_isSubscription : ByteArray := prog_7_method_21_code
def yX5_isSubscription : MethodName := ⟨RX5, "isSubscription", "(I)Z"⟩
abbrev cX5_end : ByteArray := prog_7_method_22_code
def yX5_end : MethodName := ⟨RX5, "end", "(I)V"⟩
abbrev cX5_goesOn : ByteArray := prog_7_method_23_code
def yX5_goesOn : MethodName := ⟨RX5, "goesOn", "(I)Z"⟩
abbrev cX5_reports : ByteArray := prog_7_method_24_code
def yX5_reports : MethodName := ⟨RX5, "reports", "(I)I"⟩
abbrev cX5_reported : ByteArray := prog_7_method_25_code
def yX5_reported : MethodName := ⟨RX5, "reported", "(I)I"⟩
abbrev cX5_isSchedule : ByteArray := prog_7_method_26_code
def yX5_isSchedule : MethodName := ⟨RX5, "isSchedule", "(I)Z"⟩
abbrev cX5_addSchedule : ByteArray := prog_7_method_27_code
def yX5_addSchedule : MethodName := ⟨RX5, "addSchedule", "(II)I"⟩
abbrev cX5_toldBy : ByteArray := prog_7_method_28_code
def yX5_toldBy : MethodName := ⟨RX5, "toldBy", "(II)I"⟩
abbrev cX5_obeys : ByteArray := prog_7_method_29_code
def yX5_obeys : MethodName := ⟨RX5, "obeys", "(I)V"⟩
abbrev cX5_enters : ByteArray := prog_7_method_30_code
def yX5_enters : MethodName := ⟨RX5, "enters", "(IIII)I"⟩
abbrev cX5_weekly : ByteArray := prog_7_method_31_code
def yX5_weekly : MethodName := ⟨RX5, "weekly", "(IIII)I"⟩
abbrev cX5_once : ByteArray := prog_7_method_32_code
def yX5_once : MethodName := ⟨RX5, "once", "(IIII)I"⟩
abbrev cX5_tells : ByteArray := prog_7_method_33_code
def yX5_tells : MethodName := ⟨RX5, "tells", "(II)I"⟩
abbrev cX5_minutes : ByteArray := prog_7_method_34_code
def yX5_minutes : MethodName := ⟨RX5, "minutes", "()V"⟩
abbrev cX5_pass : ByteArray := prog_7_method_35_code
def yX5_pass : MethodName := ⟨RX5, "pass", "(I)I"⟩
abbrev cX5_clock : ByteArray := prog_7_method_36_code
def yX5_clock : MethodName := ⟨RX5, "clock", "()I"⟩
def RJx145de : String := "java/io/Serializable"
def TJx145de : u_T := fun k => match k with
  | _ => ("", "", "", false)
def tyJx145de : Nat → FieldType := fun k => match k with
  | _ => .int
abbrev wsJx145de0 : List Cond := u_ws RJx145de TJx145de 0
theorem nmJx145de : ∀ a, a < 0 → ∀ b, b < 0 → a ≠ b → (TJx145de a).2.1 ≠ (TJx145de b).2.1 := by decide +kernel
theorem tyJx145de_ok : ∀ k, k < 0 → parseFieldDescriptor (TJx145de k).2.2.1 = some (tyJx145de k) := by decide +kernel
def RJ9 : String := "java/lang/Math"
def TJ9 : u_T := fun k => match k with
  | _ => ("", "", "", false)
def tyJ9 : Nat → FieldType := fun k => match k with
  | _ => .int
abbrev wsJ90 : List Cond := u_ws RJ9 TJ9 0
theorem nmJ9 : ∀ a, a < 0 → ∀ b, b < 0 → a ≠ b → (TJ9 a).2.1 ≠ (TJ9 b).2.1 := by decide +kernel
theorem tyJ9_ok : ∀ k, k < 0 → parseFieldDescriptor (TJ9 k).2.2.1 = some (tyJ9 k) := by decide +kernel
abbrev cJ9_abs_0f7a4 : ByteArray := prog_12_method_59_code
def yJ9_abs_0f7a4 : MethodName := ⟨RJ9, "abs", "(I)I"⟩
def RJ0 : String := "java/lang/String"
def TJ0 : u_T := fun k => match k with
  | _ => ("", "", "", false)
def tyJ0 : Nat → FieldType := fun k => match k with
  | _ => .int
abbrev wsJ00 : List Cond := u_ws RJ0 TJ0 0
theorem nmJ0 : ∀ a, a < 0 → ∀ b, b < 0 → a ≠ b → (TJ0 a).2.1 ≠ (TJ0 b).2.1 := by decide +kernel
theorem tyJ0_ok : ∀ k, k < 0 → parseFieldDescriptor (TJ0 k).2.2.1 = some (tyJ0 k) := by decide +kernel
def RJ7 : String := "java/util/Arrays"
def TJ7 : u_T := fun k => match k with
  | _ => ("", "", "", false)
def tyJ7 : Nat → FieldType := fun k => match k with
  | _ => .int
abbrev wsJ70 : List Cond := u_ws RJ7 TJ7 0
theorem nmJ7 : ∀ a, a < 0 → ∀ b, b < 0 → a ≠ b → (TJ7 a).2.1 ≠ (TJ7 b).2.1 := by decide +kernel
theorem tyJ7_ok : ∀ k, k < 0 → parseFieldDescriptor (TJ7 k).2.2.1 = some (tyJ7 k) := by decide +kernel
abbrev cJ7_fill_53178 : ByteArray := prog_16_method_103_code
def yJ7_fill_53178 : MethodName := ⟨RJ7, "fill", "([II)V"⟩
def RL : String := "BuildingPointsLaw"
abbrev cL_addMeasure : ByteArray := method_3_code
def yL_addMeasure : MethodName := ⟨RL, "addMeasure", "(LBuildingPoints;I[J)I"⟩
abbrev cL_addSwitch : ByteArray := method_4_code
def yL_addSwitch : MethodName := ⟨RL, "addSwitch", "(LBuildingPoints;II[J)I"⟩
abbrev cL_write : ByteArray := method_5_code
def yL_write : MethodName := ⟨RL, "write", "(LBuildingPoints;III[J)I"⟩
abbrev cL_value : ByteArray := method_6_code
def yL_value : MethodName := ⟨RL, "value", "(LBuildingPoints;I[J)I"⟩
abbrev cL_command : ByteArray := method_7_code
def yL_command : MethodName := ⟨RL, "command", "(LBuildingPoints;II[J)I"⟩
abbrev cL_standing : ByteArray := method_8_code
def yL_standing : MethodName := ⟨RL, "standing", "(LBuildingPoints;I[J)I"⟩
abbrev cL_held : ByteArray := method_9_code
def yL_held : MethodName := ⟨RL, "held", "(LBuildingPoints;I[J)I"⟩
abbrev cL_changes : ByteArray := method_10_code
def yL_changes : MethodName := ⟨RL, "changes", "(LBuildingPoints;I[J)I"⟩
abbrev cL_subscribe : ByteArray := method_11_code
def yL_subscribe : MethodName := ⟨RL, "subscribe", "(LBuildingPoints;III[J)I"⟩
abbrev cL_end : ByteArray := method_12_code
def yL_end : MethodName := ⟨RL, "end", "(LBuildingPoints;I)I"⟩
abbrev cL_goesOn : ByteArray := method_13_code
def yL_goesOn : MethodName := ⟨RL, "goesOn", "(LBuildingPoints;I[J)I"⟩
abbrev cL_reports : ByteArray := method_14_code
def yL_reports : MethodName := ⟨RL, "reports", "(LBuildingPoints;I[J)I"⟩
abbrev cL_reported : ByteArray := method_15_code
def yL_reported : MethodName := ⟨RL, "reported", "(LBuildingPoints;I[J)I"⟩
abbrev cL_addSchedule : ByteArray := method_16_code
def yL_addSchedule : MethodName := ⟨RL, "addSchedule", "(LBuildingPoints;II[J)I"⟩
abbrev cL_weekly : ByteArray := method_17_code
def yL_weekly : MethodName := ⟨RL, "weekly", "(LBuildingPoints;IIII[J)I"⟩
abbrev cL_once : ByteArray := method_18_code
def yL_once : MethodName := ⟨RL, "once", "(LBuildingPoints;IIII[J)I"⟩
abbrev cL_tells : ByteArray := method_19_code
def yL_tells : MethodName := ⟨RL, "tells", "(LBuildingPoints;II[J)I"⟩
abbrev cL_pass : ByteArray := method_20_code
def yL_pass : MethodName := ⟨RL, "pass", "(LBuildingPoints;I[J)I"⟩
abbrev cL_law : ByteArray := code
def yL_law : MethodName := ⟨RL, "law", "([I)Z"⟩
def wsX0_init : List Cond := .code yX0_init cX0_init 1 none :: ([.methodLink RX0 3 objectInit, .instanceMethod objectInit, .code objectInit ⟨#[0xb1]⟩ 1 none, .arrayClass .int, .fieldLink RX0 9 "BuildingPoints$Entries" "days" "[I", .fieldLink RX0 15 "BuildingPoints$Entries" "minutes" "[I", .fieldLink RX0 18 "BuildingPoints$Entries" "told" "[I", .fieldLink RX0 21 "BuildingPoints$Entries" "count" "I"] ++ wsX00)
def wsX0_add : List Cond := .code yX0_add cX0_add 4 none :: ([.fieldLink RX0 21 "BuildingPoints$Entries" "count" "I", .fieldLink RX0 9 "BuildingPoints$Entries" "days" "[I", .fieldLink RX0 15 "BuildingPoints$Entries" "minutes" "[I", .fieldLink RX0 18 "BuildingPoints$Entries" "told" "[I"] ++ wsX00)
def wsX0_hasDay : List Cond := .code yX0_hasDay cX0_hasDay 3 (some .boolean) :: ([.fieldLink RX0 21 "BuildingPoints$Entries" "count" "I", .fieldLink RX0 9 "BuildingPoints$Entries" "days" "[I"] ++ wsX00)
def wsX0_latest : List Cond := .code yX0_latest cX0_latest 6 (some .int) :: ([.constant RX0 25 (-100000), .fieldLink RX0 21 "BuildingPoints$Entries" "count" "I", .fieldLink RX0 9 "BuildingPoints$Entries" "days" "[I", .fieldLink RX0 15 "BuildingPoints$Entries" "minutes" "[I", .fieldLink RX0 18 "BuildingPoints$Entries" "told" "[I"] ++ wsX00)
def wsJ7_fill_53178 : List Cond := .code yJ7_fill_53178 cJ7_fill_53178 4 none :: ([])
def wsX1_init : List Cond := .code yX1_init cX1_init 5 none :: ([.methodLink RX1 3 objectInit, .instanceMethod objectInit, .code objectInit ⟨#[0xb1]⟩ 1 none, .fieldLink RX1 9 "BuildingPoints$Point" "lowest" "I", .fieldLink RX1 15 "BuildingPoints$Point" "highest" "I", .fieldLink RX1 18 "BuildingPoints$Point" "original" "I", .fieldLink RX1 21 "BuildingPoints$Point" "leastTime" "I", .arrayClass .int, .fieldLink RX1 24 "BuildingPoints$Point" "commands" "[I", .constant RX1 28 (-100000), .fieldLink RX1 35 "BuildingPoints$Point" "present" "I", .fieldLink RX1 38 "BuildingPoints$Point" "heldUntil" "I", .fieldLink RX1 41 "BuildingPoints$Point" "changeCount" "I", .methodLink RX1 29 yJ7_fill_53178, .static yJ7_fill_53178, .initialized RJ7, .code yJ7_fill_53178 cJ7_fill_53178 4 none] ++ wsX10)
def wsX1_canHave : List Cond := .code yX1_canHave cX1_canHave 2 (some .boolean) :: ([.fieldLink RX1 9 "BuildingPoints$Point" "lowest" "I", .fieldLink RX1 15 "BuildingPoints$Point" "highest" "I"] ++ wsX10)
def wsX1_isHeld : List Cond := .code yX1_isHeld cX1_isHeld 1 (some .boolean) :: ([.fieldLink RX1 38 "BuildingPoints$Point" "heldUntil" "I"] ++ wsX10)
def wsX1_lowestCommanded : List Cond := .code yX1_lowestCommanded cX1_lowestCommanded 2 (some .int) :: ([.fieldLink RX1 24 "BuildingPoints$Point" "commands" "[I", .constant RX1 28 (-100000)] ++ wsX10)
def wsX1_dueValue : List Cond := .code yX1_dueValue cX1_dueValue 2 (some .int) :: ([.fieldLink RX1 24 "BuildingPoints$Point" "commands" "[I", .fieldLink RX1 18 "BuildingPoints$Point" "original" "I", .methodLink RX1 44 yX1_lowestCommanded, .instanceMethod yX1_lowestCommanded, .selects RX1 yX1_lowestCommanded yX1_lowestCommanded, .initialized RX1, .code yX1_lowestCommanded cX1_lowestCommanded 2 (some .int), .constant RX1 28 (-100000)] ++ wsX10)
def wsX1_change : List Cond := .code yX1_change cX1_change 3 none :: ([.fieldLink RX1 35 "BuildingPoints$Point" "present" "I", .fieldLink RX1 41 "BuildingPoints$Point" "changeCount" "I", .fieldLink RX1 21 "BuildingPoints$Point" "leastTime" "I", .fieldLink RX1 24 "BuildingPoints$Point" "commands" "[I", .fieldLink RX1 38 "BuildingPoints$Point" "heldUntil" "I"] ++ wsX10)
def wsX2_init : List Cond := .code yX2_init cX2_init 3 none :: ([.methodLink RX2 3 objectInit, .instanceMethod objectInit, .code objectInit ⟨#[0xb1]⟩ 1 none, .fieldLink RX2 9 "BuildingPoints$Schedule" "point" "LBuildingPoints$Point;", .fieldLink RX2 15 "BuildingPoints$Schedule" "priority" "I", .classLink RX2 19 RX0, .instantiable RX0 4, .initialized RX0, .fieldLink RX2 22 "BuildingPoints$Schedule" "weekdays" "LBuildingPoints$Entries;", .fieldLink RX2 26 "BuildingPoints$Schedule" "singleDays" "LBuildingPoints$Entries;", .constant RX2 29 (-100000), .fieldLink RX2 30 "BuildingPoints$Schedule" "toldLast" "I", .methodLink RX2 21 yX0_init, .instanceMethod yX0_init, .code yX0_init cX0_init 1 none, .methodLink RX0 3 objectInit, .arrayClass .int, .fieldLink RX0 9 "BuildingPoints$Entries" "days" "[I", .fieldLink RX0 15 "BuildingPoints$Entries" "minutes" "[I", .fieldLink RX0 18 "BuildingPoints$Entries" "told" "[I", .fieldLink RX0 21 "BuildingPoints$Entries" "count" "I"] ++ wsX20 ++ wsX00)
def wsX2_entryCount : List Cond := .code yX2_entryCount cX2_entryCount 1 (some .int) :: ([.fieldLink RX2 22 "BuildingPoints$Schedule" "weekdays" "LBuildingPoints$Entries;", .fieldLink RX2 33 "BuildingPoints$Entries" "count" "I", .fieldLink RX2 26 "BuildingPoints$Schedule" "singleDays" "LBuildingPoints$Entries;"] ++ wsX20 ++ wsX00)
def wsX2_toldAt : List Cond := .code yX2_toldAt cX2_toldAt 4 (some .int) :: ([.fieldLink RX2 26 "BuildingPoints$Schedule" "singleDays" "LBuildingPoints$Entries;", .fieldLink RX2 22 "BuildingPoints$Schedule" "weekdays" "LBuildingPoints$Entries;", .methodLink RX2 36 yX0_hasDay, .instanceMethod yX0_hasDay, .selects RX0 yX0_hasDay yX0_hasDay, .initialized RX0, .code yX0_hasDay cX0_hasDay 3 (some .boolean), .fieldLink RX0 21 "BuildingPoints$Entries" "count" "I", .fieldLink RX0 9 "BuildingPoints$Entries" "days" "[I", .methodLink RX2 40 yX0_latest, .instanceMethod yX0_latest, .selects RX0 yX0_latest yX0_latest, .code yX0_latest cX0_latest 6 (some .int), .constant RX0 25 (-100000), .fieldLink RX0 15 "BuildingPoints$Entries" "minutes" "[I", .fieldLink RX0 18 "BuildingPoints$Entries" "told" "[I"] ++ wsX20 ++ wsX00)
def wsX3_init : List Cond := .code yX3_init cX3_init 4 none :: ([.methodLink RX3 1 objectInit, .instanceMethod objectInit, .code objectInit ⟨#[0xb1]⟩ 1 none, .fieldLink RX3 7 "BuildingPoints$Subscription" "point" "LBuildingPoints$Point;", .fieldLink RX3 13 "BuildingPoints$Subscription" "increment" "I", .fieldLink RX3 17 "BuildingPoints$Subscription" "endTime" "I", .fieldLink RX3 20 "BuildingPoints$Point" "present" "I", .fieldLink RX3 25 "BuildingPoints$Subscription" "kept" "I", .fieldLink RX3 28 "BuildingPoints$Subscription" "reportCount" "I", .fieldLink RX3 31 "BuildingPoints$Subscription" "isOpen" "Z"] ++ wsX30 ++ wsX10)
def wsX3_isFarFrom : List Cond := .code yX3_isFarFrom cX3_isFarFrom 2 (some .boolean) :: ([.fieldLink RX3 25 "BuildingPoints$Subscription" "kept" "I", .methodLink RX3 35 Lib.Math.abs.name, .static Lib.Math.abs.name, .initialized "java/lang/Math", .code Lib.Math.abs.name Lib.Math.abs.code 1 (some .int), .fieldLink RX3 13 "BuildingPoints$Subscription" "increment" "I"] ++ wsX30)
def wsX3_report : List Cond := .code yX3_report cX3_report 2 none :: ([.fieldLink RX3 25 "BuildingPoints$Subscription" "kept" "I", .fieldLink RX3 28 "BuildingPoints$Subscription" "reportCount" "I"] ++ wsX30)
def wsX4_init : List Cond := .code yX4_init cX4_init 1 none :: ([.methodLink RX4 1 objectInit, .instanceMethod objectInit, .code objectInit ⟨#[0xb1]⟩ 1 none, .classLink RX4 9 RX1, .fieldLink RX4 11 "BuildingPoints" "points" "[LBuildingPoints$Point;", .classLink RX4 15 RX3, .fieldLink RX4 17 "BuildingPoints" "subscriptions" "[LBuildingPoints$Subscription;", .classLink RX4 21 RX2, .fieldLink RX4 23 "BuildingPoints" "schedules" "[LBuildingPoints$Schedule;"] ++ wsX40)
def wsX4_requireWithin : List Cond := .code yX4_requireWithin cX4_requireWithin 3 none :: ([.classLink RX4 152 "java/lang/IllegalArgumentException", .initialized "java/lang/IllegalArgumentException"] ++ (vx_atS RX4 156 "java/lang/IllegalArgumentException" ["java/lang/RuntimeException", "java/lang/Exception"]).filter goodWord)
def wsX4_requireRoom : List Cond := .code yX4_requireRoom cX4_requireRoom 2 none :: ([.classLink RX4 54 "java/lang/IllegalStateException", .initialized "java/lang/IllegalStateException"] ++ (vx_atS RX4 58 "java/lang/IllegalStateException" ["java/lang/RuntimeException", "java/lang/Exception"]).filter goodWord)
def wsX4_addMeasure_r1 : List Cond := [Cond.fieldLink RX4 31 "BuildingPoints" "pointCount" "I", Cond.fieldLink RX4 11 "BuildingPoints" "points" "[LBuildingPoints$Point;", Cond.classLink RX4 9 RX1, Cond.instantiable RX1 8, Cond.initialized RX1, Cond.methodLink RX4 27 yX4_requireWithin, Cond.static yX4_requireWithin, Cond.initialized RX4, Cond.code yX4_requireWithin cX4_requireWithin 3 none, Cond.classLink RX4 152 "java/lang/IllegalArgumentException", Cond.initialized "java/lang/IllegalArgumentException", Cond.methodLink RX4 35 yX4_requireRoom, Cond.static yX4_requireRoom, Cond.code yX4_requireRoom cX4_requireRoom 2 none, Cond.classLink RX4 54 "java/lang/IllegalStateException", Cond.initialized "java/lang/IllegalStateException", Cond.methodLink RX4 39 yX1_init, Cond.instanceMethod yX1_init, Cond.code yX1_init cX1_init 5 none, Cond.methodLink RX1 3 objectInit, Cond.instanceMethod objectInit, Cond.code objectInit ⟨#[0xb1]⟩ 1 none, Cond.fieldLink RX1 9 "BuildingPoints$Point" "lowest" "I", Cond.fieldLink RX1 15 "BuildingPoints$Point" "highest" "I"]
def wsX4_addMeasure_r2 : List Cond := [Cond.fieldLink RX1 18 "BuildingPoints$Point" "original" "I", Cond.fieldLink RX1 21 "BuildingPoints$Point" "leastTime" "I", Cond.arrayClass .int, Cond.fieldLink RX1 24 "BuildingPoints$Point" "commands" "[I", Cond.constant RX1 28 (-100000), Cond.fieldLink RX1 35 "BuildingPoints$Point" "present" "I", Cond.fieldLink RX1 38 "BuildingPoints$Point" "heldUntil" "I", Cond.fieldLink RX1 41 "BuildingPoints$Point" "changeCount" "I", Cond.methodLink RX1 29 yJ7_fill_53178, Cond.static yJ7_fill_53178, Cond.initialized RJ7, Cond.code yJ7_fill_53178 cJ7_fill_53178 4 none]
def wsX4_addMeasure : List Cond := .code yX4_addMeasure cX4_addMeasure 2 (some .int) :: ((wsX4_addMeasure_r1 ++ wsX4_addMeasure_r2) ++ wsX40 ++ wsX10 ++ (vx_atS RX4 156 "java/lang/IllegalArgumentException" ["java/lang/RuntimeException", "java/lang/Exception"]).filter goodWord ++ (vx_atS RX4 58 "java/lang/IllegalStateException" ["java/lang/RuntimeException", "java/lang/Exception"]).filter goodWord)
def wsX4_addSwitch_r1 : List Cond := [Cond.fieldLink RX4 31 "BuildingPoints" "pointCount" "I", Cond.fieldLink RX4 11 "BuildingPoints" "points" "[LBuildingPoints$Point;", Cond.classLink RX4 9 RX1, Cond.instantiable RX1 8, Cond.initialized RX1, Cond.methodLink RX4 27 yX4_requireWithin, Cond.static yX4_requireWithin, Cond.initialized RX4, Cond.code yX4_requireWithin cX4_requireWithin 3 none, Cond.classLink RX4 152 "java/lang/IllegalArgumentException", Cond.initialized "java/lang/IllegalArgumentException", Cond.methodLink RX4 35 yX4_requireRoom, Cond.static yX4_requireRoom, Cond.code yX4_requireRoom cX4_requireRoom 2 none, Cond.classLink RX4 54 "java/lang/IllegalStateException", Cond.initialized "java/lang/IllegalStateException", Cond.methodLink RX4 39 yX1_init, Cond.instanceMethod yX1_init, Cond.code yX1_init cX1_init 5 none, Cond.methodLink RX1 3 objectInit, Cond.instanceMethod objectInit, Cond.code objectInit ⟨#[0xb1]⟩ 1 none, Cond.fieldLink RX1 9 "BuildingPoints$Point" "lowest" "I", Cond.fieldLink RX1 15 "BuildingPoints$Point" "highest" "I"]
def wsX4_addSwitch_r2 : List Cond := [Cond.fieldLink RX1 18 "BuildingPoints$Point" "original" "I", Cond.fieldLink RX1 21 "BuildingPoints$Point" "leastTime" "I", Cond.arrayClass .int, Cond.fieldLink RX1 24 "BuildingPoints$Point" "commands" "[I", Cond.constant RX1 28 (-100000), Cond.fieldLink RX1 35 "BuildingPoints$Point" "present" "I", Cond.fieldLink RX1 38 "BuildingPoints$Point" "heldUntil" "I", Cond.fieldLink RX1 41 "BuildingPoints$Point" "changeCount" "I", Cond.methodLink RX1 29 yJ7_fill_53178, Cond.static yJ7_fill_53178, Cond.initialized RJ7, Cond.code yJ7_fill_53178 cJ7_fill_53178 4 none]
def wsX4_addSwitch : List Cond := .code yX4_addSwitch cX4_addSwitch 3 (some .int) :: ((wsX4_addSwitch_r1 ++ wsX4_addSwitch_r2) ++ wsX40 ++ wsX10 ++ (vx_atS RX4 156 "java/lang/IllegalArgumentException" ["java/lang/RuntimeException", "java/lang/Exception"]).filter goodWord ++ (vx_atS RX4 58 "java/lang/IllegalStateException" ["java/lang/RuntimeException", "java/lang/Exception"]).filter goodWord)
def wsX4_pointAt : List Cond := .code yX4_pointAt cX4_pointAt 2 (some (.object "BuildingPoints$Point")) :: ([.classLink RX4 173 "java/lang/IndexOutOfBoundsException", .initialized "java/lang/IndexOutOfBoundsException", .fieldLink RX4 11 "BuildingPoints" "points" "[LBuildingPoints$Point;"] ++ wsX40 ++ (vx_atS RX4 177 "java/lang/IndexOutOfBoundsException" ["java/lang/RuntimeException", "java/lang/Exception"]).filter goodWord)
def wsX4_requireCommand : List Cond := .code yX4_requireCommand cX4_requireCommand 2 none :: ([.classLink RX4 152 "java/lang/IllegalArgumentException", .initialized "java/lang/IllegalArgumentException", .constant RX4 157 (-100000), .methodLink RX4 158 yX1_canHave, .instanceMethod yX1_canHave, .selects RX1 yX1_canHave yX1_canHave, .initialized RX1, .code yX1_canHave cX1_canHave 2 (some .boolean), .fieldLink RX1 9 "BuildingPoints$Point" "lowest" "I", .fieldLink RX1 15 "BuildingPoints$Point" "highest" "I"] ++ wsX10 ++ (vx_atS RX4 156 "java/lang/IllegalArgumentException" ["java/lang/RuntimeException", "java/lang/Exception"]).filter goodWord)
def wsX4_reportChange : List Cond := .code yX4_reportChange cX4_reportChange 6 none :: ([.fieldLink RX4 17 "BuildingPoints" "subscriptions" "[LBuildingPoints$Subscription;", .fieldLink RX4 95 "BuildingPoints$Subscription" "isOpen" "Z", .fieldLink RX4 192 "BuildingPoints$Subscription" "point" "LBuildingPoints$Point;", .fieldLink RX4 65 "BuildingPoints$Point" "present" "I", .fieldLink RX4 146 "BuildingPoints" "allReports" "I", .methodLink RX4 193 yX3_isFarFrom, .instanceMethod yX3_isFarFrom, .selects RX3 yX3_isFarFrom yX3_isFarFrom, .initialized RX3, .code yX3_isFarFrom cX3_isFarFrom 2 (some .boolean), .fieldLink RX3 25 "BuildingPoints$Subscription" "kept" "I", .methodLink RX3 35 Lib.Math.abs.name, .static Lib.Math.abs.name, .initialized "java/lang/Math", .code Lib.Math.abs.name Lib.Math.abs.code 1 (some .int), .fieldLink RX3 13 "BuildingPoints$Subscription" "increment" "I", .methodLink RX4 196 yX3_report, .instanceMethod yX3_report, .selects RX3 yX3_report yX3_report, .code yX3_report cX3_report 2 none, .fieldLink RX3 28 "BuildingPoints$Subscription" "reportCount" "I"] ++ wsX40 ++ wsX30 ++ wsX10)
def wsX4_put_r1 : List Cond := [Cond.fieldLink RX4 68 "BuildingPoints$Point" "commands" "[I", Cond.fieldLink RX4 65 "BuildingPoints$Point" "present" "I", Cond.fieldLink RX4 79 "BuildingPoints" "now" "I", Cond.methodLink RX4 182 yX1_dueValue, Cond.instanceMethod yX1_dueValue, Cond.selects RX1 yX1_dueValue yX1_dueValue, Cond.initialized RX1, Cond.code yX1_dueValue cX1_dueValue 2 (some .int), Cond.fieldLink RX1 24 "BuildingPoints$Point" "commands" "[I", Cond.fieldLink RX1 18 "BuildingPoints$Point" "original" "I", Cond.methodLink RX1 44 yX1_lowestCommanded, Cond.instanceMethod yX1_lowestCommanded, Cond.selects RX1 yX1_lowestCommanded yX1_lowestCommanded, Cond.code yX1_lowestCommanded cX1_lowestCommanded 2 (some .int), Cond.constant RX1 28 (-100000), Cond.methodLink RX4 185 yX1_change, Cond.instanceMethod yX1_change, Cond.selects RX1 yX1_change yX1_change, Cond.code yX1_change cX1_change 3 none, Cond.fieldLink RX1 35 "BuildingPoints$Point" "present" "I", Cond.fieldLink RX1 41 "BuildingPoints$Point" "changeCount" "I", Cond.fieldLink RX1 21 "BuildingPoints$Point" "leastTime" "I", Cond.fieldLink RX1 38 "BuildingPoints$Point" "heldUntil" "I", Cond.methodLink RX4 188 yX4_reportChange]
def wsX4_put_r2 : List Cond := [Cond.instanceMethod yX4_reportChange, Cond.selects RX4 yX4_reportChange yX4_reportChange, Cond.initialized RX4, Cond.code yX4_reportChange cX4_reportChange 6 none, Cond.fieldLink RX4 17 "BuildingPoints" "subscriptions" "[LBuildingPoints$Subscription;", Cond.fieldLink RX4 95 "BuildingPoints$Subscription" "isOpen" "Z", Cond.fieldLink RX4 192 "BuildingPoints$Subscription" "point" "LBuildingPoints$Point;", Cond.fieldLink RX4 146 "BuildingPoints" "allReports" "I", Cond.methodLink RX4 193 yX3_isFarFrom, Cond.instanceMethod yX3_isFarFrom, Cond.selects RX3 yX3_isFarFrom yX3_isFarFrom, Cond.initialized RX3, Cond.code yX3_isFarFrom cX3_isFarFrom 2 (some .boolean), Cond.fieldLink RX3 25 "BuildingPoints$Subscription" "kept" "I", Cond.methodLink RX3 35 Lib.Math.abs.name, Cond.static Lib.Math.abs.name, Cond.initialized "java/lang/Math", Cond.code Lib.Math.abs.name Lib.Math.abs.code 1 (some .int), Cond.fieldLink RX3 13 "BuildingPoints$Subscription" "increment" "I", Cond.methodLink RX4 196 yX3_report, Cond.instanceMethod yX3_report, Cond.selects RX3 yX3_report yX3_report, Cond.code yX3_report cX3_report 2 none, Cond.fieldLink RX3 28 "BuildingPoints$Subscription" "reportCount" "I"]
def wsX4_put : List Cond := .code yX4_put cX4_put 5 none :: ((wsX4_put_r1 ++ wsX4_put_r2) ++ wsX10 ++ wsX40 ++ wsX30)
def wsX4_write_r1 : List Cond := [Cond.classLink RX4 54 "java/lang/IllegalStateException", Cond.initialized "java/lang/IllegalStateException", Cond.fieldLink RX4 65 "BuildingPoints$Point" "present" "I", Cond.methodLink RX4 42 yX4_pointAt, Cond.instanceMethod yX4_pointAt, Cond.selects RX4 yX4_pointAt yX4_pointAt, Cond.initialized RX4, Cond.code yX4_pointAt cX4_pointAt 2 (some (.object "BuildingPoints$Point")), Cond.classLink RX4 173 "java/lang/IndexOutOfBoundsException", Cond.initialized "java/lang/IndexOutOfBoundsException", Cond.fieldLink RX4 11 "BuildingPoints" "points" "[LBuildingPoints$Point;", Cond.methodLink RX4 27 yX4_requireWithin, Cond.static yX4_requireWithin, Cond.code yX4_requireWithin cX4_requireWithin 3 none, Cond.classLink RX4 152 "java/lang/IllegalArgumentException", Cond.initialized "java/lang/IllegalArgumentException", Cond.methodLink RX4 46 yX4_requireCommand, Cond.static yX4_requireCommand, Cond.code yX4_requireCommand cX4_requireCommand 2 none, Cond.constant RX4 157 (-100000), Cond.methodLink RX4 158 yX1_canHave, Cond.instanceMethod yX1_canHave, Cond.selects RX1 yX1_canHave yX1_canHave, Cond.initialized RX1]
def wsX4_write_r2 : List Cond := [Cond.code yX1_canHave cX1_canHave 2 (some .boolean), Cond.fieldLink RX1 9 "BuildingPoints$Point" "lowest" "I", Cond.fieldLink RX1 15 "BuildingPoints$Point" "highest" "I", Cond.methodLink RX4 50 yX1_isHeld, Cond.instanceMethod yX1_isHeld, Cond.selects RX1 yX1_isHeld yX1_isHeld, Cond.code yX1_isHeld cX1_isHeld 1 (some .boolean), Cond.fieldLink RX1 38 "BuildingPoints$Point" "heldUntil" "I", Cond.methodLink RX4 61 yX4_put, Cond.instanceMethod yX4_put, Cond.selects RX4 yX4_put yX4_put, Cond.code yX4_put cX4_put 5 none, Cond.fieldLink RX4 68 "BuildingPoints$Point" "commands" "[I", Cond.fieldLink RX4 79 "BuildingPoints" "now" "I", Cond.methodLink RX4 182 yX1_dueValue, Cond.instanceMethod yX1_dueValue, Cond.selects RX1 yX1_dueValue yX1_dueValue, Cond.code yX1_dueValue cX1_dueValue 2 (some .int), Cond.fieldLink RX1 24 "BuildingPoints$Point" "commands" "[I", Cond.fieldLink RX1 18 "BuildingPoints$Point" "original" "I", Cond.methodLink RX1 44 yX1_lowestCommanded, Cond.instanceMethod yX1_lowestCommanded, Cond.selects RX1 yX1_lowestCommanded yX1_lowestCommanded, Cond.code yX1_lowestCommanded cX1_lowestCommanded 2 (some .int)]
def wsX4_write_r3 : List Cond := [Cond.constant RX1 28 (-100000), Cond.methodLink RX4 185 yX1_change, Cond.instanceMethod yX1_change, Cond.selects RX1 yX1_change yX1_change, Cond.code yX1_change cX1_change 3 none, Cond.fieldLink RX1 35 "BuildingPoints$Point" "present" "I", Cond.fieldLink RX1 41 "BuildingPoints$Point" "changeCount" "I", Cond.fieldLink RX1 21 "BuildingPoints$Point" "leastTime" "I", Cond.methodLink RX4 188 yX4_reportChange, Cond.instanceMethod yX4_reportChange, Cond.selects RX4 yX4_reportChange yX4_reportChange, Cond.code yX4_reportChange cX4_reportChange 6 none, Cond.fieldLink RX4 17 "BuildingPoints" "subscriptions" "[LBuildingPoints$Subscription;", Cond.fieldLink RX4 95 "BuildingPoints$Subscription" "isOpen" "Z", Cond.fieldLink RX4 192 "BuildingPoints$Subscription" "point" "LBuildingPoints$Point;", Cond.fieldLink RX4 146 "BuildingPoints" "allReports" "I", Cond.methodLink RX4 193 yX3_isFarFrom, Cond.instanceMethod yX3_isFarFrom, Cond.selects RX3 yX3_isFarFrom yX3_isFarFrom, Cond.initialized RX3, Cond.code yX3_isFarFrom cX3_isFarFrom 2 (some .boolean), Cond.fieldLink RX3 25 "BuildingPoints$Subscription" "kept" "I", Cond.methodLink RX3 35 Lib.Math.abs.name, Cond.static Lib.Math.abs.name]
def wsX4_write_r4 : List Cond := [Cond.initialized "java/lang/Math", Cond.code Lib.Math.abs.name Lib.Math.abs.code 1 (some .int), Cond.fieldLink RX3 13 "BuildingPoints$Subscription" "increment" "I", Cond.methodLink RX4 196 yX3_report, Cond.instanceMethod yX3_report, Cond.selects RX3 yX3_report yX3_report, Cond.code yX3_report cX3_report 2 none, Cond.fieldLink RX3 28 "BuildingPoints$Subscription" "reportCount" "I"]
def wsX4_write : List Cond := .code yX4_write cX4_write 5 (some .int) :: ((wsX4_write_r1 ++ (wsX4_write_r2 ++ (wsX4_write_r3 ++ wsX4_write_r4))) ++ wsX10 ++ wsX40 ++ wsX30 ++ (vx_atS RX4 58 "java/lang/IllegalStateException" ["java/lang/RuntimeException", "java/lang/Exception"]).filter goodWord ++ (vx_atS RX4 177 "java/lang/IndexOutOfBoundsException" ["java/lang/RuntimeException", "java/lang/Exception"]).filter goodWord ++ (vx_atS RX4 156 "java/lang/IllegalArgumentException" ["java/lang/RuntimeException", "java/lang/Exception"]).filter goodWord)
def wsX4_value : List Cond := .code yX4_value cX4_value 2 (some .int) :: ([.fieldLink RX4 65 "BuildingPoints$Point" "present" "I", .methodLink RX4 42 yX4_pointAt, .instanceMethod yX4_pointAt, .selects RX4 yX4_pointAt yX4_pointAt, .initialized RX4, .code yX4_pointAt cX4_pointAt 2 (some (.object "BuildingPoints$Point")), .classLink RX4 173 "java/lang/IndexOutOfBoundsException", .initialized "java/lang/IndexOutOfBoundsException", .fieldLink RX4 11 "BuildingPoints" "points" "[LBuildingPoints$Point;"] ++ wsX10 ++ wsX40 ++ (vx_atS RX4 177 "java/lang/IndexOutOfBoundsException" ["java/lang/RuntimeException", "java/lang/Exception"]).filter goodWord)
def wsX4_command : List Cond := .code yX4_command cX4_command 4 (some .int) :: ([.fieldLink RX4 68 "BuildingPoints$Point" "commands" "[I", .methodLink RX4 42 yX4_pointAt, .instanceMethod yX4_pointAt, .selects RX4 yX4_pointAt yX4_pointAt, .initialized RX4, .code yX4_pointAt cX4_pointAt 2 (some (.object "BuildingPoints$Point")), .classLink RX4 173 "java/lang/IndexOutOfBoundsException", .initialized "java/lang/IndexOutOfBoundsException", .fieldLink RX4 11 "BuildingPoints" "points" "[LBuildingPoints$Point;", .methodLink RX4 27 yX4_requireWithin, .static yX4_requireWithin, .code yX4_requireWithin cX4_requireWithin 3 none, .classLink RX4 152 "java/lang/IllegalArgumentException", .initialized "java/lang/IllegalArgumentException"] ++ wsX10 ++ wsX40 ++ (vx_atS RX4 177 "java/lang/IndexOutOfBoundsException" ["java/lang/RuntimeException", "java/lang/Exception"]).filter goodWord ++ (vx_atS RX4 156 "java/lang/IllegalArgumentException" ["java/lang/RuntimeException", "java/lang/Exception"]).filter goodWord)
def wsX4_standing : List Cond := .code yX4_standing cX4_standing 2 (some .int) :: ([.methodLink RX4 42 yX4_pointAt, .instanceMethod yX4_pointAt, .selects RX4 yX4_pointAt yX4_pointAt, .initialized RX4, .code yX4_pointAt cX4_pointAt 2 (some (.object "BuildingPoints$Point")), .classLink RX4 173 "java/lang/IndexOutOfBoundsException", .initialized "java/lang/IndexOutOfBoundsException", .fieldLink RX4 11 "BuildingPoints" "points" "[LBuildingPoints$Point;", .methodLink RX4 72 yX1_lowestCommanded, .instanceMethod yX1_lowestCommanded, .selects RX1 yX1_lowestCommanded yX1_lowestCommanded, .initialized RX1, .code yX1_lowestCommanded cX1_lowestCommanded 2 (some .int), .fieldLink RX1 24 "BuildingPoints$Point" "commands" "[I", .constant RX1 28 (-100000)] ++ wsX40 ++ wsX10 ++ (vx_atS RX4 177 "java/lang/IndexOutOfBoundsException" ["java/lang/RuntimeException", "java/lang/Exception"]).filter goodWord)
def wsX4_held : List Cond := .code yX4_held cX4_held 3 (some .int) :: ([.fieldLink RX4 76 "BuildingPoints$Point" "heldUntil" "I", .fieldLink RX4 79 "BuildingPoints" "now" "I", .methodLink RX4 42 yX4_pointAt, .instanceMethod yX4_pointAt, .selects RX4 yX4_pointAt yX4_pointAt, .initialized RX4, .code yX4_pointAt cX4_pointAt 2 (some (.object "BuildingPoints$Point")), .classLink RX4 173 "java/lang/IndexOutOfBoundsException", .initialized "java/lang/IndexOutOfBoundsException", .fieldLink RX4 11 "BuildingPoints" "points" "[LBuildingPoints$Point;", .methodLink RX4 50 yX1_isHeld, .instanceMethod yX1_isHeld, .selects RX1 yX1_isHeld yX1_isHeld, .initialized RX1, .code yX1_isHeld cX1_isHeld 1 (some .boolean), .fieldLink RX1 38 "BuildingPoints$Point" "heldUntil" "I"] ++ wsX10 ++ wsX40 ++ (vx_atS RX4 177 "java/lang/IndexOutOfBoundsException" ["java/lang/RuntimeException", "java/lang/Exception"]).filter goodWord)
def wsX4_changes : List Cond := .code yX4_changes cX4_changes 2 (some .int) :: ([.fieldLink RX4 82 "BuildingPoints$Point" "changeCount" "I", .methodLink RX4 42 yX4_pointAt, .instanceMethod yX4_pointAt, .selects RX4 yX4_pointAt yX4_pointAt, .initialized RX4, .code yX4_pointAt cX4_pointAt 2 (some (.object "BuildingPoints$Point")), .classLink RX4 173 "java/lang/IndexOutOfBoundsException", .initialized "java/lang/IndexOutOfBoundsException", .fieldLink RX4 11 "BuildingPoints" "points" "[LBuildingPoints$Point;"] ++ wsX10 ++ wsX40 ++ (vx_atS RX4 177 "java/lang/IndexOutOfBoundsException" ["java/lang/RuntimeException", "java/lang/Exception"]).filter goodWord)
def wsX4_subscribe_r1 : List Cond := [Cond.constant RX4 85 (100000), Cond.fieldLink RX4 86 "BuildingPoints" "subscriptionCount" "I", Cond.fieldLink RX4 17 "BuildingPoints" "subscriptions" "[LBuildingPoints$Subscription;", Cond.classLink RX4 15 RX3, Cond.instantiable RX3 6, Cond.initialized RX3, Cond.fieldLink RX4 79 "BuildingPoints" "now" "I", Cond.methodLink RX4 42 yX4_pointAt, Cond.instanceMethod yX4_pointAt, Cond.selects RX4 yX4_pointAt yX4_pointAt, Cond.initialized RX4, Cond.code yX4_pointAt cX4_pointAt 2 (some (.object "BuildingPoints$Point")), Cond.classLink RX4 173 "java/lang/IndexOutOfBoundsException", Cond.initialized "java/lang/IndexOutOfBoundsException", Cond.fieldLink RX4 11 "BuildingPoints" "points" "[LBuildingPoints$Point;", Cond.methodLink RX4 27 yX4_requireWithin, Cond.static yX4_requireWithin, Cond.code yX4_requireWithin cX4_requireWithin 3 none, Cond.classLink RX4 152 "java/lang/IllegalArgumentException", Cond.initialized "java/lang/IllegalArgumentException", Cond.methodLink RX4 35 yX4_requireRoom, Cond.static yX4_requireRoom, Cond.code yX4_requireRoom cX4_requireRoom 2 none, Cond.classLink RX4 54 "java/lang/IllegalStateException"]
def wsX4_subscribe_r2 : List Cond := [Cond.initialized "java/lang/IllegalStateException", Cond.methodLink RX4 89 yX3_init, Cond.instanceMethod yX3_init, Cond.code yX3_init cX3_init 4 none, Cond.methodLink RX3 1 objectInit, Cond.instanceMethod objectInit, Cond.code objectInit ⟨#[0xb1]⟩ 1 none, Cond.fieldLink RX3 7 "BuildingPoints$Subscription" "point" "LBuildingPoints$Point;", Cond.fieldLink RX3 13 "BuildingPoints$Subscription" "increment" "I", Cond.fieldLink RX3 17 "BuildingPoints$Subscription" "endTime" "I", Cond.fieldLink RX3 20 "BuildingPoints$Point" "present" "I", Cond.fieldLink RX3 25 "BuildingPoints$Subscription" "kept" "I", Cond.fieldLink RX3 28 "BuildingPoints$Subscription" "reportCount" "I", Cond.fieldLink RX3 31 "BuildingPoints$Subscription" "isOpen" "Z"]
def wsX4_subscribe : List Cond := .code yX4_subscribe cX4_subscribe 5 (some .int) :: ((wsX4_subscribe_r1 ++ wsX4_subscribe_r2) ++ wsX40 ++ wsX30 ++ wsX10 ++ (vx_atS RX4 177 "java/lang/IndexOutOfBoundsException" ["java/lang/RuntimeException", "java/lang/Exception"]).filter goodWord ++ (vx_atS RX4 156 "java/lang/IllegalArgumentException" ["java/lang/RuntimeException", "java/lang/Exception"]).filter goodWord ++ (vx_atS RX4 58 "java/lang/IllegalStateException" ["java/lang/RuntimeException", "java/lang/Exception"]).filter goodWord)
def wsX4_subscriptionAt : List Cond := .code yX4_subscriptionAt cX4_subscriptionAt 2 (some (.object "BuildingPoints$Subscription")) :: ([.classLink RX4 173 "java/lang/IndexOutOfBoundsException", .initialized "java/lang/IndexOutOfBoundsException", .fieldLink RX4 17 "BuildingPoints" "subscriptions" "[LBuildingPoints$Subscription;"] ++ wsX40 ++ (vx_atS RX4 177 "java/lang/IndexOutOfBoundsException" ["java/lang/RuntimeException", "java/lang/Exception"]).filter goodWord)
def wsX4_end : List Cond := .code yX4_end cX4_end 3 none :: ([.classLink RX4 54 "java/lang/IllegalStateException", .initialized "java/lang/IllegalStateException", .fieldLink RX4 95 "BuildingPoints$Subscription" "isOpen" "Z", .methodLink RX4 91 yX4_subscriptionAt, .instanceMethod yX4_subscriptionAt, .selects RX4 yX4_subscriptionAt yX4_subscriptionAt, .initialized RX4, .code yX4_subscriptionAt cX4_subscriptionAt 2 (some (.object "BuildingPoints$Subscription")), .classLink RX4 173 "java/lang/IndexOutOfBoundsException", .initialized "java/lang/IndexOutOfBoundsException", .fieldLink RX4 17 "BuildingPoints" "subscriptions" "[LBuildingPoints$Subscription;"] ++ wsX30 ++ wsX40 ++ (vx_atS RX4 58 "java/lang/IllegalStateException" ["java/lang/RuntimeException", "java/lang/Exception"]).filter goodWord ++ (vx_atS RX4 177 "java/lang/IndexOutOfBoundsException" ["java/lang/RuntimeException", "java/lang/Exception"]).filter goodWord)
def wsX4_goesOn : List Cond := .code yX4_goesOn cX4_goesOn 2 (some .boolean) :: ([.fieldLink RX4 95 "BuildingPoints$Subscription" "isOpen" "Z", .methodLink RX4 91 yX4_subscriptionAt, .instanceMethod yX4_subscriptionAt, .selects RX4 yX4_subscriptionAt yX4_subscriptionAt, .initialized RX4, .code yX4_subscriptionAt cX4_subscriptionAt 2 (some (.object "BuildingPoints$Subscription")), .classLink RX4 173 "java/lang/IndexOutOfBoundsException", .initialized "java/lang/IndexOutOfBoundsException", .fieldLink RX4 17 "BuildingPoints" "subscriptions" "[LBuildingPoints$Subscription;"] ++ wsX30 ++ wsX40 ++ (vx_atS RX4 177 "java/lang/IndexOutOfBoundsException" ["java/lang/RuntimeException", "java/lang/Exception"]).filter goodWord)
def wsX4_reports : List Cond := .code yX4_reports cX4_reports 2 (some .int) :: ([.fieldLink RX4 101 "BuildingPoints$Subscription" "reportCount" "I", .methodLink RX4 91 yX4_subscriptionAt, .instanceMethod yX4_subscriptionAt, .selects RX4 yX4_subscriptionAt yX4_subscriptionAt, .initialized RX4, .code yX4_subscriptionAt cX4_subscriptionAt 2 (some (.object "BuildingPoints$Subscription")), .classLink RX4 173 "java/lang/IndexOutOfBoundsException", .initialized "java/lang/IndexOutOfBoundsException", .fieldLink RX4 17 "BuildingPoints" "subscriptions" "[LBuildingPoints$Subscription;"] ++ wsX30 ++ wsX40 ++ (vx_atS RX4 177 "java/lang/IndexOutOfBoundsException" ["java/lang/RuntimeException", "java/lang/Exception"]).filter goodWord)
def wsX4_reported : List Cond := .code yX4_reported cX4_reported 2 (some .int) :: ([.fieldLink RX4 104 "BuildingPoints$Subscription" "kept" "I", .methodLink RX4 91 yX4_subscriptionAt, .instanceMethod yX4_subscriptionAt, .selects RX4 yX4_subscriptionAt yX4_subscriptionAt, .initialized RX4, .code yX4_subscriptionAt cX4_subscriptionAt 2 (some (.object "BuildingPoints$Subscription")), .classLink RX4 173 "java/lang/IndexOutOfBoundsException", .initialized "java/lang/IndexOutOfBoundsException", .fieldLink RX4 17 "BuildingPoints" "subscriptions" "[LBuildingPoints$Subscription;"] ++ wsX30 ++ wsX40 ++ (vx_atS RX4 177 "java/lang/IndexOutOfBoundsException" ["java/lang/RuntimeException", "java/lang/Exception"]).filter goodWord)
def wsX4_addSchedule_r1 : List Cond := [Cond.fieldLink RX4 107 "BuildingPoints" "scheduleCount" "I", Cond.fieldLink RX4 23 "BuildingPoints" "schedules" "[LBuildingPoints$Schedule;", Cond.classLink RX4 21 RX2, Cond.instantiable RX2 5, Cond.initialized RX2, Cond.methodLink RX4 42 yX4_pointAt, Cond.instanceMethod yX4_pointAt, Cond.selects RX4 yX4_pointAt yX4_pointAt, Cond.initialized RX4, Cond.code yX4_pointAt cX4_pointAt 2 (some (.object "BuildingPoints$Point")), Cond.classLink RX4 173 "java/lang/IndexOutOfBoundsException", Cond.initialized "java/lang/IndexOutOfBoundsException", Cond.fieldLink RX4 11 "BuildingPoints" "points" "[LBuildingPoints$Point;", Cond.methodLink RX4 27 yX4_requireWithin, Cond.static yX4_requireWithin, Cond.code yX4_requireWithin cX4_requireWithin 3 none, Cond.classLink RX4 152 "java/lang/IllegalArgumentException", Cond.initialized "java/lang/IllegalArgumentException", Cond.methodLink RX4 35 yX4_requireRoom, Cond.static yX4_requireRoom, Cond.code yX4_requireRoom cX4_requireRoom 2 none, Cond.classLink RX4 54 "java/lang/IllegalStateException", Cond.initialized "java/lang/IllegalStateException", Cond.methodLink RX4 110 yX2_init]
def wsX4_addSchedule_r2 : List Cond := [Cond.instanceMethod yX2_init, Cond.code yX2_init cX2_init 3 none, Cond.methodLink RX2 3 objectInit, Cond.instanceMethod objectInit, Cond.code objectInit ⟨#[0xb1]⟩ 1 none, Cond.fieldLink RX2 9 "BuildingPoints$Schedule" "point" "LBuildingPoints$Point;", Cond.fieldLink RX2 15 "BuildingPoints$Schedule" "priority" "I", Cond.classLink RX2 19 RX0, Cond.instantiable RX0 4, Cond.initialized RX0, Cond.fieldLink RX2 22 "BuildingPoints$Schedule" "weekdays" "LBuildingPoints$Entries;", Cond.fieldLink RX2 26 "BuildingPoints$Schedule" "singleDays" "LBuildingPoints$Entries;", Cond.constant RX2 29 (-100000), Cond.fieldLink RX2 30 "BuildingPoints$Schedule" "toldLast" "I", Cond.methodLink RX2 21 yX0_init, Cond.instanceMethod yX0_init, Cond.code yX0_init cX0_init 1 none, Cond.methodLink RX0 3 objectInit, Cond.arrayClass .int, Cond.fieldLink RX0 9 "BuildingPoints$Entries" "days" "[I", Cond.fieldLink RX0 15 "BuildingPoints$Entries" "minutes" "[I", Cond.fieldLink RX0 18 "BuildingPoints$Entries" "told" "[I", Cond.fieldLink RX0 21 "BuildingPoints$Entries" "count" "I"]
def wsX4_addSchedule : List Cond := .code yX4_addSchedule cX4_addSchedule 4 (some .int) :: ((wsX4_addSchedule_r1 ++ wsX4_addSchedule_r2) ++ wsX40 ++ wsX20 ++ wsX00 ++ (vx_atS RX4 177 "java/lang/IndexOutOfBoundsException" ["java/lang/RuntimeException", "java/lang/Exception"]).filter goodWord ++ (vx_atS RX4 156 "java/lang/IllegalArgumentException" ["java/lang/RuntimeException", "java/lang/Exception"]).filter goodWord ++ (vx_atS RX4 58 "java/lang/IllegalStateException" ["java/lang/RuntimeException", "java/lang/Exception"]).filter goodWord)
def wsX4_scheduleAt : List Cond := .code yX4_scheduleAt cX4_scheduleAt 2 (some (.object "BuildingPoints$Schedule")) :: ([.classLink RX4 173 "java/lang/IndexOutOfBoundsException", .initialized "java/lang/IndexOutOfBoundsException", .fieldLink RX4 23 "BuildingPoints" "schedules" "[LBuildingPoints$Schedule;"] ++ wsX40 ++ (vx_atS RX4 177 "java/lang/IndexOutOfBoundsException" ["java/lang/RuntimeException", "java/lang/Exception"]).filter goodWord)
def wsX4_requireEntry_r1 : List Cond := [Cond.fieldLink RX4 166 "BuildingPoints$Schedule" "point" "LBuildingPoints$Point;", Cond.methodLink RX4 27 yX4_requireWithin, Cond.static yX4_requireWithin, Cond.initialized RX4, Cond.code yX4_requireWithin cX4_requireWithin 3 none, Cond.classLink RX4 152 "java/lang/IllegalArgumentException", Cond.initialized "java/lang/IllegalArgumentException", Cond.methodLink RX4 46 yX4_requireCommand, Cond.static yX4_requireCommand, Cond.code yX4_requireCommand cX4_requireCommand 2 none, Cond.constant RX4 157 (-100000), Cond.methodLink RX4 158 yX1_canHave, Cond.instanceMethod yX1_canHave, Cond.selects RX1 yX1_canHave yX1_canHave, Cond.initialized RX1, Cond.code yX1_canHave cX1_canHave 2 (some .boolean), Cond.fieldLink RX1 9 "BuildingPoints$Point" "lowest" "I", Cond.fieldLink RX1 15 "BuildingPoints$Point" "highest" "I", Cond.methodLink RX4 170 yX2_entryCount, Cond.instanceMethod yX2_entryCount, Cond.selects RX2 yX2_entryCount yX2_entryCount, Cond.initialized RX2, Cond.code yX2_entryCount cX2_entryCount 1 (some .int), Cond.fieldLink RX2 22 "BuildingPoints$Schedule" "weekdays" "LBuildingPoints$Entries;"]
def wsX4_requireEntry_r2 : List Cond := [Cond.fieldLink RX2 33 "BuildingPoints$Entries" "count" "I", Cond.fieldLink RX2 26 "BuildingPoints$Schedule" "singleDays" "LBuildingPoints$Entries;", Cond.methodLink RX4 35 yX4_requireRoom, Cond.static yX4_requireRoom, Cond.code yX4_requireRoom cX4_requireRoom 2 none, Cond.classLink RX4 54 "java/lang/IllegalStateException", Cond.initialized "java/lang/IllegalStateException"]
def wsX4_requireEntry : List Cond := .code yX4_requireEntry cX4_requireEntry 3 none :: ((wsX4_requireEntry_r1 ++ wsX4_requireEntry_r2) ++ wsX20 ++ wsX10 ++ wsX00 ++ (vx_atS RX4 156 "java/lang/IllegalArgumentException" ["java/lang/RuntimeException", "java/lang/Exception"]).filter goodWord ++ (vx_atS RX4 58 "java/lang/IllegalStateException" ["java/lang/RuntimeException", "java/lang/Exception"]).filter goodWord)
def wsX4_follow_r1 : List Cond := [Cond.fieldLink RX4 79 "BuildingPoints" "now" "I", Cond.fieldLink RX4 133 "BuildingPoints$Schedule" "toldLast" "I", Cond.fieldLink RX4 166 "BuildingPoints$Schedule" "point" "LBuildingPoints$Point;", Cond.fieldLink RX4 200 "BuildingPoints$Schedule" "priority" "I", Cond.methodLink RX4 140 yX2_toldAt, Cond.instanceMethod yX2_toldAt, Cond.selects RX2 yX2_toldAt yX2_toldAt, Cond.initialized RX2, Cond.code yX2_toldAt cX2_toldAt 4 (some .int), Cond.fieldLink RX2 26 "BuildingPoints$Schedule" "singleDays" "LBuildingPoints$Entries;", Cond.fieldLink RX2 22 "BuildingPoints$Schedule" "weekdays" "LBuildingPoints$Entries;", Cond.methodLink RX2 36 yX0_hasDay, Cond.instanceMethod yX0_hasDay, Cond.selects RX0 yX0_hasDay yX0_hasDay, Cond.initialized RX0, Cond.code yX0_hasDay cX0_hasDay 3 (some .boolean), Cond.fieldLink RX0 21 "BuildingPoints$Entries" "count" "I", Cond.fieldLink RX0 9 "BuildingPoints$Entries" "days" "[I", Cond.methodLink RX2 40 yX0_latest, Cond.instanceMethod yX0_latest, Cond.selects RX0 yX0_latest yX0_latest, Cond.code yX0_latest cX0_latest 6 (some .int), Cond.constant RX0 25 (-100000), Cond.fieldLink RX0 15 "BuildingPoints$Entries" "minutes" "[I"]
def wsX4_follow_r2 : List Cond := [Cond.fieldLink RX0 18 "BuildingPoints$Entries" "told" "[I", Cond.methodLink RX4 61 yX4_put, Cond.instanceMethod yX4_put, Cond.selects RX4 yX4_put yX4_put, Cond.initialized RX4, Cond.code yX4_put cX4_put 5 none, Cond.fieldLink RX4 68 "BuildingPoints$Point" "commands" "[I", Cond.fieldLink RX4 65 "BuildingPoints$Point" "present" "I", Cond.methodLink RX4 182 yX1_dueValue, Cond.instanceMethod yX1_dueValue, Cond.selects RX1 yX1_dueValue yX1_dueValue, Cond.initialized RX1, Cond.code yX1_dueValue cX1_dueValue 2 (some .int), Cond.fieldLink RX1 24 "BuildingPoints$Point" "commands" "[I", Cond.fieldLink RX1 18 "BuildingPoints$Point" "original" "I", Cond.methodLink RX1 44 yX1_lowestCommanded, Cond.instanceMethod yX1_lowestCommanded, Cond.selects RX1 yX1_lowestCommanded yX1_lowestCommanded, Cond.code yX1_lowestCommanded cX1_lowestCommanded 2 (some .int), Cond.constant RX1 28 (-100000), Cond.methodLink RX4 185 yX1_change, Cond.instanceMethod yX1_change, Cond.selects RX1 yX1_change yX1_change, Cond.code yX1_change cX1_change 3 none]
def wsX4_follow_r3 : List Cond := [Cond.fieldLink RX1 35 "BuildingPoints$Point" "present" "I", Cond.fieldLink RX1 41 "BuildingPoints$Point" "changeCount" "I", Cond.fieldLink RX1 21 "BuildingPoints$Point" "leastTime" "I", Cond.fieldLink RX1 38 "BuildingPoints$Point" "heldUntil" "I", Cond.methodLink RX4 188 yX4_reportChange, Cond.instanceMethod yX4_reportChange, Cond.selects RX4 yX4_reportChange yX4_reportChange, Cond.code yX4_reportChange cX4_reportChange 6 none, Cond.fieldLink RX4 17 "BuildingPoints" "subscriptions" "[LBuildingPoints$Subscription;", Cond.fieldLink RX4 95 "BuildingPoints$Subscription" "isOpen" "Z", Cond.fieldLink RX4 192 "BuildingPoints$Subscription" "point" "LBuildingPoints$Point;", Cond.fieldLink RX4 146 "BuildingPoints" "allReports" "I", Cond.methodLink RX4 193 yX3_isFarFrom, Cond.instanceMethod yX3_isFarFrom, Cond.selects RX3 yX3_isFarFrom yX3_isFarFrom, Cond.initialized RX3, Cond.code yX3_isFarFrom cX3_isFarFrom 2 (some .boolean), Cond.fieldLink RX3 25 "BuildingPoints$Subscription" "kept" "I", Cond.methodLink RX3 35 Lib.Math.abs.name, Cond.static Lib.Math.abs.name, Cond.initialized "java/lang/Math", Cond.code Lib.Math.abs.name Lib.Math.abs.code 1 (some .int), Cond.fieldLink RX3 13 "BuildingPoints$Subscription" "increment" "I", Cond.methodLink RX4 196 yX3_report]
def wsX4_follow_r4 : List Cond := [Cond.instanceMethod yX3_report, Cond.selects RX3 yX3_report yX3_report, Cond.code yX3_report cX3_report 2 none, Cond.fieldLink RX3 28 "BuildingPoints$Subscription" "reportCount" "I"]
def wsX4_follow : List Cond := .code yX4_follow cX4_follow 3 none :: ((wsX4_follow_r1 ++ (wsX4_follow_r2 ++ (wsX4_follow_r3 ++ wsX4_follow_r4))) ++ wsX40 ++ wsX20 ++ wsX00 ++ wsX10 ++ wsX30)
def wsX4_weekly_r1 : List Cond := [Cond.fieldLink RX4 120 "BuildingPoints$Schedule" "weekdays" "LBuildingPoints$Entries;", Cond.fieldLink RX4 133 "BuildingPoints$Schedule" "toldLast" "I", Cond.methodLink RX4 112 yX4_scheduleAt, Cond.instanceMethod yX4_scheduleAt, Cond.selects RX4 yX4_scheduleAt yX4_scheduleAt, Cond.initialized RX4, Cond.code yX4_scheduleAt cX4_scheduleAt 2 (some (.object "BuildingPoints$Schedule")), Cond.classLink RX4 173 "java/lang/IndexOutOfBoundsException", Cond.initialized "java/lang/IndexOutOfBoundsException", Cond.fieldLink RX4 23 "BuildingPoints" "schedules" "[LBuildingPoints$Schedule;", Cond.methodLink RX4 27 yX4_requireWithin, Cond.static yX4_requireWithin, Cond.code yX4_requireWithin cX4_requireWithin 3 none, Cond.classLink RX4 152 "java/lang/IllegalArgumentException", Cond.initialized "java/lang/IllegalArgumentException", Cond.methodLink RX4 116 yX4_requireEntry, Cond.static yX4_requireEntry, Cond.code yX4_requireEntry cX4_requireEntry 3 none, Cond.fieldLink RX4 166 "BuildingPoints$Schedule" "point" "LBuildingPoints$Point;", Cond.methodLink RX4 46 yX4_requireCommand, Cond.static yX4_requireCommand, Cond.code yX4_requireCommand cX4_requireCommand 2 none, Cond.constant RX4 157 (-100000), Cond.methodLink RX4 158 yX1_canHave]
def wsX4_weekly_r2 : List Cond := [Cond.instanceMethod yX1_canHave, Cond.selects RX1 yX1_canHave yX1_canHave, Cond.initialized RX1, Cond.code yX1_canHave cX1_canHave 2 (some .boolean), Cond.fieldLink RX1 9 "BuildingPoints$Point" "lowest" "I", Cond.fieldLink RX1 15 "BuildingPoints$Point" "highest" "I", Cond.methodLink RX4 170 yX2_entryCount, Cond.instanceMethod yX2_entryCount, Cond.selects RX2 yX2_entryCount yX2_entryCount, Cond.initialized RX2, Cond.code yX2_entryCount cX2_entryCount 1 (some .int), Cond.fieldLink RX2 22 "BuildingPoints$Schedule" "weekdays" "LBuildingPoints$Entries;", Cond.fieldLink RX2 33 "BuildingPoints$Entries" "count" "I", Cond.fieldLink RX2 26 "BuildingPoints$Schedule" "singleDays" "LBuildingPoints$Entries;", Cond.methodLink RX4 35 yX4_requireRoom, Cond.static yX4_requireRoom, Cond.code yX4_requireRoom cX4_requireRoom 2 none, Cond.classLink RX4 54 "java/lang/IllegalStateException", Cond.initialized "java/lang/IllegalStateException", Cond.methodLink RX4 124 yX0_add, Cond.instanceMethod yX0_add, Cond.selects RX0 yX0_add yX0_add, Cond.initialized RX0, Cond.code yX0_add cX0_add 4 none]
def wsX4_weekly_r3 : List Cond := [Cond.fieldLink RX0 21 "BuildingPoints$Entries" "count" "I", Cond.fieldLink RX0 9 "BuildingPoints$Entries" "days" "[I", Cond.fieldLink RX0 15 "BuildingPoints$Entries" "minutes" "[I", Cond.fieldLink RX0 18 "BuildingPoints$Entries" "told" "[I", Cond.methodLink RX4 129 yX4_follow, Cond.instanceMethod yX4_follow, Cond.selects RX4 yX4_follow yX4_follow, Cond.code yX4_follow cX4_follow 3 none, Cond.fieldLink RX4 79 "BuildingPoints" "now" "I", Cond.fieldLink RX4 200 "BuildingPoints$Schedule" "priority" "I", Cond.methodLink RX4 140 yX2_toldAt, Cond.instanceMethod yX2_toldAt, Cond.selects RX2 yX2_toldAt yX2_toldAt, Cond.code yX2_toldAt cX2_toldAt 4 (some .int), Cond.methodLink RX2 36 yX0_hasDay, Cond.instanceMethod yX0_hasDay, Cond.selects RX0 yX0_hasDay yX0_hasDay, Cond.code yX0_hasDay cX0_hasDay 3 (some .boolean), Cond.methodLink RX2 40 yX0_latest, Cond.instanceMethod yX0_latest, Cond.selects RX0 yX0_latest yX0_latest, Cond.code yX0_latest cX0_latest 6 (some .int), Cond.constant RX0 25 (-100000), Cond.methodLink RX4 61 yX4_put]
def wsX4_weekly_r4 : List Cond := [Cond.instanceMethod yX4_put, Cond.selects RX4 yX4_put yX4_put, Cond.code yX4_put cX4_put 5 none, Cond.fieldLink RX4 68 "BuildingPoints$Point" "commands" "[I", Cond.fieldLink RX4 65 "BuildingPoints$Point" "present" "I", Cond.methodLink RX4 182 yX1_dueValue, Cond.instanceMethod yX1_dueValue, Cond.selects RX1 yX1_dueValue yX1_dueValue, Cond.code yX1_dueValue cX1_dueValue 2 (some .int), Cond.fieldLink RX1 24 "BuildingPoints$Point" "commands" "[I", Cond.fieldLink RX1 18 "BuildingPoints$Point" "original" "I", Cond.methodLink RX1 44 yX1_lowestCommanded, Cond.instanceMethod yX1_lowestCommanded, Cond.selects RX1 yX1_lowestCommanded yX1_lowestCommanded, Cond.code yX1_lowestCommanded cX1_lowestCommanded 2 (some .int), Cond.constant RX1 28 (-100000), Cond.methodLink RX4 185 yX1_change, Cond.instanceMethod yX1_change, Cond.selects RX1 yX1_change yX1_change, Cond.code yX1_change cX1_change 3 none, Cond.fieldLink RX1 35 "BuildingPoints$Point" "present" "I", Cond.fieldLink RX1 41 "BuildingPoints$Point" "changeCount" "I", Cond.fieldLink RX1 21 "BuildingPoints$Point" "leastTime" "I", Cond.fieldLink RX1 38 "BuildingPoints$Point" "heldUntil" "I"]
def wsX4_weekly_r5 : List Cond := [Cond.methodLink RX4 188 yX4_reportChange, Cond.instanceMethod yX4_reportChange, Cond.selects RX4 yX4_reportChange yX4_reportChange, Cond.code yX4_reportChange cX4_reportChange 6 none, Cond.fieldLink RX4 17 "BuildingPoints" "subscriptions" "[LBuildingPoints$Subscription;", Cond.fieldLink RX4 95 "BuildingPoints$Subscription" "isOpen" "Z", Cond.fieldLink RX4 192 "BuildingPoints$Subscription" "point" "LBuildingPoints$Point;", Cond.fieldLink RX4 146 "BuildingPoints" "allReports" "I", Cond.methodLink RX4 193 yX3_isFarFrom, Cond.instanceMethod yX3_isFarFrom, Cond.selects RX3 yX3_isFarFrom yX3_isFarFrom, Cond.initialized RX3, Cond.code yX3_isFarFrom cX3_isFarFrom 2 (some .boolean), Cond.fieldLink RX3 25 "BuildingPoints$Subscription" "kept" "I", Cond.methodLink RX3 35 Lib.Math.abs.name, Cond.static Lib.Math.abs.name, Cond.initialized "java/lang/Math", Cond.code Lib.Math.abs.name Lib.Math.abs.code 1 (some .int), Cond.fieldLink RX3 13 "BuildingPoints$Subscription" "increment" "I", Cond.methodLink RX4 196 yX3_report, Cond.instanceMethod yX3_report, Cond.selects RX3 yX3_report yX3_report, Cond.code yX3_report cX3_report 2 none, Cond.fieldLink RX3 28 "BuildingPoints$Subscription" "reportCount" "I"]
def wsX4_weekly : List Cond := .code yX4_weekly cX4_weekly 6 (some .int) :: ((wsX4_weekly_r1 ++ (wsX4_weekly_r2 ++ (wsX4_weekly_r3 ++ (wsX4_weekly_r4 ++ wsX4_weekly_r5)))) ++ wsX20 ++ wsX40 ++ wsX10 ++ wsX00 ++ wsX30 ++ (vx_atS RX4 177 "java/lang/IndexOutOfBoundsException" ["java/lang/RuntimeException", "java/lang/Exception"]).filter goodWord ++ (vx_atS RX4 156 "java/lang/IllegalArgumentException" ["java/lang/RuntimeException", "java/lang/Exception"]).filter goodWord ++ (vx_atS RX4 58 "java/lang/IllegalStateException" ["java/lang/RuntimeException", "java/lang/Exception"]).filter goodWord)
def wsX4_once_r1 : List Cond := [Cond.fieldLink RX4 136 "BuildingPoints$Schedule" "singleDays" "LBuildingPoints$Entries;", Cond.fieldLink RX4 133 "BuildingPoints$Schedule" "toldLast" "I", Cond.methodLink RX4 112 yX4_scheduleAt, Cond.instanceMethod yX4_scheduleAt, Cond.selects RX4 yX4_scheduleAt yX4_scheduleAt, Cond.initialized RX4, Cond.code yX4_scheduleAt cX4_scheduleAt 2 (some (.object "BuildingPoints$Schedule")), Cond.classLink RX4 173 "java/lang/IndexOutOfBoundsException", Cond.initialized "java/lang/IndexOutOfBoundsException", Cond.fieldLink RX4 23 "BuildingPoints" "schedules" "[LBuildingPoints$Schedule;", Cond.methodLink RX4 27 yX4_requireWithin, Cond.static yX4_requireWithin, Cond.code yX4_requireWithin cX4_requireWithin 3 none, Cond.classLink RX4 152 "java/lang/IllegalArgumentException", Cond.initialized "java/lang/IllegalArgumentException", Cond.methodLink RX4 116 yX4_requireEntry, Cond.static yX4_requireEntry, Cond.code yX4_requireEntry cX4_requireEntry 3 none, Cond.fieldLink RX4 166 "BuildingPoints$Schedule" "point" "LBuildingPoints$Point;", Cond.methodLink RX4 46 yX4_requireCommand, Cond.static yX4_requireCommand, Cond.code yX4_requireCommand cX4_requireCommand 2 none, Cond.constant RX4 157 (-100000), Cond.methodLink RX4 158 yX1_canHave]
def wsX4_once_r2 : List Cond := [Cond.instanceMethod yX1_canHave, Cond.selects RX1 yX1_canHave yX1_canHave, Cond.initialized RX1, Cond.code yX1_canHave cX1_canHave 2 (some .boolean), Cond.fieldLink RX1 9 "BuildingPoints$Point" "lowest" "I", Cond.fieldLink RX1 15 "BuildingPoints$Point" "highest" "I", Cond.methodLink RX4 170 yX2_entryCount, Cond.instanceMethod yX2_entryCount, Cond.selects RX2 yX2_entryCount yX2_entryCount, Cond.initialized RX2, Cond.code yX2_entryCount cX2_entryCount 1 (some .int), Cond.fieldLink RX2 22 "BuildingPoints$Schedule" "weekdays" "LBuildingPoints$Entries;", Cond.fieldLink RX2 33 "BuildingPoints$Entries" "count" "I", Cond.fieldLink RX2 26 "BuildingPoints$Schedule" "singleDays" "LBuildingPoints$Entries;", Cond.methodLink RX4 35 yX4_requireRoom, Cond.static yX4_requireRoom, Cond.code yX4_requireRoom cX4_requireRoom 2 none, Cond.classLink RX4 54 "java/lang/IllegalStateException", Cond.initialized "java/lang/IllegalStateException", Cond.methodLink RX4 124 yX0_add, Cond.instanceMethod yX0_add, Cond.selects RX0 yX0_add yX0_add, Cond.initialized RX0, Cond.code yX0_add cX0_add 4 none]
def wsX4_once_r3 : List Cond := [Cond.fieldLink RX0 21 "BuildingPoints$Entries" "count" "I", Cond.fieldLink RX0 9 "BuildingPoints$Entries" "days" "[I", Cond.fieldLink RX0 15 "BuildingPoints$Entries" "minutes" "[I", Cond.fieldLink RX0 18 "BuildingPoints$Entries" "told" "[I", Cond.methodLink RX4 129 yX4_follow, Cond.instanceMethod yX4_follow, Cond.selects RX4 yX4_follow yX4_follow, Cond.code yX4_follow cX4_follow 3 none, Cond.fieldLink RX4 79 "BuildingPoints" "now" "I", Cond.fieldLink RX4 200 "BuildingPoints$Schedule" "priority" "I", Cond.methodLink RX4 140 yX2_toldAt, Cond.instanceMethod yX2_toldAt, Cond.selects RX2 yX2_toldAt yX2_toldAt, Cond.code yX2_toldAt cX2_toldAt 4 (some .int), Cond.methodLink RX2 36 yX0_hasDay, Cond.instanceMethod yX0_hasDay, Cond.selects RX0 yX0_hasDay yX0_hasDay, Cond.code yX0_hasDay cX0_hasDay 3 (some .boolean), Cond.methodLink RX2 40 yX0_latest, Cond.instanceMethod yX0_latest, Cond.selects RX0 yX0_latest yX0_latest, Cond.code yX0_latest cX0_latest 6 (some .int), Cond.constant RX0 25 (-100000), Cond.methodLink RX4 61 yX4_put]
def wsX4_once_r4 : List Cond := [Cond.instanceMethod yX4_put, Cond.selects RX4 yX4_put yX4_put, Cond.code yX4_put cX4_put 5 none, Cond.fieldLink RX4 68 "BuildingPoints$Point" "commands" "[I", Cond.fieldLink RX4 65 "BuildingPoints$Point" "present" "I", Cond.methodLink RX4 182 yX1_dueValue, Cond.instanceMethod yX1_dueValue, Cond.selects RX1 yX1_dueValue yX1_dueValue, Cond.code yX1_dueValue cX1_dueValue 2 (some .int), Cond.fieldLink RX1 24 "BuildingPoints$Point" "commands" "[I", Cond.fieldLink RX1 18 "BuildingPoints$Point" "original" "I", Cond.methodLink RX1 44 yX1_lowestCommanded, Cond.instanceMethod yX1_lowestCommanded, Cond.selects RX1 yX1_lowestCommanded yX1_lowestCommanded, Cond.code yX1_lowestCommanded cX1_lowestCommanded 2 (some .int), Cond.constant RX1 28 (-100000), Cond.methodLink RX4 185 yX1_change, Cond.instanceMethod yX1_change, Cond.selects RX1 yX1_change yX1_change, Cond.code yX1_change cX1_change 3 none, Cond.fieldLink RX1 35 "BuildingPoints$Point" "present" "I", Cond.fieldLink RX1 41 "BuildingPoints$Point" "changeCount" "I", Cond.fieldLink RX1 21 "BuildingPoints$Point" "leastTime" "I", Cond.fieldLink RX1 38 "BuildingPoints$Point" "heldUntil" "I"]
def wsX4_once_r5 : List Cond := [Cond.methodLink RX4 188 yX4_reportChange, Cond.instanceMethod yX4_reportChange, Cond.selects RX4 yX4_reportChange yX4_reportChange, Cond.code yX4_reportChange cX4_reportChange 6 none, Cond.fieldLink RX4 17 "BuildingPoints" "subscriptions" "[LBuildingPoints$Subscription;", Cond.fieldLink RX4 95 "BuildingPoints$Subscription" "isOpen" "Z", Cond.fieldLink RX4 192 "BuildingPoints$Subscription" "point" "LBuildingPoints$Point;", Cond.fieldLink RX4 146 "BuildingPoints" "allReports" "I", Cond.methodLink RX4 193 yX3_isFarFrom, Cond.instanceMethod yX3_isFarFrom, Cond.selects RX3 yX3_isFarFrom yX3_isFarFrom, Cond.initialized RX3, Cond.code yX3_isFarFrom cX3_isFarFrom 2 (some .boolean), Cond.fieldLink RX3 25 "BuildingPoints$Subscription" "kept" "I", Cond.methodLink RX3 35 Lib.Math.abs.name, Cond.static Lib.Math.abs.name, Cond.initialized "java/lang/Math", Cond.code Lib.Math.abs.name Lib.Math.abs.code 1 (some .int), Cond.fieldLink RX3 13 "BuildingPoints$Subscription" "increment" "I", Cond.methodLink RX4 196 yX3_report, Cond.instanceMethod yX3_report, Cond.selects RX3 yX3_report yX3_report, Cond.code yX3_report cX3_report 2 none, Cond.fieldLink RX3 28 "BuildingPoints$Subscription" "reportCount" "I"]
def wsX4_once : List Cond := .code yX4_once cX4_once 6 (some .int) :: ((wsX4_once_r1 ++ (wsX4_once_r2 ++ (wsX4_once_r3 ++ (wsX4_once_r4 ++ wsX4_once_r5)))) ++ wsX20 ++ wsX40 ++ wsX10 ++ wsX00 ++ wsX30 ++ (vx_atS RX4 177 "java/lang/IndexOutOfBoundsException" ["java/lang/RuntimeException", "java/lang/Exception"]).filter goodWord ++ (vx_atS RX4 156 "java/lang/IllegalArgumentException" ["java/lang/RuntimeException", "java/lang/Exception"]).filter goodWord ++ (vx_atS RX4 58 "java/lang/IllegalStateException" ["java/lang/RuntimeException", "java/lang/Exception"]).filter goodWord)
def wsX4_tells_r1 : List Cond := [Cond.constant RX4 139 (1000000), Cond.methodLink RX4 112 yX4_scheduleAt, Cond.instanceMethod yX4_scheduleAt, Cond.selects RX4 yX4_scheduleAt yX4_scheduleAt, Cond.initialized RX4, Cond.code yX4_scheduleAt cX4_scheduleAt 2 (some (.object "BuildingPoints$Schedule")), Cond.classLink RX4 173 "java/lang/IndexOutOfBoundsException", Cond.initialized "java/lang/IndexOutOfBoundsException", Cond.fieldLink RX4 23 "BuildingPoints" "schedules" "[LBuildingPoints$Schedule;", Cond.methodLink RX4 27 yX4_requireWithin, Cond.static yX4_requireWithin, Cond.code yX4_requireWithin cX4_requireWithin 3 none, Cond.classLink RX4 152 "java/lang/IllegalArgumentException", Cond.initialized "java/lang/IllegalArgumentException", Cond.methodLink RX4 140 yX2_toldAt, Cond.instanceMethod yX2_toldAt, Cond.selects RX2 yX2_toldAt yX2_toldAt, Cond.initialized RX2, Cond.code yX2_toldAt cX2_toldAt 4 (some .int), Cond.fieldLink RX2 26 "BuildingPoints$Schedule" "singleDays" "LBuildingPoints$Entries;", Cond.fieldLink RX2 22 "BuildingPoints$Schedule" "weekdays" "LBuildingPoints$Entries;", Cond.methodLink RX2 36 yX0_hasDay, Cond.instanceMethod yX0_hasDay, Cond.selects RX0 yX0_hasDay yX0_hasDay]
def wsX4_tells_r2 : List Cond := [Cond.initialized RX0, Cond.code yX0_hasDay cX0_hasDay 3 (some .boolean), Cond.fieldLink RX0 21 "BuildingPoints$Entries" "count" "I", Cond.fieldLink RX0 9 "BuildingPoints$Entries" "days" "[I", Cond.methodLink RX2 40 yX0_latest, Cond.instanceMethod yX0_latest, Cond.selects RX0 yX0_latest yX0_latest, Cond.code yX0_latest cX0_latest 6 (some .int), Cond.constant RX0 25 (-100000), Cond.fieldLink RX0 15 "BuildingPoints$Entries" "minutes" "[I", Cond.fieldLink RX0 18 "BuildingPoints$Entries" "told" "[I"]
def wsX4_tells : List Cond := .code yX4_tells cX4_tells 4 (some .int) :: ((wsX4_tells_r1 ++ wsX4_tells_r2) ++ wsX40 ++ wsX20 ++ wsX00 ++ (vx_atS RX4 177 "java/lang/IndexOutOfBoundsException" ["java/lang/RuntimeException", "java/lang/Exception"]).filter goodWord ++ (vx_atS RX4 156 "java/lang/IllegalArgumentException" ["java/lang/RuntimeException", "java/lang/Exception"]).filter goodWord)
def wsX4_releaseHeldCommands_r1 : List Cond := [Cond.fieldLink RX4 11 "BuildingPoints" "points" "[LBuildingPoints$Point;", Cond.fieldLink RX4 76 "BuildingPoints$Point" "heldUntil" "I", Cond.fieldLink RX4 79 "BuildingPoints" "now" "I", Cond.constant RX4 157 (-100000), Cond.methodLink RX4 50 yX1_isHeld, Cond.instanceMethod yX1_isHeld, Cond.selects RX1 yX1_isHeld yX1_isHeld, Cond.initialized RX1, Cond.code yX1_isHeld cX1_isHeld 1 (some .boolean), Cond.fieldLink RX1 38 "BuildingPoints$Point" "heldUntil" "I", Cond.methodLink RX4 61 yX4_put, Cond.instanceMethod yX4_put, Cond.selects RX4 yX4_put yX4_put, Cond.initialized RX4, Cond.code yX4_put cX4_put 5 none, Cond.fieldLink RX4 68 "BuildingPoints$Point" "commands" "[I", Cond.fieldLink RX4 65 "BuildingPoints$Point" "present" "I", Cond.methodLink RX4 182 yX1_dueValue, Cond.instanceMethod yX1_dueValue, Cond.selects RX1 yX1_dueValue yX1_dueValue, Cond.code yX1_dueValue cX1_dueValue 2 (some .int), Cond.fieldLink RX1 24 "BuildingPoints$Point" "commands" "[I", Cond.fieldLink RX1 18 "BuildingPoints$Point" "original" "I", Cond.methodLink RX1 44 yX1_lowestCommanded]
def wsX4_releaseHeldCommands_r2 : List Cond := [Cond.instanceMethod yX1_lowestCommanded, Cond.selects RX1 yX1_lowestCommanded yX1_lowestCommanded, Cond.code yX1_lowestCommanded cX1_lowestCommanded 2 (some .int), Cond.constant RX1 28 (-100000), Cond.methodLink RX4 185 yX1_change, Cond.instanceMethod yX1_change, Cond.selects RX1 yX1_change yX1_change, Cond.code yX1_change cX1_change 3 none, Cond.fieldLink RX1 35 "BuildingPoints$Point" "present" "I", Cond.fieldLink RX1 41 "BuildingPoints$Point" "changeCount" "I", Cond.fieldLink RX1 21 "BuildingPoints$Point" "leastTime" "I", Cond.methodLink RX4 188 yX4_reportChange, Cond.instanceMethod yX4_reportChange, Cond.selects RX4 yX4_reportChange yX4_reportChange, Cond.code yX4_reportChange cX4_reportChange 6 none, Cond.fieldLink RX4 17 "BuildingPoints" "subscriptions" "[LBuildingPoints$Subscription;", Cond.fieldLink RX4 95 "BuildingPoints$Subscription" "isOpen" "Z", Cond.fieldLink RX4 192 "BuildingPoints$Subscription" "point" "LBuildingPoints$Point;", Cond.fieldLink RX4 146 "BuildingPoints" "allReports" "I", Cond.methodLink RX4 193 yX3_isFarFrom, Cond.instanceMethod yX3_isFarFrom, Cond.selects RX3 yX3_isFarFrom yX3_isFarFrom, Cond.initialized RX3, Cond.code yX3_isFarFrom cX3_isFarFrom 2 (some .boolean)]
def wsX4_releaseHeldCommands_r3 : List Cond := [Cond.fieldLink RX3 25 "BuildingPoints$Subscription" "kept" "I", Cond.methodLink RX3 35 Lib.Math.abs.name, Cond.static Lib.Math.abs.name, Cond.initialized "java/lang/Math", Cond.code Lib.Math.abs.name Lib.Math.abs.code 1 (some .int), Cond.fieldLink RX3 13 "BuildingPoints$Subscription" "increment" "I", Cond.methodLink RX4 196 yX3_report, Cond.instanceMethod yX3_report, Cond.selects RX3 yX3_report yX3_report, Cond.code yX3_report cX3_report 2 none, Cond.fieldLink RX3 28 "BuildingPoints$Subscription" "reportCount" "I"]
def wsX4_releaseHeldCommands : List Cond := .code yX4_releaseHeldCommands cX4_releaseHeldCommands 5 none :: ((wsX4_releaseHeldCommands_r1 ++ (wsX4_releaseHeldCommands_r2 ++ wsX4_releaseHeldCommands_r3)) ++ wsX40 ++ wsX10 ++ wsX30)
def wsX4_endOldSubscriptions : List Cond := .code yX4_endOldSubscriptions cX4_endOldSubscriptions 5 none :: ([.fieldLink RX4 17 "BuildingPoints" "subscriptions" "[LBuildingPoints$Subscription;", .fieldLink RX4 212 "BuildingPoints$Subscription" "endTime" "I", .fieldLink RX4 79 "BuildingPoints" "now" "I", .fieldLink RX4 95 "BuildingPoints$Subscription" "isOpen" "Z"] ++ wsX40 ++ wsX30)
def wsX4_followSchedules_r1 : List Cond := [Cond.fieldLink RX4 23 "BuildingPoints" "schedules" "[LBuildingPoints$Schedule;", Cond.methodLink RX4 129 yX4_follow, Cond.instanceMethod yX4_follow, Cond.selects RX4 yX4_follow yX4_follow, Cond.initialized RX4, Cond.code yX4_follow cX4_follow 3 none, Cond.fieldLink RX4 79 "BuildingPoints" "now" "I", Cond.fieldLink RX4 133 "BuildingPoints$Schedule" "toldLast" "I", Cond.fieldLink RX4 166 "BuildingPoints$Schedule" "point" "LBuildingPoints$Point;", Cond.fieldLink RX4 200 "BuildingPoints$Schedule" "priority" "I", Cond.methodLink RX4 140 yX2_toldAt, Cond.instanceMethod yX2_toldAt, Cond.selects RX2 yX2_toldAt yX2_toldAt, Cond.initialized RX2, Cond.code yX2_toldAt cX2_toldAt 4 (some .int), Cond.fieldLink RX2 26 "BuildingPoints$Schedule" "singleDays" "LBuildingPoints$Entries;", Cond.fieldLink RX2 22 "BuildingPoints$Schedule" "weekdays" "LBuildingPoints$Entries;", Cond.methodLink RX2 36 yX0_hasDay, Cond.instanceMethod yX0_hasDay, Cond.selects RX0 yX0_hasDay yX0_hasDay, Cond.initialized RX0, Cond.code yX0_hasDay cX0_hasDay 3 (some .boolean), Cond.fieldLink RX0 21 "BuildingPoints$Entries" "count" "I", Cond.fieldLink RX0 9 "BuildingPoints$Entries" "days" "[I"]
def wsX4_followSchedules_r2 : List Cond := [Cond.methodLink RX2 40 yX0_latest, Cond.instanceMethod yX0_latest, Cond.selects RX0 yX0_latest yX0_latest, Cond.code yX0_latest cX0_latest 6 (some .int), Cond.constant RX0 25 (-100000), Cond.fieldLink RX0 15 "BuildingPoints$Entries" "minutes" "[I", Cond.fieldLink RX0 18 "BuildingPoints$Entries" "told" "[I", Cond.methodLink RX4 61 yX4_put, Cond.instanceMethod yX4_put, Cond.selects RX4 yX4_put yX4_put, Cond.code yX4_put cX4_put 5 none, Cond.fieldLink RX4 68 "BuildingPoints$Point" "commands" "[I", Cond.fieldLink RX4 65 "BuildingPoints$Point" "present" "I", Cond.methodLink RX4 182 yX1_dueValue, Cond.instanceMethod yX1_dueValue, Cond.selects RX1 yX1_dueValue yX1_dueValue, Cond.initialized RX1, Cond.code yX1_dueValue cX1_dueValue 2 (some .int), Cond.fieldLink RX1 24 "BuildingPoints$Point" "commands" "[I", Cond.fieldLink RX1 18 "BuildingPoints$Point" "original" "I", Cond.methodLink RX1 44 yX1_lowestCommanded, Cond.instanceMethod yX1_lowestCommanded, Cond.selects RX1 yX1_lowestCommanded yX1_lowestCommanded, Cond.code yX1_lowestCommanded cX1_lowestCommanded 2 (some .int)]
def wsX4_followSchedules_r3 : List Cond := [Cond.constant RX1 28 (-100000), Cond.methodLink RX4 185 yX1_change, Cond.instanceMethod yX1_change, Cond.selects RX1 yX1_change yX1_change, Cond.code yX1_change cX1_change 3 none, Cond.fieldLink RX1 35 "BuildingPoints$Point" "present" "I", Cond.fieldLink RX1 41 "BuildingPoints$Point" "changeCount" "I", Cond.fieldLink RX1 21 "BuildingPoints$Point" "leastTime" "I", Cond.fieldLink RX1 38 "BuildingPoints$Point" "heldUntil" "I", Cond.methodLink RX4 188 yX4_reportChange, Cond.instanceMethod yX4_reportChange, Cond.selects RX4 yX4_reportChange yX4_reportChange, Cond.code yX4_reportChange cX4_reportChange 6 none, Cond.fieldLink RX4 17 "BuildingPoints" "subscriptions" "[LBuildingPoints$Subscription;", Cond.fieldLink RX4 95 "BuildingPoints$Subscription" "isOpen" "Z", Cond.fieldLink RX4 192 "BuildingPoints$Subscription" "point" "LBuildingPoints$Point;", Cond.fieldLink RX4 146 "BuildingPoints" "allReports" "I", Cond.methodLink RX4 193 yX3_isFarFrom, Cond.instanceMethod yX3_isFarFrom, Cond.selects RX3 yX3_isFarFrom yX3_isFarFrom, Cond.initialized RX3, Cond.code yX3_isFarFrom cX3_isFarFrom 2 (some .boolean), Cond.fieldLink RX3 25 "BuildingPoints$Subscription" "kept" "I", Cond.methodLink RX3 35 Lib.Math.abs.name]
def wsX4_followSchedules_r4 : List Cond := [Cond.static Lib.Math.abs.name, Cond.initialized "java/lang/Math", Cond.code Lib.Math.abs.name Lib.Math.abs.code 1 (some .int), Cond.fieldLink RX3 13 "BuildingPoints$Subscription" "increment" "I", Cond.methodLink RX4 196 yX3_report, Cond.instanceMethod yX3_report, Cond.selects RX3 yX3_report yX3_report, Cond.code yX3_report cX3_report 2 none, Cond.fieldLink RX3 28 "BuildingPoints$Subscription" "reportCount" "I"]
def wsX4_followSchedules : List Cond := .code yX4_followSchedules cX4_followSchedules 5 none :: ((wsX4_followSchedules_r1 ++ (wsX4_followSchedules_r2 ++ (wsX4_followSchedules_r3 ++ wsX4_followSchedules_r4))) ++ wsX40 ++ wsX20 ++ wsX00 ++ wsX10 ++ wsX30)
def wsX4_passMinute_r1 : List Cond := [Cond.fieldLink RX4 79 "BuildingPoints" "now" "I", Cond.methodLink RX4 203 yX4_releaseHeldCommands, Cond.instanceMethod yX4_releaseHeldCommands, Cond.selects RX4 yX4_releaseHeldCommands yX4_releaseHeldCommands, Cond.initialized RX4, Cond.code yX4_releaseHeldCommands cX4_releaseHeldCommands 5 none, Cond.fieldLink RX4 11 "BuildingPoints" "points" "[LBuildingPoints$Point;", Cond.fieldLink RX4 76 "BuildingPoints$Point" "heldUntil" "I", Cond.constant RX4 157 (-100000), Cond.methodLink RX4 50 yX1_isHeld, Cond.instanceMethod yX1_isHeld, Cond.selects RX1 yX1_isHeld yX1_isHeld, Cond.initialized RX1, Cond.code yX1_isHeld cX1_isHeld 1 (some .boolean), Cond.fieldLink RX1 38 "BuildingPoints$Point" "heldUntil" "I", Cond.methodLink RX4 61 yX4_put, Cond.instanceMethod yX4_put, Cond.selects RX4 yX4_put yX4_put, Cond.code yX4_put cX4_put 5 none, Cond.fieldLink RX4 68 "BuildingPoints$Point" "commands" "[I", Cond.fieldLink RX4 65 "BuildingPoints$Point" "present" "I", Cond.methodLink RX4 182 yX1_dueValue, Cond.instanceMethod yX1_dueValue, Cond.selects RX1 yX1_dueValue yX1_dueValue]
def wsX4_passMinute_r2 : List Cond := [Cond.code yX1_dueValue cX1_dueValue 2 (some .int), Cond.fieldLink RX1 24 "BuildingPoints$Point" "commands" "[I", Cond.fieldLink RX1 18 "BuildingPoints$Point" "original" "I", Cond.methodLink RX1 44 yX1_lowestCommanded, Cond.instanceMethod yX1_lowestCommanded, Cond.selects RX1 yX1_lowestCommanded yX1_lowestCommanded, Cond.code yX1_lowestCommanded cX1_lowestCommanded 2 (some .int), Cond.constant RX1 28 (-100000), Cond.methodLink RX4 185 yX1_change, Cond.instanceMethod yX1_change, Cond.selects RX1 yX1_change yX1_change, Cond.code yX1_change cX1_change 3 none, Cond.fieldLink RX1 35 "BuildingPoints$Point" "present" "I", Cond.fieldLink RX1 41 "BuildingPoints$Point" "changeCount" "I", Cond.fieldLink RX1 21 "BuildingPoints$Point" "leastTime" "I", Cond.methodLink RX4 188 yX4_reportChange, Cond.instanceMethod yX4_reportChange, Cond.selects RX4 yX4_reportChange yX4_reportChange, Cond.code yX4_reportChange cX4_reportChange 6 none, Cond.fieldLink RX4 17 "BuildingPoints" "subscriptions" "[LBuildingPoints$Subscription;", Cond.fieldLink RX4 95 "BuildingPoints$Subscription" "isOpen" "Z", Cond.fieldLink RX4 192 "BuildingPoints$Subscription" "point" "LBuildingPoints$Point;", Cond.fieldLink RX4 146 "BuildingPoints" "allReports" "I", Cond.methodLink RX4 193 yX3_isFarFrom]
def wsX4_passMinute_r3 : List Cond := [Cond.instanceMethod yX3_isFarFrom, Cond.selects RX3 yX3_isFarFrom yX3_isFarFrom, Cond.initialized RX3, Cond.code yX3_isFarFrom cX3_isFarFrom 2 (some .boolean), Cond.fieldLink RX3 25 "BuildingPoints$Subscription" "kept" "I", Cond.methodLink RX3 35 Lib.Math.abs.name, Cond.static Lib.Math.abs.name, Cond.initialized "java/lang/Math", Cond.code Lib.Math.abs.name Lib.Math.abs.code 1 (some .int), Cond.fieldLink RX3 13 "BuildingPoints$Subscription" "increment" "I", Cond.methodLink RX4 196 yX3_report, Cond.instanceMethod yX3_report, Cond.selects RX3 yX3_report yX3_report, Cond.code yX3_report cX3_report 2 none, Cond.fieldLink RX3 28 "BuildingPoints$Subscription" "reportCount" "I", Cond.methodLink RX4 206 yX4_endOldSubscriptions, Cond.instanceMethod yX4_endOldSubscriptions, Cond.selects RX4 yX4_endOldSubscriptions yX4_endOldSubscriptions, Cond.code yX4_endOldSubscriptions cX4_endOldSubscriptions 5 none, Cond.fieldLink RX4 212 "BuildingPoints$Subscription" "endTime" "I", Cond.methodLink RX4 209 yX4_followSchedules, Cond.instanceMethod yX4_followSchedules, Cond.selects RX4 yX4_followSchedules yX4_followSchedules, Cond.code yX4_followSchedules cX4_followSchedules 5 none]
def wsX4_passMinute_r4 : List Cond := [Cond.fieldLink RX4 23 "BuildingPoints" "schedules" "[LBuildingPoints$Schedule;", Cond.methodLink RX4 129 yX4_follow, Cond.instanceMethod yX4_follow, Cond.selects RX4 yX4_follow yX4_follow, Cond.code yX4_follow cX4_follow 3 none, Cond.fieldLink RX4 133 "BuildingPoints$Schedule" "toldLast" "I", Cond.fieldLink RX4 166 "BuildingPoints$Schedule" "point" "LBuildingPoints$Point;", Cond.fieldLink RX4 200 "BuildingPoints$Schedule" "priority" "I", Cond.methodLink RX4 140 yX2_toldAt, Cond.instanceMethod yX2_toldAt, Cond.selects RX2 yX2_toldAt yX2_toldAt, Cond.initialized RX2, Cond.code yX2_toldAt cX2_toldAt 4 (some .int), Cond.fieldLink RX2 26 "BuildingPoints$Schedule" "singleDays" "LBuildingPoints$Entries;", Cond.fieldLink RX2 22 "BuildingPoints$Schedule" "weekdays" "LBuildingPoints$Entries;", Cond.methodLink RX2 36 yX0_hasDay, Cond.instanceMethod yX0_hasDay, Cond.selects RX0 yX0_hasDay yX0_hasDay, Cond.initialized RX0, Cond.code yX0_hasDay cX0_hasDay 3 (some .boolean), Cond.fieldLink RX0 21 "BuildingPoints$Entries" "count" "I", Cond.fieldLink RX0 9 "BuildingPoints$Entries" "days" "[I", Cond.methodLink RX2 40 yX0_latest, Cond.instanceMethod yX0_latest]
def wsX4_passMinute_r5 : List Cond := [Cond.selects RX0 yX0_latest yX0_latest, Cond.code yX0_latest cX0_latest 6 (some .int), Cond.constant RX0 25 (-100000), Cond.fieldLink RX0 15 "BuildingPoints$Entries" "minutes" "[I", Cond.fieldLink RX0 18 "BuildingPoints$Entries" "told" "[I"]
def wsX4_passMinute : List Cond := .code yX4_passMinute cX4_passMinute 1 none :: ((wsX4_passMinute_r1 ++ (wsX4_passMinute_r2 ++ (wsX4_passMinute_r3 ++ (wsX4_passMinute_r4 ++ wsX4_passMinute_r5)))) ++ wsX40 ++ wsX10 ++ wsX30 ++ wsX20 ++ wsX00)
def wsX4_pass_r1 : List Cond := [Cond.classLink RX4 54 "java/lang/IllegalStateException", Cond.initialized "java/lang/IllegalStateException", Cond.constant RX4 139 (1000000), Cond.fieldLink RX4 79 "BuildingPoints" "now" "I", Cond.fieldLink RX4 146 "BuildingPoints" "allReports" "I", Cond.methodLink RX4 27 yX4_requireWithin, Cond.static yX4_requireWithin, Cond.initialized RX4, Cond.code yX4_requireWithin cX4_requireWithin 3 none, Cond.classLink RX4 152 "java/lang/IllegalArgumentException", Cond.initialized "java/lang/IllegalArgumentException", Cond.methodLink RX4 149 yX4_passMinute, Cond.instanceMethod yX4_passMinute, Cond.selects RX4 yX4_passMinute yX4_passMinute, Cond.code yX4_passMinute cX4_passMinute 1 none, Cond.methodLink RX4 203 yX4_releaseHeldCommands, Cond.instanceMethod yX4_releaseHeldCommands, Cond.selects RX4 yX4_releaseHeldCommands yX4_releaseHeldCommands, Cond.code yX4_releaseHeldCommands cX4_releaseHeldCommands 5 none, Cond.fieldLink RX4 11 "BuildingPoints" "points" "[LBuildingPoints$Point;", Cond.fieldLink RX4 76 "BuildingPoints$Point" "heldUntil" "I", Cond.constant RX4 157 (-100000), Cond.methodLink RX4 50 yX1_isHeld, Cond.instanceMethod yX1_isHeld]
def wsX4_pass_r2 : List Cond := [Cond.selects RX1 yX1_isHeld yX1_isHeld, Cond.initialized RX1, Cond.code yX1_isHeld cX1_isHeld 1 (some .boolean), Cond.fieldLink RX1 38 "BuildingPoints$Point" "heldUntil" "I", Cond.methodLink RX4 61 yX4_put, Cond.instanceMethod yX4_put, Cond.selects RX4 yX4_put yX4_put, Cond.code yX4_put cX4_put 5 none, Cond.fieldLink RX4 68 "BuildingPoints$Point" "commands" "[I", Cond.fieldLink RX4 65 "BuildingPoints$Point" "present" "I", Cond.methodLink RX4 182 yX1_dueValue, Cond.instanceMethod yX1_dueValue, Cond.selects RX1 yX1_dueValue yX1_dueValue, Cond.code yX1_dueValue cX1_dueValue 2 (some .int), Cond.fieldLink RX1 24 "BuildingPoints$Point" "commands" "[I", Cond.fieldLink RX1 18 "BuildingPoints$Point" "original" "I", Cond.methodLink RX1 44 yX1_lowestCommanded, Cond.instanceMethod yX1_lowestCommanded, Cond.selects RX1 yX1_lowestCommanded yX1_lowestCommanded, Cond.code yX1_lowestCommanded cX1_lowestCommanded 2 (some .int), Cond.constant RX1 28 (-100000), Cond.methodLink RX4 185 yX1_change, Cond.instanceMethod yX1_change, Cond.selects RX1 yX1_change yX1_change]
def wsX4_pass_r3 : List Cond := [Cond.code yX1_change cX1_change 3 none, Cond.fieldLink RX1 35 "BuildingPoints$Point" "present" "I", Cond.fieldLink RX1 41 "BuildingPoints$Point" "changeCount" "I", Cond.fieldLink RX1 21 "BuildingPoints$Point" "leastTime" "I", Cond.methodLink RX4 188 yX4_reportChange, Cond.instanceMethod yX4_reportChange, Cond.selects RX4 yX4_reportChange yX4_reportChange, Cond.code yX4_reportChange cX4_reportChange 6 none, Cond.fieldLink RX4 17 "BuildingPoints" "subscriptions" "[LBuildingPoints$Subscription;", Cond.fieldLink RX4 95 "BuildingPoints$Subscription" "isOpen" "Z", Cond.fieldLink RX4 192 "BuildingPoints$Subscription" "point" "LBuildingPoints$Point;", Cond.methodLink RX4 193 yX3_isFarFrom, Cond.instanceMethod yX3_isFarFrom, Cond.selects RX3 yX3_isFarFrom yX3_isFarFrom, Cond.initialized RX3, Cond.code yX3_isFarFrom cX3_isFarFrom 2 (some .boolean), Cond.fieldLink RX3 25 "BuildingPoints$Subscription" "kept" "I", Cond.methodLink RX3 35 Lib.Math.abs.name, Cond.static Lib.Math.abs.name, Cond.initialized "java/lang/Math", Cond.code Lib.Math.abs.name Lib.Math.abs.code 1 (some .int), Cond.fieldLink RX3 13 "BuildingPoints$Subscription" "increment" "I", Cond.methodLink RX4 196 yX3_report, Cond.instanceMethod yX3_report]
def wsX4_pass_r4 : List Cond := [Cond.selects RX3 yX3_report yX3_report, Cond.code yX3_report cX3_report 2 none, Cond.fieldLink RX3 28 "BuildingPoints$Subscription" "reportCount" "I", Cond.methodLink RX4 206 yX4_endOldSubscriptions, Cond.instanceMethod yX4_endOldSubscriptions, Cond.selects RX4 yX4_endOldSubscriptions yX4_endOldSubscriptions, Cond.code yX4_endOldSubscriptions cX4_endOldSubscriptions 5 none, Cond.fieldLink RX4 212 "BuildingPoints$Subscription" "endTime" "I", Cond.methodLink RX4 209 yX4_followSchedules, Cond.instanceMethod yX4_followSchedules, Cond.selects RX4 yX4_followSchedules yX4_followSchedules, Cond.code yX4_followSchedules cX4_followSchedules 5 none, Cond.fieldLink RX4 23 "BuildingPoints" "schedules" "[LBuildingPoints$Schedule;", Cond.methodLink RX4 129 yX4_follow, Cond.instanceMethod yX4_follow, Cond.selects RX4 yX4_follow yX4_follow, Cond.code yX4_follow cX4_follow 3 none, Cond.fieldLink RX4 133 "BuildingPoints$Schedule" "toldLast" "I", Cond.fieldLink RX4 166 "BuildingPoints$Schedule" "point" "LBuildingPoints$Point;", Cond.fieldLink RX4 200 "BuildingPoints$Schedule" "priority" "I", Cond.methodLink RX4 140 yX2_toldAt, Cond.instanceMethod yX2_toldAt, Cond.selects RX2 yX2_toldAt yX2_toldAt, Cond.initialized RX2]
def wsX4_pass_r5 : List Cond := [Cond.code yX2_toldAt cX2_toldAt 4 (some .int), Cond.fieldLink RX2 26 "BuildingPoints$Schedule" "singleDays" "LBuildingPoints$Entries;", Cond.fieldLink RX2 22 "BuildingPoints$Schedule" "weekdays" "LBuildingPoints$Entries;", Cond.methodLink RX2 36 yX0_hasDay, Cond.instanceMethod yX0_hasDay, Cond.selects RX0 yX0_hasDay yX0_hasDay, Cond.initialized RX0, Cond.code yX0_hasDay cX0_hasDay 3 (some .boolean), Cond.fieldLink RX0 21 "BuildingPoints$Entries" "count" "I", Cond.fieldLink RX0 9 "BuildingPoints$Entries" "days" "[I", Cond.methodLink RX2 40 yX0_latest, Cond.instanceMethod yX0_latest, Cond.selects RX0 yX0_latest yX0_latest, Cond.code yX0_latest cX0_latest 6 (some .int), Cond.constant RX0 25 (-100000), Cond.fieldLink RX0 15 "BuildingPoints$Entries" "minutes" "[I", Cond.fieldLink RX0 18 "BuildingPoints$Entries" "told" "[I"]
def wsX4_pass : List Cond := .code yX4_pass cX4_pass 4 (some .int) :: ((wsX4_pass_r1 ++ (wsX4_pass_r2 ++ (wsX4_pass_r3 ++ (wsX4_pass_r4 ++ wsX4_pass_r5)))) ++ wsX40 ++ wsX10 ++ wsX30 ++ wsX20 ++ wsX00 ++ (vx_atS RX4 58 "java/lang/IllegalStateException" ["java/lang/RuntimeException", "java/lang/Exception"]).filter goodWord ++ (vx_atS RX4 156 "java/lang/IllegalArgumentException" ["java/lang/RuntimeException", "java/lang/Exception"]).filter goodWord)
def wsX4_clock : List Cond := .code yX4_clock cX4_clock 1 (some .int) :: ([.fieldLink RX4 79 "BuildingPoints" "now" "I"] ++ wsX40)
def wsX5_init : List Cond := .code yX5_init cX5_init 1 none :: ([.methodLink RX5 1 objectInit, .instanceMethod objectInit, .code objectInit ⟨#[0xb1]⟩ 1 none, .arrayClass .boolean, .fieldLink RX5 7 "BuildingPointsModel" "isSwitch" "[Z", .arrayClass .int, .fieldLink RX5 13 "BuildingPointsModel" "first" "[I", .fieldLink RX5 17 "BuildingPointsModel" "least" "[I", .fieldLink RX5 20 "BuildingPointsModel" "until" "[I", .fieldLink RX5 23 "BuildingPointsModel" "changed" "[I", .fieldLink RX5 26 "BuildingPointsModel" "commands" "[I", .fieldLink RX5 29 "BuildingPointsModel" "of" "[I", .fieldLink RX5 32 "BuildingPointsModel" "increment" "[I", .fieldLink RX5 35 "BuildingPointsModel" "over" "[I", .fieldLink RX5 38 "BuildingPointsModel" "ended" "[Z", .fieldLink RX5 41 "BuildingPointsModel" "sent" "[I", .fieldLink RX5 44 "BuildingPointsModel" "kept" "[I", .fieldLink RX5 47 "BuildingPointsModel" "to" "[I", .fieldLink RX5 50 "BuildingPointsModel" "at" "[I", .fieldLink RX5 53 "BuildingPointsModel" "last" "[I", .fieldLink RX5 56 "BuildingPointsModel" "entries" "[I", .fieldLink RX5 59 "BuildingPointsModel" "when" "[I", .fieldLink RX5 62 "BuildingPointsModel" "minute" "[I", .fieldLink RX5 65 "BuildingPointsModel" "tells" "[I"] ++ wsX50)
def wsX5_thrown : List Cond := .code yX5_thrown cX5_thrown 1 (some .int) :: ([.fieldLink RX5 68 "BuildingPointsModel" "thrown" "I"] ++ wsX50)
def wsX5_in : List Cond := .code yX5_in cX5_in 3 (some .boolean) :: ([])
def wsX5_goes : List Cond := .code yX5_goes cX5_goes 4 (some .boolean) :: ([.fieldLink RX5 68 "BuildingPointsModel" "thrown" "I"] ++ wsX50)
def wsX5_isPoint : List Cond := .code yX5_isPoint cX5_isPoint 2 (some .boolean) :: ([.fieldLink RX5 72 "BuildingPointsModel" "points" "I", .methodLink RX5 75 yX5_in, .static yX5_in, .initialized RX5, .code yX5_in cX5_in 3 (some .boolean)] ++ wsX50)
def wsX5_canHave : List Cond := .code yX5_canHave cX5_canHave 3 (some .boolean) :: ([.constant RX5 79 (-100000), .fieldLink RX5 7 "BuildingPointsModel" "isSwitch" "[Z", .methodLink RX5 75 yX5_in, .static yX5_in, .initialized RX5, .code yX5_in cX5_in 3 (some .boolean)] ++ wsX50)
def wsX5_adds : List Cond := .code yX5_adds cX5_adds 5 (some .int) :: ([.fieldLink RX5 13 "BuildingPointsModel" "first" "[I", .fieldLink RX5 72 "BuildingPointsModel" "points" "I", .fieldLink RX5 7 "BuildingPointsModel" "isSwitch" "[Z", .fieldLink RX5 17 "BuildingPointsModel" "least" "[I", .fieldLink RX5 26 "BuildingPointsModel" "commands" "[I", .constant RX5 79 (-100000)] ++ wsX50)
def wsX5_addMeasure : List Cond := .code yX5_addMeasure cX5_addMeasure 2 (some .int) :: ([.fieldLink RX5 72 "BuildingPointsModel" "points" "I", .methodLink RX5 75 yX5_in, .static yX5_in, .initialized RX5, .code yX5_in cX5_in 3 (some .boolean), .methodLink RX5 80 yX5_goes, .instanceMethod yX5_goes, .selects RX5 yX5_goes yX5_goes, .code yX5_goes cX5_goes 4 (some .boolean), .fieldLink RX5 68 "BuildingPointsModel" "thrown" "I", .methodLink RX5 84 yX5_adds, .instanceMethod yX5_adds, .selects RX5 yX5_adds yX5_adds, .code yX5_adds cX5_adds 5 (some .int), .fieldLink RX5 13 "BuildingPointsModel" "first" "[I", .fieldLink RX5 7 "BuildingPointsModel" "isSwitch" "[Z", .fieldLink RX5 17 "BuildingPointsModel" "least" "[I", .fieldLink RX5 26 "BuildingPointsModel" "commands" "[I", .constant RX5 79 (-100000)] ++ wsX50)
def wsX5_addSwitch : List Cond := .code yX5_addSwitch cX5_addSwitch 3 (some .int) :: ([.fieldLink RX5 72 "BuildingPointsModel" "points" "I", .methodLink RX5 75 yX5_in, .static yX5_in, .initialized RX5, .code yX5_in cX5_in 3 (some .boolean), .methodLink RX5 80 yX5_goes, .instanceMethod yX5_goes, .selects RX5 yX5_goes yX5_goes, .code yX5_goes cX5_goes 4 (some .boolean), .fieldLink RX5 68 "BuildingPointsModel" "thrown" "I", .methodLink RX5 84 yX5_adds, .instanceMethod yX5_adds, .selects RX5 yX5_adds yX5_adds, .code yX5_adds cX5_adds 5 (some .int), .fieldLink RX5 13 "BuildingPointsModel" "first" "[I", .fieldLink RX5 7 "BuildingPointsModel" "isSwitch" "[Z", .fieldLink RX5 17 "BuildingPointsModel" "least" "[I", .fieldLink RX5 26 "BuildingPointsModel" "commands" "[I", .constant RX5 79 (-100000)] ++ wsX50)
def wsX5_standingOf : List Cond := .code yX5_standingOf cX5_standingOf 4 (some .int) :: ([.fieldLink RX5 26 "BuildingPointsModel" "commands" "[I", .constant RX5 79 (-100000)] ++ wsX50)
def wsX5_valueOf : List Cond := .code yX5_valueOf cX5_valueOf 3 (some .int) :: ([.fieldLink RX5 13 "BuildingPointsModel" "first" "[I", .fieldLink RX5 26 "BuildingPointsModel" "commands" "[I", .methodLink RX5 88 yX5_standingOf, .instanceMethod yX5_standingOf, .selects RX5 yX5_standingOf yX5_standingOf, .initialized RX5, .code yX5_standingOf cX5_standingOf 4 (some .int), .constant RX5 79 (-100000)] ++ wsX50)
def wsX5_informs : List Cond := .code yX5_informs cX5_informs 5 none :: ([.fieldLink RX5 92 "BuildingPointsModel" "subscriptions" "I", .fieldLink RX5 44 "BuildingPointsModel" "kept" "[I", .fieldLink RX5 29 "BuildingPointsModel" "of" "[I", .fieldLink RX5 38 "BuildingPointsModel" "ended" "[Z", .fieldLink RX5 32 "BuildingPointsModel" "increment" "[I", .fieldLink RX5 41 "BuildingPointsModel" "sent" "[I", .fieldLink RX5 95 "BuildingPointsModel" "told" "I"] ++ wsX50)
def wsX5_sets_r1 : List Cond := [Cond.fieldLink RX5 26 "BuildingPointsModel" "commands" "[I", Cond.fieldLink RX5 23 "BuildingPointsModel" "changed" "[I", Cond.fieldLink RX5 17 "BuildingPointsModel" "least" "[I", Cond.fieldLink RX5 20 "BuildingPointsModel" "until" "[I", Cond.fieldLink RX5 101 "BuildingPointsModel" "clock" "I", Cond.methodLink RX5 98 yX5_valueOf, Cond.instanceMethod yX5_valueOf, Cond.selects RX5 yX5_valueOf yX5_valueOf, Cond.initialized RX5, Cond.code yX5_valueOf cX5_valueOf 3 (some .int), Cond.fieldLink RX5 13 "BuildingPointsModel" "first" "[I", Cond.methodLink RX5 88 yX5_standingOf, Cond.instanceMethod yX5_standingOf, Cond.selects RX5 yX5_standingOf yX5_standingOf, Cond.code yX5_standingOf cX5_standingOf 4 (some .int), Cond.constant RX5 79 (-100000), Cond.methodLink RX5 104 yX5_informs, Cond.instanceMethod yX5_informs, Cond.selects RX5 yX5_informs yX5_informs, Cond.code yX5_informs cX5_informs 5 none, Cond.fieldLink RX5 92 "BuildingPointsModel" "subscriptions" "I", Cond.fieldLink RX5 44 "BuildingPointsModel" "kept" "[I", Cond.fieldLink RX5 29 "BuildingPointsModel" "of" "[I", Cond.fieldLink RX5 38 "BuildingPointsModel" "ended" "[Z"]
def wsX5_sets_r2 : List Cond := [Cond.fieldLink RX5 32 "BuildingPointsModel" "increment" "[I", Cond.fieldLink RX5 41 "BuildingPointsModel" "sent" "[I", Cond.fieldLink RX5 95 "BuildingPointsModel" "told" "I"]
def wsX5_sets : List Cond := .code yX5_sets cX5_sets 6 none :: ((wsX5_sets_r1 ++ wsX5_sets_r2) ++ wsX50)
def wsX5_write_r1 : List Cond := [Cond.fieldLink RX5 20 "BuildingPointsModel" "until" "[I", Cond.methodLink RX5 108 yX5_isPoint, Cond.instanceMethod yX5_isPoint, Cond.selects RX5 yX5_isPoint yX5_isPoint, Cond.initialized RX5, Cond.code yX5_isPoint cX5_isPoint 2 (some .boolean), Cond.fieldLink RX5 72 "BuildingPointsModel" "points" "I", Cond.methodLink RX5 75 yX5_in, Cond.static yX5_in, Cond.code yX5_in cX5_in 3 (some .boolean), Cond.methodLink RX5 112 yX5_canHave, Cond.instanceMethod yX5_canHave, Cond.selects RX5 yX5_canHave yX5_canHave, Cond.code yX5_canHave cX5_canHave 3 (some .boolean), Cond.constant RX5 79 (-100000), Cond.fieldLink RX5 7 "BuildingPointsModel" "isSwitch" "[Z", Cond.methodLink RX5 80 yX5_goes, Cond.instanceMethod yX5_goes, Cond.selects RX5 yX5_goes yX5_goes, Cond.code yX5_goes cX5_goes 4 (some .boolean), Cond.fieldLink RX5 68 "BuildingPointsModel" "thrown" "I", Cond.methodLink RX5 116 yX5_sets, Cond.instanceMethod yX5_sets, Cond.selects RX5 yX5_sets yX5_sets]
def wsX5_write_r2 : List Cond := [Cond.code yX5_sets cX5_sets 6 none, Cond.fieldLink RX5 26 "BuildingPointsModel" "commands" "[I", Cond.fieldLink RX5 23 "BuildingPointsModel" "changed" "[I", Cond.fieldLink RX5 17 "BuildingPointsModel" "least" "[I", Cond.fieldLink RX5 101 "BuildingPointsModel" "clock" "I", Cond.methodLink RX5 98 yX5_valueOf, Cond.instanceMethod yX5_valueOf, Cond.selects RX5 yX5_valueOf yX5_valueOf, Cond.code yX5_valueOf cX5_valueOf 3 (some .int), Cond.fieldLink RX5 13 "BuildingPointsModel" "first" "[I", Cond.methodLink RX5 88 yX5_standingOf, Cond.instanceMethod yX5_standingOf, Cond.selects RX5 yX5_standingOf yX5_standingOf, Cond.code yX5_standingOf cX5_standingOf 4 (some .int), Cond.methodLink RX5 104 yX5_informs, Cond.instanceMethod yX5_informs, Cond.selects RX5 yX5_informs yX5_informs, Cond.code yX5_informs cX5_informs 5 none, Cond.fieldLink RX5 92 "BuildingPointsModel" "subscriptions" "I", Cond.fieldLink RX5 44 "BuildingPointsModel" "kept" "[I", Cond.fieldLink RX5 29 "BuildingPointsModel" "of" "[I", Cond.fieldLink RX5 38 "BuildingPointsModel" "ended" "[Z", Cond.fieldLink RX5 32 "BuildingPointsModel" "increment" "[I", Cond.fieldLink RX5 41 "BuildingPointsModel" "sent" "[I"]
def wsX5_write_r3 : List Cond := [Cond.fieldLink RX5 95 "BuildingPointsModel" "told" "I"]
def wsX5_write : List Cond := .code yX5_write cX5_write 6 (some .int) :: ((wsX5_write_r1 ++ (wsX5_write_r2 ++ wsX5_write_r3)) ++ wsX50)
def wsX5_value_r1 : List Cond := [Cond.methodLink RX5 108 yX5_isPoint, Cond.instanceMethod yX5_isPoint, Cond.selects RX5 yX5_isPoint yX5_isPoint, Cond.initialized RX5, Cond.code yX5_isPoint cX5_isPoint 2 (some .boolean), Cond.fieldLink RX5 72 "BuildingPointsModel" "points" "I", Cond.methodLink RX5 75 yX5_in, Cond.static yX5_in, Cond.code yX5_in cX5_in 3 (some .boolean), Cond.methodLink RX5 80 yX5_goes, Cond.instanceMethod yX5_goes, Cond.selects RX5 yX5_goes yX5_goes, Cond.code yX5_goes cX5_goes 4 (some .boolean), Cond.fieldLink RX5 68 "BuildingPointsModel" "thrown" "I", Cond.methodLink RX5 98 yX5_valueOf, Cond.instanceMethod yX5_valueOf, Cond.selects RX5 yX5_valueOf yX5_valueOf, Cond.code yX5_valueOf cX5_valueOf 3 (some .int), Cond.fieldLink RX5 13 "BuildingPointsModel" "first" "[I", Cond.fieldLink RX5 26 "BuildingPointsModel" "commands" "[I", Cond.methodLink RX5 88 yX5_standingOf, Cond.instanceMethod yX5_standingOf, Cond.selects RX5 yX5_standingOf yX5_standingOf, Cond.code yX5_standingOf cX5_standingOf 4 (some .int)]
def wsX5_value_r2 : List Cond := [Cond.constant RX5 79 (-100000)]
def wsX5_value : List Cond := .code yX5_value cX5_value 2 (some .int) :: ((wsX5_value_r1 ++ wsX5_value_r2) ++ wsX50)
def wsX5_command : List Cond := .code yX5_command cX5_command 3 (some .int) :: ([.fieldLink RX5 26 "BuildingPointsModel" "commands" "[I", .methodLink RX5 108 yX5_isPoint, .instanceMethod yX5_isPoint, .selects RX5 yX5_isPoint yX5_isPoint, .initialized RX5, .code yX5_isPoint cX5_isPoint 2 (some .boolean), .fieldLink RX5 72 "BuildingPointsModel" "points" "I", .methodLink RX5 75 yX5_in, .static yX5_in, .code yX5_in cX5_in 3 (some .boolean), .methodLink RX5 80 yX5_goes, .instanceMethod yX5_goes, .selects RX5 yX5_goes yX5_goes, .code yX5_goes cX5_goes 4 (some .boolean), .fieldLink RX5 68 "BuildingPointsModel" "thrown" "I"] ++ wsX50)
def wsX5_standing : List Cond := .code yX5_standing cX5_standing 2 (some .int) :: ([.methodLink RX5 108 yX5_isPoint, .instanceMethod yX5_isPoint, .selects RX5 yX5_isPoint yX5_isPoint, .initialized RX5, .code yX5_isPoint cX5_isPoint 2 (some .boolean), .fieldLink RX5 72 "BuildingPointsModel" "points" "I", .methodLink RX5 75 yX5_in, .static yX5_in, .code yX5_in cX5_in 3 (some .boolean), .methodLink RX5 80 yX5_goes, .instanceMethod yX5_goes, .selects RX5 yX5_goes yX5_goes, .code yX5_goes cX5_goes 4 (some .boolean), .fieldLink RX5 68 "BuildingPointsModel" "thrown" "I", .methodLink RX5 88 yX5_standingOf, .instanceMethod yX5_standingOf, .selects RX5 yX5_standingOf yX5_standingOf, .code yX5_standingOf cX5_standingOf 4 (some .int), .fieldLink RX5 26 "BuildingPointsModel" "commands" "[I", .constant RX5 79 (-100000)] ++ wsX50)
def wsX5_held : List Cond := .code yX5_held cX5_held 2 (some .int) :: ([.fieldLink RX5 20 "BuildingPointsModel" "until" "[I", .fieldLink RX5 101 "BuildingPointsModel" "clock" "I", .methodLink RX5 108 yX5_isPoint, .instanceMethod yX5_isPoint, .selects RX5 yX5_isPoint yX5_isPoint, .initialized RX5, .code yX5_isPoint cX5_isPoint 2 (some .boolean), .fieldLink RX5 72 "BuildingPointsModel" "points" "I", .methodLink RX5 75 yX5_in, .static yX5_in, .code yX5_in cX5_in 3 (some .boolean), .methodLink RX5 80 yX5_goes, .instanceMethod yX5_goes, .selects RX5 yX5_goes yX5_goes, .code yX5_goes cX5_goes 4 (some .boolean), .fieldLink RX5 68 "BuildingPointsModel" "thrown" "I"] ++ wsX50)
def wsX5_changes : List Cond := .code yX5_changes cX5_changes 2 (some .int) :: ([.fieldLink RX5 23 "BuildingPointsModel" "changed" "[I", .methodLink RX5 108 yX5_isPoint, .instanceMethod yX5_isPoint, .selects RX5 yX5_isPoint yX5_isPoint, .initialized RX5, .code yX5_isPoint cX5_isPoint 2 (some .boolean), .fieldLink RX5 72 "BuildingPointsModel" "points" "I", .methodLink RX5 75 yX5_in, .static yX5_in, .code yX5_in cX5_in 3 (some .boolean), .methodLink RX5 80 yX5_goes, .instanceMethod yX5_goes, .selects RX5 yX5_goes yX5_goes, .code yX5_goes cX5_goes 4 (some .boolean), .fieldLink RX5 68 "BuildingPointsModel" "thrown" "I"] ++ wsX50)
def wsX5_subscribe_r1 : List Cond := [Cond.constant RX5 120 (100000), Cond.fieldLink RX5 92 "BuildingPointsModel" "subscriptions" "I", Cond.fieldLink RX5 29 "BuildingPointsModel" "of" "[I", Cond.fieldLink RX5 32 "BuildingPointsModel" "increment" "[I", Cond.fieldLink RX5 35 "BuildingPointsModel" "over" "[I", Cond.fieldLink RX5 101 "BuildingPointsModel" "clock" "I", Cond.fieldLink RX5 44 "BuildingPointsModel" "kept" "[I", Cond.methodLink RX5 108 yX5_isPoint, Cond.instanceMethod yX5_isPoint, Cond.selects RX5 yX5_isPoint yX5_isPoint, Cond.initialized RX5, Cond.code yX5_isPoint cX5_isPoint 2 (some .boolean), Cond.fieldLink RX5 72 "BuildingPointsModel" "points" "I", Cond.methodLink RX5 75 yX5_in, Cond.static yX5_in, Cond.code yX5_in cX5_in 3 (some .boolean), Cond.methodLink RX5 80 yX5_goes, Cond.instanceMethod yX5_goes, Cond.selects RX5 yX5_goes yX5_goes, Cond.code yX5_goes cX5_goes 4 (some .boolean), Cond.fieldLink RX5 68 "BuildingPointsModel" "thrown" "I", Cond.methodLink RX5 98 yX5_valueOf, Cond.instanceMethod yX5_valueOf, Cond.selects RX5 yX5_valueOf yX5_valueOf]
def wsX5_subscribe_r2 : List Cond := [Cond.code yX5_valueOf cX5_valueOf 3 (some .int), Cond.fieldLink RX5 13 "BuildingPointsModel" "first" "[I", Cond.fieldLink RX5 26 "BuildingPointsModel" "commands" "[I", Cond.methodLink RX5 88 yX5_standingOf, Cond.instanceMethod yX5_standingOf, Cond.selects RX5 yX5_standingOf yX5_standingOf, Cond.code yX5_standingOf cX5_standingOf 4 (some .int), Cond.constant RX5 79 (-100000)]
def wsX5_subscribe : List Cond := .code yX5_subscribe cX5_subscribe 5 (some .int) :: ((wsX5_subscribe_r1 ++ wsX5_subscribe_r2) ++ wsX50)
def wsX5_isSubscription : List Cond := .code yX5_isSubscription cX5_isSubscription 2 (some .boolean) :: ([.fieldLink RX5 92 "BuildingPointsModel" "subscriptions" "I", .methodLink RX5 75 yX5_in, .static yX5_in, .initialized RX5, .code yX5_in cX5_in 3 (some .boolean)] ++ wsX50)
def wsX5_end : List Cond := .code yX5_end cX5_end 3 none :: ([.fieldLink RX5 38 "BuildingPointsModel" "ended" "[Z", .methodLink RX5 121 yX5_isSubscription, .instanceMethod yX5_isSubscription, .selects RX5 yX5_isSubscription yX5_isSubscription, .initialized RX5, .code yX5_isSubscription cX5_isSubscription 2 (some .boolean), .fieldLink RX5 92 "BuildingPointsModel" "subscriptions" "I", .methodLink RX5 75 yX5_in, .static yX5_in, .code yX5_in cX5_in 3 (some .boolean), .methodLink RX5 80 yX5_goes, .instanceMethod yX5_goes, .selects RX5 yX5_goes yX5_goes, .code yX5_goes cX5_goes 4 (some .boolean), .fieldLink RX5 68 "BuildingPointsModel" "thrown" "I"] ++ wsX50)
def wsX5_goesOn : List Cond := .code yX5_goesOn cX5_goesOn 2 (some .boolean) :: ([.fieldLink RX5 38 "BuildingPointsModel" "ended" "[Z", .methodLink RX5 121 yX5_isSubscription, .instanceMethod yX5_isSubscription, .selects RX5 yX5_isSubscription yX5_isSubscription, .initialized RX5, .code yX5_isSubscription cX5_isSubscription 2 (some .boolean), .fieldLink RX5 92 "BuildingPointsModel" "subscriptions" "I", .methodLink RX5 75 yX5_in, .static yX5_in, .code yX5_in cX5_in 3 (some .boolean), .methodLink RX5 80 yX5_goes, .instanceMethod yX5_goes, .selects RX5 yX5_goes yX5_goes, .code yX5_goes cX5_goes 4 (some .boolean), .fieldLink RX5 68 "BuildingPointsModel" "thrown" "I"] ++ wsX50)
def wsX5_reports : List Cond := .code yX5_reports cX5_reports 2 (some .int) :: ([.fieldLink RX5 41 "BuildingPointsModel" "sent" "[I", .methodLink RX5 121 yX5_isSubscription, .instanceMethod yX5_isSubscription, .selects RX5 yX5_isSubscription yX5_isSubscription, .initialized RX5, .code yX5_isSubscription cX5_isSubscription 2 (some .boolean), .fieldLink RX5 92 "BuildingPointsModel" "subscriptions" "I", .methodLink RX5 75 yX5_in, .static yX5_in, .code yX5_in cX5_in 3 (some .boolean), .methodLink RX5 80 yX5_goes, .instanceMethod yX5_goes, .selects RX5 yX5_goes yX5_goes, .code yX5_goes cX5_goes 4 (some .boolean), .fieldLink RX5 68 "BuildingPointsModel" "thrown" "I"] ++ wsX50)
def wsX5_reported : List Cond := .code yX5_reported cX5_reported 2 (some .int) :: ([.fieldLink RX5 44 "BuildingPointsModel" "kept" "[I", .methodLink RX5 121 yX5_isSubscription, .instanceMethod yX5_isSubscription, .selects RX5 yX5_isSubscription yX5_isSubscription, .initialized RX5, .code yX5_isSubscription cX5_isSubscription 2 (some .boolean), .fieldLink RX5 92 "BuildingPointsModel" "subscriptions" "I", .methodLink RX5 75 yX5_in, .static yX5_in, .code yX5_in cX5_in 3 (some .boolean), .methodLink RX5 80 yX5_goes, .instanceMethod yX5_goes, .selects RX5 yX5_goes yX5_goes, .code yX5_goes cX5_goes 4 (some .boolean), .fieldLink RX5 68 "BuildingPointsModel" "thrown" "I"] ++ wsX50)
def wsX5_isSchedule : List Cond := .code yX5_isSchedule cX5_isSchedule 2 (some .boolean) :: ([.fieldLink RX5 124 "BuildingPointsModel" "schedules" "I", .methodLink RX5 75 yX5_in, .static yX5_in, .initialized RX5, .code yX5_in cX5_in 3 (some .boolean)] ++ wsX50)
def wsX5_addSchedule : List Cond := .code yX5_addSchedule cX5_addSchedule 3 (some .int) :: ([.fieldLink RX5 124 "BuildingPointsModel" "schedules" "I", .fieldLink RX5 47 "BuildingPointsModel" "to" "[I", .fieldLink RX5 50 "BuildingPointsModel" "at" "[I", .fieldLink RX5 53 "BuildingPointsModel" "last" "[I", .constant RX5 79 (-100000), .methodLink RX5 108 yX5_isPoint, .instanceMethod yX5_isPoint, .selects RX5 yX5_isPoint yX5_isPoint, .initialized RX5, .code yX5_isPoint cX5_isPoint 2 (some .boolean), .fieldLink RX5 72 "BuildingPointsModel" "points" "I", .methodLink RX5 75 yX5_in, .static yX5_in, .code yX5_in cX5_in 3 (some .boolean), .methodLink RX5 80 yX5_goes, .instanceMethod yX5_goes, .selects RX5 yX5_goes yX5_goes, .code yX5_goes cX5_goes 4 (some .boolean), .fieldLink RX5 68 "BuildingPointsModel" "thrown" "I"] ++ wsX50)
def wsX5_toldBy : List Cond := .code yX5_toldBy cX5_toldBy 10 (some .int) :: ([.fieldLink RX5 56 "BuildingPointsModel" "entries" "[I", .fieldLink RX5 59 "BuildingPointsModel" "when" "[I", .constant RX5 79 (-100000), .fieldLink RX5 62 "BuildingPointsModel" "minute" "[I", .fieldLink RX5 65 "BuildingPointsModel" "tells" "[I"] ++ wsX50)
def wsX5_obeys_r1 : List Cond := [Cond.fieldLink RX5 101 "BuildingPointsModel" "clock" "I", Cond.fieldLink RX5 53 "BuildingPointsModel" "last" "[I", Cond.fieldLink RX5 47 "BuildingPointsModel" "to" "[I", Cond.fieldLink RX5 50 "BuildingPointsModel" "at" "[I", Cond.methodLink RX5 127 yX5_toldBy, Cond.instanceMethod yX5_toldBy, Cond.selects RX5 yX5_toldBy yX5_toldBy, Cond.initialized RX5, Cond.code yX5_toldBy cX5_toldBy 10 (some .int), Cond.fieldLink RX5 56 "BuildingPointsModel" "entries" "[I", Cond.fieldLink RX5 59 "BuildingPointsModel" "when" "[I", Cond.constant RX5 79 (-100000), Cond.fieldLink RX5 62 "BuildingPointsModel" "minute" "[I", Cond.fieldLink RX5 65 "BuildingPointsModel" "tells" "[I", Cond.methodLink RX5 116 yX5_sets, Cond.instanceMethod yX5_sets, Cond.selects RX5 yX5_sets yX5_sets, Cond.code yX5_sets cX5_sets 6 none, Cond.fieldLink RX5 26 "BuildingPointsModel" "commands" "[I", Cond.fieldLink RX5 23 "BuildingPointsModel" "changed" "[I", Cond.fieldLink RX5 17 "BuildingPointsModel" "least" "[I", Cond.fieldLink RX5 20 "BuildingPointsModel" "until" "[I", Cond.methodLink RX5 98 yX5_valueOf, Cond.instanceMethod yX5_valueOf]
def wsX5_obeys_r2 : List Cond := [Cond.selects RX5 yX5_valueOf yX5_valueOf, Cond.code yX5_valueOf cX5_valueOf 3 (some .int), Cond.fieldLink RX5 13 "BuildingPointsModel" "first" "[I", Cond.methodLink RX5 88 yX5_standingOf, Cond.instanceMethod yX5_standingOf, Cond.selects RX5 yX5_standingOf yX5_standingOf, Cond.code yX5_standingOf cX5_standingOf 4 (some .int), Cond.methodLink RX5 104 yX5_informs, Cond.instanceMethod yX5_informs, Cond.selects RX5 yX5_informs yX5_informs, Cond.code yX5_informs cX5_informs 5 none, Cond.fieldLink RX5 92 "BuildingPointsModel" "subscriptions" "I", Cond.fieldLink RX5 44 "BuildingPointsModel" "kept" "[I", Cond.fieldLink RX5 29 "BuildingPointsModel" "of" "[I", Cond.fieldLink RX5 38 "BuildingPointsModel" "ended" "[Z", Cond.fieldLink RX5 32 "BuildingPointsModel" "increment" "[I", Cond.fieldLink RX5 41 "BuildingPointsModel" "sent" "[I", Cond.fieldLink RX5 95 "BuildingPointsModel" "told" "I"]
def wsX5_obeys : List Cond := .code yX5_obeys cX5_obeys 3 none :: ((wsX5_obeys_r1 ++ wsX5_obeys_r2) ++ wsX50)
def wsX5_enters_r1 : List Cond := [Cond.fieldLink RX5 56 "BuildingPointsModel" "entries" "[I", Cond.fieldLink RX5 59 "BuildingPointsModel" "when" "[I", Cond.fieldLink RX5 62 "BuildingPointsModel" "minute" "[I", Cond.fieldLink RX5 65 "BuildingPointsModel" "tells" "[I", Cond.fieldLink RX5 53 "BuildingPointsModel" "last" "[I", Cond.methodLink RX5 131 yX5_obeys, Cond.instanceMethod yX5_obeys, Cond.selects RX5 yX5_obeys yX5_obeys, Cond.initialized RX5, Cond.code yX5_obeys cX5_obeys 3 none, Cond.fieldLink RX5 101 "BuildingPointsModel" "clock" "I", Cond.fieldLink RX5 47 "BuildingPointsModel" "to" "[I", Cond.fieldLink RX5 50 "BuildingPointsModel" "at" "[I", Cond.methodLink RX5 127 yX5_toldBy, Cond.instanceMethod yX5_toldBy, Cond.selects RX5 yX5_toldBy yX5_toldBy, Cond.code yX5_toldBy cX5_toldBy 10 (some .int), Cond.constant RX5 79 (-100000), Cond.methodLink RX5 116 yX5_sets, Cond.instanceMethod yX5_sets, Cond.selects RX5 yX5_sets yX5_sets, Cond.code yX5_sets cX5_sets 6 none, Cond.fieldLink RX5 26 "BuildingPointsModel" "commands" "[I", Cond.fieldLink RX5 23 "BuildingPointsModel" "changed" "[I"]
def wsX5_enters_r2 : List Cond := [Cond.fieldLink RX5 17 "BuildingPointsModel" "least" "[I", Cond.fieldLink RX5 20 "BuildingPointsModel" "until" "[I", Cond.methodLink RX5 98 yX5_valueOf, Cond.instanceMethod yX5_valueOf, Cond.selects RX5 yX5_valueOf yX5_valueOf, Cond.code yX5_valueOf cX5_valueOf 3 (some .int), Cond.fieldLink RX5 13 "BuildingPointsModel" "first" "[I", Cond.methodLink RX5 88 yX5_standingOf, Cond.instanceMethod yX5_standingOf, Cond.selects RX5 yX5_standingOf yX5_standingOf, Cond.code yX5_standingOf cX5_standingOf 4 (some .int), Cond.methodLink RX5 104 yX5_informs, Cond.instanceMethod yX5_informs, Cond.selects RX5 yX5_informs yX5_informs, Cond.code yX5_informs cX5_informs 5 none, Cond.fieldLink RX5 92 "BuildingPointsModel" "subscriptions" "I", Cond.fieldLink RX5 44 "BuildingPointsModel" "kept" "[I", Cond.fieldLink RX5 29 "BuildingPointsModel" "of" "[I", Cond.fieldLink RX5 38 "BuildingPointsModel" "ended" "[Z", Cond.fieldLink RX5 32 "BuildingPointsModel" "increment" "[I", Cond.fieldLink RX5 41 "BuildingPointsModel" "sent" "[I", Cond.fieldLink RX5 95 "BuildingPointsModel" "told" "I"]
def wsX5_enters : List Cond := .code yX5_enters cX5_enters 6 (some .int) :: ((wsX5_enters_r1 ++ wsX5_enters_r2) ++ wsX50)
def wsX5_weekly_r1 : List Cond := [Cond.fieldLink RX5 47 "BuildingPointsModel" "to" "[I", Cond.fieldLink RX5 56 "BuildingPointsModel" "entries" "[I", Cond.methodLink RX5 135 yX5_isSchedule, Cond.instanceMethod yX5_isSchedule, Cond.selects RX5 yX5_isSchedule yX5_isSchedule, Cond.initialized RX5, Cond.code yX5_isSchedule cX5_isSchedule 2 (some .boolean), Cond.fieldLink RX5 124 "BuildingPointsModel" "schedules" "I", Cond.methodLink RX5 75 yX5_in, Cond.static yX5_in, Cond.code yX5_in cX5_in 3 (some .boolean), Cond.methodLink RX5 112 yX5_canHave, Cond.instanceMethod yX5_canHave, Cond.selects RX5 yX5_canHave yX5_canHave, Cond.code yX5_canHave cX5_canHave 3 (some .boolean), Cond.constant RX5 79 (-100000), Cond.fieldLink RX5 7 "BuildingPointsModel" "isSwitch" "[Z", Cond.methodLink RX5 80 yX5_goes, Cond.instanceMethod yX5_goes, Cond.selects RX5 yX5_goes yX5_goes, Cond.code yX5_goes cX5_goes 4 (some .boolean), Cond.fieldLink RX5 68 "BuildingPointsModel" "thrown" "I", Cond.methodLink RX5 138 yX5_enters, Cond.instanceMethod yX5_enters]
def wsX5_weekly_r2 : List Cond := [Cond.selects RX5 yX5_enters yX5_enters, Cond.code yX5_enters cX5_enters 6 (some .int), Cond.fieldLink RX5 59 "BuildingPointsModel" "when" "[I", Cond.fieldLink RX5 62 "BuildingPointsModel" "minute" "[I", Cond.fieldLink RX5 65 "BuildingPointsModel" "tells" "[I", Cond.fieldLink RX5 53 "BuildingPointsModel" "last" "[I", Cond.methodLink RX5 131 yX5_obeys, Cond.instanceMethod yX5_obeys, Cond.selects RX5 yX5_obeys yX5_obeys, Cond.code yX5_obeys cX5_obeys 3 none, Cond.fieldLink RX5 101 "BuildingPointsModel" "clock" "I", Cond.fieldLink RX5 50 "BuildingPointsModel" "at" "[I", Cond.methodLink RX5 127 yX5_toldBy, Cond.instanceMethod yX5_toldBy, Cond.selects RX5 yX5_toldBy yX5_toldBy, Cond.code yX5_toldBy cX5_toldBy 10 (some .int), Cond.methodLink RX5 116 yX5_sets, Cond.instanceMethod yX5_sets, Cond.selects RX5 yX5_sets yX5_sets, Cond.code yX5_sets cX5_sets 6 none, Cond.fieldLink RX5 26 "BuildingPointsModel" "commands" "[I", Cond.fieldLink RX5 23 "BuildingPointsModel" "changed" "[I", Cond.fieldLink RX5 17 "BuildingPointsModel" "least" "[I", Cond.fieldLink RX5 20 "BuildingPointsModel" "until" "[I"]
def wsX5_weekly_r3 : List Cond := [Cond.methodLink RX5 98 yX5_valueOf, Cond.instanceMethod yX5_valueOf, Cond.selects RX5 yX5_valueOf yX5_valueOf, Cond.code yX5_valueOf cX5_valueOf 3 (some .int), Cond.fieldLink RX5 13 "BuildingPointsModel" "first" "[I", Cond.methodLink RX5 88 yX5_standingOf, Cond.instanceMethod yX5_standingOf, Cond.selects RX5 yX5_standingOf yX5_standingOf, Cond.code yX5_standingOf cX5_standingOf 4 (some .int), Cond.methodLink RX5 104 yX5_informs, Cond.instanceMethod yX5_informs, Cond.selects RX5 yX5_informs yX5_informs, Cond.code yX5_informs cX5_informs 5 none, Cond.fieldLink RX5 92 "BuildingPointsModel" "subscriptions" "I", Cond.fieldLink RX5 44 "BuildingPointsModel" "kept" "[I", Cond.fieldLink RX5 29 "BuildingPointsModel" "of" "[I", Cond.fieldLink RX5 38 "BuildingPointsModel" "ended" "[Z", Cond.fieldLink RX5 32 "BuildingPointsModel" "increment" "[I", Cond.fieldLink RX5 41 "BuildingPointsModel" "sent" "[I", Cond.fieldLink RX5 95 "BuildingPointsModel" "told" "I"]
def wsX5_weekly : List Cond := .code yX5_weekly cX5_weekly 7 (some .int) :: ((wsX5_weekly_r1 ++ (wsX5_weekly_r2 ++ wsX5_weekly_r3)) ++ wsX50)
def wsX5_once_r1 : List Cond := [Cond.fieldLink RX5 47 "BuildingPointsModel" "to" "[I", Cond.fieldLink RX5 56 "BuildingPointsModel" "entries" "[I", Cond.methodLink RX5 135 yX5_isSchedule, Cond.instanceMethod yX5_isSchedule, Cond.selects RX5 yX5_isSchedule yX5_isSchedule, Cond.initialized RX5, Cond.code yX5_isSchedule cX5_isSchedule 2 (some .boolean), Cond.fieldLink RX5 124 "BuildingPointsModel" "schedules" "I", Cond.methodLink RX5 75 yX5_in, Cond.static yX5_in, Cond.code yX5_in cX5_in 3 (some .boolean), Cond.methodLink RX5 112 yX5_canHave, Cond.instanceMethod yX5_canHave, Cond.selects RX5 yX5_canHave yX5_canHave, Cond.code yX5_canHave cX5_canHave 3 (some .boolean), Cond.constant RX5 79 (-100000), Cond.fieldLink RX5 7 "BuildingPointsModel" "isSwitch" "[Z", Cond.methodLink RX5 80 yX5_goes, Cond.instanceMethod yX5_goes, Cond.selects RX5 yX5_goes yX5_goes, Cond.code yX5_goes cX5_goes 4 (some .boolean), Cond.fieldLink RX5 68 "BuildingPointsModel" "thrown" "I", Cond.methodLink RX5 138 yX5_enters, Cond.instanceMethod yX5_enters]
def wsX5_once_r2 : List Cond := [Cond.selects RX5 yX5_enters yX5_enters, Cond.code yX5_enters cX5_enters 6 (some .int), Cond.fieldLink RX5 59 "BuildingPointsModel" "when" "[I", Cond.fieldLink RX5 62 "BuildingPointsModel" "minute" "[I", Cond.fieldLink RX5 65 "BuildingPointsModel" "tells" "[I", Cond.fieldLink RX5 53 "BuildingPointsModel" "last" "[I", Cond.methodLink RX5 131 yX5_obeys, Cond.instanceMethod yX5_obeys, Cond.selects RX5 yX5_obeys yX5_obeys, Cond.code yX5_obeys cX5_obeys 3 none, Cond.fieldLink RX5 101 "BuildingPointsModel" "clock" "I", Cond.fieldLink RX5 50 "BuildingPointsModel" "at" "[I", Cond.methodLink RX5 127 yX5_toldBy, Cond.instanceMethod yX5_toldBy, Cond.selects RX5 yX5_toldBy yX5_toldBy, Cond.code yX5_toldBy cX5_toldBy 10 (some .int), Cond.methodLink RX5 116 yX5_sets, Cond.instanceMethod yX5_sets, Cond.selects RX5 yX5_sets yX5_sets, Cond.code yX5_sets cX5_sets 6 none, Cond.fieldLink RX5 26 "BuildingPointsModel" "commands" "[I", Cond.fieldLink RX5 23 "BuildingPointsModel" "changed" "[I", Cond.fieldLink RX5 17 "BuildingPointsModel" "least" "[I", Cond.fieldLink RX5 20 "BuildingPointsModel" "until" "[I"]
def wsX5_once_r3 : List Cond := [Cond.methodLink RX5 98 yX5_valueOf, Cond.instanceMethod yX5_valueOf, Cond.selects RX5 yX5_valueOf yX5_valueOf, Cond.code yX5_valueOf cX5_valueOf 3 (some .int), Cond.fieldLink RX5 13 "BuildingPointsModel" "first" "[I", Cond.methodLink RX5 88 yX5_standingOf, Cond.instanceMethod yX5_standingOf, Cond.selects RX5 yX5_standingOf yX5_standingOf, Cond.code yX5_standingOf cX5_standingOf 4 (some .int), Cond.methodLink RX5 104 yX5_informs, Cond.instanceMethod yX5_informs, Cond.selects RX5 yX5_informs yX5_informs, Cond.code yX5_informs cX5_informs 5 none, Cond.fieldLink RX5 92 "BuildingPointsModel" "subscriptions" "I", Cond.fieldLink RX5 44 "BuildingPointsModel" "kept" "[I", Cond.fieldLink RX5 29 "BuildingPointsModel" "of" "[I", Cond.fieldLink RX5 38 "BuildingPointsModel" "ended" "[Z", Cond.fieldLink RX5 32 "BuildingPointsModel" "increment" "[I", Cond.fieldLink RX5 41 "BuildingPointsModel" "sent" "[I", Cond.fieldLink RX5 95 "BuildingPointsModel" "told" "I"]
def wsX5_once : List Cond := .code yX5_once cX5_once 7 (some .int) :: ((wsX5_once_r1 ++ (wsX5_once_r2 ++ wsX5_once_r3)) ++ wsX50)
def wsX5_tells : List Cond := .code yX5_tells cX5_tells 3 (some .int) :: ([.constant RX5 142 (1000000), .methodLink RX5 135 yX5_isSchedule, .instanceMethod yX5_isSchedule, .selects RX5 yX5_isSchedule yX5_isSchedule, .initialized RX5, .code yX5_isSchedule cX5_isSchedule 2 (some .boolean), .fieldLink RX5 124 "BuildingPointsModel" "schedules" "I", .methodLink RX5 75 yX5_in, .static yX5_in, .code yX5_in cX5_in 3 (some .boolean), .methodLink RX5 80 yX5_goes, .instanceMethod yX5_goes, .selects RX5 yX5_goes yX5_goes, .code yX5_goes cX5_goes 4 (some .boolean), .fieldLink RX5 68 "BuildingPointsModel" "thrown" "I", .methodLink RX5 127 yX5_toldBy, .instanceMethod yX5_toldBy, .selects RX5 yX5_toldBy yX5_toldBy, .code yX5_toldBy cX5_toldBy 10 (some .int), .fieldLink RX5 56 "BuildingPointsModel" "entries" "[I", .fieldLink RX5 59 "BuildingPointsModel" "when" "[I", .constant RX5 79 (-100000), .fieldLink RX5 62 "BuildingPointsModel" "minute" "[I", .fieldLink RX5 65 "BuildingPointsModel" "tells" "[I"] ++ wsX50)
def wsX5_minutes_r1 : List Cond := [Cond.fieldLink RX5 101 "BuildingPointsModel" "clock" "I", Cond.fieldLink RX5 72 "BuildingPointsModel" "points" "I", Cond.fieldLink RX5 20 "BuildingPointsModel" "until" "[I", Cond.constant RX5 79 (-100000), Cond.fieldLink RX5 92 "BuildingPointsModel" "subscriptions" "I", Cond.fieldLink RX5 38 "BuildingPointsModel" "ended" "[Z", Cond.fieldLink RX5 35 "BuildingPointsModel" "over" "[I", Cond.fieldLink RX5 124 "BuildingPointsModel" "schedules" "I", Cond.methodLink RX5 116 yX5_sets, Cond.instanceMethod yX5_sets, Cond.selects RX5 yX5_sets yX5_sets, Cond.initialized RX5, Cond.code yX5_sets cX5_sets 6 none, Cond.fieldLink RX5 26 "BuildingPointsModel" "commands" "[I", Cond.fieldLink RX5 23 "BuildingPointsModel" "changed" "[I", Cond.fieldLink RX5 17 "BuildingPointsModel" "least" "[I", Cond.methodLink RX5 98 yX5_valueOf, Cond.instanceMethod yX5_valueOf, Cond.selects RX5 yX5_valueOf yX5_valueOf, Cond.code yX5_valueOf cX5_valueOf 3 (some .int), Cond.fieldLink RX5 13 "BuildingPointsModel" "first" "[I", Cond.methodLink RX5 88 yX5_standingOf, Cond.instanceMethod yX5_standingOf, Cond.selects RX5 yX5_standingOf yX5_standingOf]
def wsX5_minutes_r2 : List Cond := [Cond.code yX5_standingOf cX5_standingOf 4 (some .int), Cond.methodLink RX5 104 yX5_informs, Cond.instanceMethod yX5_informs, Cond.selects RX5 yX5_informs yX5_informs, Cond.code yX5_informs cX5_informs 5 none, Cond.fieldLink RX5 44 "BuildingPointsModel" "kept" "[I", Cond.fieldLink RX5 29 "BuildingPointsModel" "of" "[I", Cond.fieldLink RX5 32 "BuildingPointsModel" "increment" "[I", Cond.fieldLink RX5 41 "BuildingPointsModel" "sent" "[I", Cond.fieldLink RX5 95 "BuildingPointsModel" "told" "I", Cond.methodLink RX5 131 yX5_obeys, Cond.instanceMethod yX5_obeys, Cond.selects RX5 yX5_obeys yX5_obeys, Cond.code yX5_obeys cX5_obeys 3 none, Cond.fieldLink RX5 53 "BuildingPointsModel" "last" "[I", Cond.fieldLink RX5 47 "BuildingPointsModel" "to" "[I", Cond.fieldLink RX5 50 "BuildingPointsModel" "at" "[I", Cond.methodLink RX5 127 yX5_toldBy, Cond.instanceMethod yX5_toldBy, Cond.selects RX5 yX5_toldBy yX5_toldBy, Cond.code yX5_toldBy cX5_toldBy 10 (some .int), Cond.fieldLink RX5 56 "BuildingPointsModel" "entries" "[I", Cond.fieldLink RX5 59 "BuildingPointsModel" "when" "[I", Cond.fieldLink RX5 62 "BuildingPointsModel" "minute" "[I"]
def wsX5_minutes_r3 : List Cond := [Cond.fieldLink RX5 65 "BuildingPointsModel" "tells" "[I"]
def wsX5_minutes : List Cond := .code yX5_minutes cX5_minutes 2 none :: ((wsX5_minutes_r1 ++ (wsX5_minutes_r2 ++ wsX5_minutes_r3)) ++ wsX50)
def wsX5_pass_r1 : List Cond := [Cond.fieldLink RX5 101 "BuildingPointsModel" "clock" "I", Cond.constant RX5 142 (1000000), Cond.fieldLink RX5 95 "BuildingPointsModel" "told" "I", Cond.methodLink RX5 75 yX5_in, Cond.static yX5_in, Cond.initialized RX5, Cond.code yX5_in cX5_in 3 (some .boolean), Cond.methodLink RX5 80 yX5_goes, Cond.instanceMethod yX5_goes, Cond.selects RX5 yX5_goes yX5_goes, Cond.code yX5_goes cX5_goes 4 (some .boolean), Cond.fieldLink RX5 68 "BuildingPointsModel" "thrown" "I", Cond.methodLink RX5 143 yX5_minutes, Cond.instanceMethod yX5_minutes, Cond.selects RX5 yX5_minutes yX5_minutes, Cond.code yX5_minutes cX5_minutes 2 none, Cond.fieldLink RX5 72 "BuildingPointsModel" "points" "I", Cond.fieldLink RX5 20 "BuildingPointsModel" "until" "[I", Cond.constant RX5 79 (-100000), Cond.fieldLink RX5 92 "BuildingPointsModel" "subscriptions" "I", Cond.fieldLink RX5 38 "BuildingPointsModel" "ended" "[Z", Cond.fieldLink RX5 35 "BuildingPointsModel" "over" "[I", Cond.fieldLink RX5 124 "BuildingPointsModel" "schedules" "I", Cond.methodLink RX5 116 yX5_sets]
def wsX5_pass_r2 : List Cond := [Cond.instanceMethod yX5_sets, Cond.selects RX5 yX5_sets yX5_sets, Cond.code yX5_sets cX5_sets 6 none, Cond.fieldLink RX5 26 "BuildingPointsModel" "commands" "[I", Cond.fieldLink RX5 23 "BuildingPointsModel" "changed" "[I", Cond.fieldLink RX5 17 "BuildingPointsModel" "least" "[I", Cond.methodLink RX5 98 yX5_valueOf, Cond.instanceMethod yX5_valueOf, Cond.selects RX5 yX5_valueOf yX5_valueOf, Cond.code yX5_valueOf cX5_valueOf 3 (some .int), Cond.fieldLink RX5 13 "BuildingPointsModel" "first" "[I", Cond.methodLink RX5 88 yX5_standingOf, Cond.instanceMethod yX5_standingOf, Cond.selects RX5 yX5_standingOf yX5_standingOf, Cond.code yX5_standingOf cX5_standingOf 4 (some .int), Cond.methodLink RX5 104 yX5_informs, Cond.instanceMethod yX5_informs, Cond.selects RX5 yX5_informs yX5_informs, Cond.code yX5_informs cX5_informs 5 none, Cond.fieldLink RX5 44 "BuildingPointsModel" "kept" "[I", Cond.fieldLink RX5 29 "BuildingPointsModel" "of" "[I", Cond.fieldLink RX5 32 "BuildingPointsModel" "increment" "[I", Cond.fieldLink RX5 41 "BuildingPointsModel" "sent" "[I", Cond.methodLink RX5 131 yX5_obeys]
def wsX5_pass_r3 : List Cond := [Cond.instanceMethod yX5_obeys, Cond.selects RX5 yX5_obeys yX5_obeys, Cond.code yX5_obeys cX5_obeys 3 none, Cond.fieldLink RX5 53 "BuildingPointsModel" "last" "[I", Cond.fieldLink RX5 47 "BuildingPointsModel" "to" "[I", Cond.fieldLink RX5 50 "BuildingPointsModel" "at" "[I", Cond.methodLink RX5 127 yX5_toldBy, Cond.instanceMethod yX5_toldBy, Cond.selects RX5 yX5_toldBy yX5_toldBy, Cond.code yX5_toldBy cX5_toldBy 10 (some .int), Cond.fieldLink RX5 56 "BuildingPointsModel" "entries" "[I", Cond.fieldLink RX5 59 "BuildingPointsModel" "when" "[I", Cond.fieldLink RX5 62 "BuildingPointsModel" "minute" "[I", Cond.fieldLink RX5 65 "BuildingPointsModel" "tells" "[I"]
def wsX5_pass : List Cond := .code yX5_pass cX5_pass 4 (some .int) :: ((wsX5_pass_r1 ++ (wsX5_pass_r2 ++ wsX5_pass_r3)) ++ wsX50)
def wsX5_clock : List Cond := .code yX5_clock cX5_clock 1 (some .int) :: ([.fieldLink RX5 68 "BuildingPointsModel" "thrown" "I", .fieldLink RX5 101 "BuildingPointsModel" "clock" "I"] ++ wsX50)
def wsJ9_abs_0f7a4 : List Cond := .code yJ9_abs_0f7a4 cJ9_abs_0f7a4 1 (some .int) :: ([])
def wsL_addMeasure_r1 : List Cond := [Cond.classLink RL 13 "java/lang/IllegalArgumentException", Cond.classLink RL 15 "java/lang/IllegalStateException", Cond.methodLink RL 7 yX4_addMeasure, Cond.instanceMethod yX4_addMeasure, Cond.selects RX4 yX4_addMeasure yX4_addMeasure, Cond.initialized RX4, Cond.code yX4_addMeasure cX4_addMeasure 2 (some .int), Cond.fieldLink RX4 31 "BuildingPoints" "pointCount" "I", Cond.fieldLink RX4 11 "BuildingPoints" "points" "[LBuildingPoints$Point;", Cond.classLink RX4 9 RX1, Cond.instantiable RX1 8, Cond.initialized RX1, Cond.methodLink RX4 27 yX4_requireWithin, Cond.static yX4_requireWithin, Cond.code yX4_requireWithin cX4_requireWithin 3 none, Cond.classLink RX4 152 "java/lang/IllegalArgumentException", Cond.initialized "java/lang/IllegalArgumentException", Cond.methodLink RX4 35 yX4_requireRoom, Cond.static yX4_requireRoom, Cond.code yX4_requireRoom cX4_requireRoom 2 none, Cond.classLink RX4 54 "java/lang/IllegalStateException", Cond.initialized "java/lang/IllegalStateException", Cond.methodLink RX4 39 yX1_init, Cond.instanceMethod yX1_init]
def wsL_addMeasure_r2 : List Cond := [Cond.code yX1_init cX1_init 5 none, Cond.methodLink RX1 3 objectInit, Cond.instanceMethod objectInit, Cond.code objectInit ⟨#[0xb1]⟩ 1 none, Cond.fieldLink RX1 9 "BuildingPoints$Point" "lowest" "I", Cond.fieldLink RX1 15 "BuildingPoints$Point" "highest" "I", Cond.fieldLink RX1 18 "BuildingPoints$Point" "original" "I", Cond.fieldLink RX1 21 "BuildingPoints$Point" "leastTime" "I", Cond.arrayClass .int, Cond.fieldLink RX1 24 "BuildingPoints$Point" "commands" "[I", Cond.constant RX1 28 (-100000), Cond.fieldLink RX1 35 "BuildingPoints$Point" "present" "I", Cond.fieldLink RX1 38 "BuildingPoints$Point" "heldUntil" "I", Cond.fieldLink RX1 41 "BuildingPoints$Point" "changeCount" "I", Cond.methodLink RX1 29 yJ7_fill_53178, Cond.static yJ7_fill_53178, Cond.initialized RJ7, Cond.code yJ7_fill_53178 cJ7_fill_53178 4 none]
def wsL_addMeasure : List Cond := .codeWith yL_addMeasure cL_addMeasure 4 (some .int) [(0, 9, 12, 13), (0, 9, 15, 15)] :: ((wsL_addMeasure_r1 ++ wsL_addMeasure_r2) ++ wsX40 ++ wsX10 ++ (vx_atS RX4 156 "java/lang/IllegalArgumentException" ["java/lang/RuntimeException", "java/lang/Exception"]).filter goodWord ++ (vx_atS RX4 58 "java/lang/IllegalStateException" ["java/lang/RuntimeException", "java/lang/Exception"]).filter goodWord)
def wsL_addSwitch_r1 : List Cond := [Cond.classLink RL 13 "java/lang/IllegalArgumentException", Cond.classLink RL 15 "java/lang/IllegalStateException", Cond.methodLink RL 17 yX4_addSwitch, Cond.instanceMethod yX4_addSwitch, Cond.selects RX4 yX4_addSwitch yX4_addSwitch, Cond.initialized RX4, Cond.code yX4_addSwitch cX4_addSwitch 3 (some .int), Cond.fieldLink RX4 31 "BuildingPoints" "pointCount" "I", Cond.fieldLink RX4 11 "BuildingPoints" "points" "[LBuildingPoints$Point;", Cond.classLink RX4 9 RX1, Cond.instantiable RX1 8, Cond.initialized RX1, Cond.methodLink RX4 27 yX4_requireWithin, Cond.static yX4_requireWithin, Cond.code yX4_requireWithin cX4_requireWithin 3 none, Cond.classLink RX4 152 "java/lang/IllegalArgumentException", Cond.initialized "java/lang/IllegalArgumentException", Cond.methodLink RX4 35 yX4_requireRoom, Cond.static yX4_requireRoom, Cond.code yX4_requireRoom cX4_requireRoom 2 none, Cond.classLink RX4 54 "java/lang/IllegalStateException", Cond.initialized "java/lang/IllegalStateException", Cond.methodLink RX4 39 yX1_init, Cond.instanceMethod yX1_init]
def wsL_addSwitch_r2 : List Cond := [Cond.code yX1_init cX1_init 5 none, Cond.methodLink RX1 3 objectInit, Cond.instanceMethod objectInit, Cond.code objectInit ⟨#[0xb1]⟩ 1 none, Cond.fieldLink RX1 9 "BuildingPoints$Point" "lowest" "I", Cond.fieldLink RX1 15 "BuildingPoints$Point" "highest" "I", Cond.fieldLink RX1 18 "BuildingPoints$Point" "original" "I", Cond.fieldLink RX1 21 "BuildingPoints$Point" "leastTime" "I", Cond.arrayClass .int, Cond.fieldLink RX1 24 "BuildingPoints$Point" "commands" "[I", Cond.constant RX1 28 (-100000), Cond.fieldLink RX1 35 "BuildingPoints$Point" "present" "I", Cond.fieldLink RX1 38 "BuildingPoints$Point" "heldUntil" "I", Cond.fieldLink RX1 41 "BuildingPoints$Point" "changeCount" "I", Cond.methodLink RX1 29 yJ7_fill_53178, Cond.static yJ7_fill_53178, Cond.initialized RJ7, Cond.code yJ7_fill_53178 cJ7_fill_53178 4 none]
def wsL_addSwitch : List Cond := .codeWith yL_addSwitch cL_addSwitch 5 (some .int) [(0, 10, 13, 13), (0, 10, 17, 15)] :: ((wsL_addSwitch_r1 ++ wsL_addSwitch_r2) ++ wsX40 ++ wsX10 ++ (vx_atS RX4 156 "java/lang/IllegalArgumentException" ["java/lang/RuntimeException", "java/lang/Exception"]).filter goodWord ++ (vx_atS RX4 58 "java/lang/IllegalStateException" ["java/lang/RuntimeException", "java/lang/Exception"]).filter goodWord)
def wsL_write_r1 : List Cond := [Cond.classLink RL 25 "java/lang/IndexOutOfBoundsException", Cond.classLink RL 13 "java/lang/IllegalArgumentException", Cond.classLink RL 15 "java/lang/IllegalStateException", Cond.methodLink RL 21 yX4_write, Cond.instanceMethod yX4_write, Cond.selects RX4 yX4_write yX4_write, Cond.initialized RX4, Cond.code yX4_write cX4_write 5 (some .int), Cond.classLink RX4 54 "java/lang/IllegalStateException", Cond.initialized "java/lang/IllegalStateException", Cond.fieldLink RX4 65 "BuildingPoints$Point" "present" "I", Cond.methodLink RX4 42 yX4_pointAt, Cond.instanceMethod yX4_pointAt, Cond.selects RX4 yX4_pointAt yX4_pointAt, Cond.code yX4_pointAt cX4_pointAt 2 (some (.object "BuildingPoints$Point")), Cond.classLink RX4 173 "java/lang/IndexOutOfBoundsException", Cond.initialized "java/lang/IndexOutOfBoundsException", Cond.fieldLink RX4 11 "BuildingPoints" "points" "[LBuildingPoints$Point;", Cond.methodLink RX4 27 yX4_requireWithin, Cond.static yX4_requireWithin, Cond.code yX4_requireWithin cX4_requireWithin 3 none, Cond.classLink RX4 152 "java/lang/IllegalArgumentException", Cond.initialized "java/lang/IllegalArgumentException", Cond.methodLink RX4 46 yX4_requireCommand]
def wsL_write_r2 : List Cond := [Cond.static yX4_requireCommand, Cond.code yX4_requireCommand cX4_requireCommand 2 none, Cond.constant RX4 157 (-100000), Cond.methodLink RX4 158 yX1_canHave, Cond.instanceMethod yX1_canHave, Cond.selects RX1 yX1_canHave yX1_canHave, Cond.initialized RX1, Cond.code yX1_canHave cX1_canHave 2 (some .boolean), Cond.fieldLink RX1 9 "BuildingPoints$Point" "lowest" "I", Cond.fieldLink RX1 15 "BuildingPoints$Point" "highest" "I", Cond.methodLink RX4 50 yX1_isHeld, Cond.instanceMethod yX1_isHeld, Cond.selects RX1 yX1_isHeld yX1_isHeld, Cond.code yX1_isHeld cX1_isHeld 1 (some .boolean), Cond.fieldLink RX1 38 "BuildingPoints$Point" "heldUntil" "I", Cond.methodLink RX4 61 yX4_put, Cond.instanceMethod yX4_put, Cond.selects RX4 yX4_put yX4_put, Cond.code yX4_put cX4_put 5 none, Cond.fieldLink RX4 68 "BuildingPoints$Point" "commands" "[I", Cond.fieldLink RX4 79 "BuildingPoints" "now" "I", Cond.methodLink RX4 182 yX1_dueValue, Cond.instanceMethod yX1_dueValue, Cond.selects RX1 yX1_dueValue yX1_dueValue]
def wsL_write_r3 : List Cond := [Cond.code yX1_dueValue cX1_dueValue 2 (some .int), Cond.fieldLink RX1 24 "BuildingPoints$Point" "commands" "[I", Cond.fieldLink RX1 18 "BuildingPoints$Point" "original" "I", Cond.methodLink RX1 44 yX1_lowestCommanded, Cond.instanceMethod yX1_lowestCommanded, Cond.selects RX1 yX1_lowestCommanded yX1_lowestCommanded, Cond.code yX1_lowestCommanded cX1_lowestCommanded 2 (some .int), Cond.constant RX1 28 (-100000), Cond.methodLink RX4 185 yX1_change, Cond.instanceMethod yX1_change, Cond.selects RX1 yX1_change yX1_change, Cond.code yX1_change cX1_change 3 none, Cond.fieldLink RX1 35 "BuildingPoints$Point" "present" "I", Cond.fieldLink RX1 41 "BuildingPoints$Point" "changeCount" "I", Cond.fieldLink RX1 21 "BuildingPoints$Point" "leastTime" "I", Cond.methodLink RX4 188 yX4_reportChange, Cond.instanceMethod yX4_reportChange, Cond.selects RX4 yX4_reportChange yX4_reportChange, Cond.code yX4_reportChange cX4_reportChange 6 none, Cond.fieldLink RX4 17 "BuildingPoints" "subscriptions" "[LBuildingPoints$Subscription;", Cond.fieldLink RX4 95 "BuildingPoints$Subscription" "isOpen" "Z", Cond.fieldLink RX4 192 "BuildingPoints$Subscription" "point" "LBuildingPoints$Point;", Cond.fieldLink RX4 146 "BuildingPoints" "allReports" "I", Cond.methodLink RX4 193 yX3_isFarFrom]
def wsL_write_r4 : List Cond := [Cond.instanceMethod yX3_isFarFrom, Cond.selects RX3 yX3_isFarFrom yX3_isFarFrom, Cond.initialized RX3, Cond.code yX3_isFarFrom cX3_isFarFrom 2 (some .boolean), Cond.fieldLink RX3 25 "BuildingPoints$Subscription" "kept" "I", Cond.methodLink RX3 35 Lib.Math.abs.name, Cond.static Lib.Math.abs.name, Cond.initialized "java/lang/Math", Cond.code Lib.Math.abs.name Lib.Math.abs.code 1 (some .int), Cond.fieldLink RX3 13 "BuildingPoints$Subscription" "increment" "I", Cond.methodLink RX4 196 yX3_report, Cond.instanceMethod yX3_report, Cond.selects RX3 yX3_report yX3_report, Cond.code yX3_report cX3_report 2 none, Cond.fieldLink RX3 28 "BuildingPoints$Subscription" "reportCount" "I"]
def wsL_write : List Cond := .codeWith yL_write cL_write 6 (some .int) [(0, 12, 15, 25), (0, 12, 19, 13), (0, 12, 23, 15)] :: ((wsL_write_r1 ++ (wsL_write_r2 ++ (wsL_write_r3 ++ wsL_write_r4))) ++ wsX10 ++ wsX40 ++ wsX30 ++ (vx_atS RX4 58 "java/lang/IllegalStateException" ["java/lang/RuntimeException", "java/lang/Exception"]).filter goodWord ++ (vx_atS RX4 177 "java/lang/IndexOutOfBoundsException" ["java/lang/RuntimeException", "java/lang/Exception"]).filter goodWord ++ (vx_atS RX4 156 "java/lang/IllegalArgumentException" ["java/lang/RuntimeException", "java/lang/Exception"]).filter goodWord)
def wsL_value : List Cond := .codeWith yL_value cL_value 4 (some .int) [(0, 9, 12, 25)] :: ([.classLink RL 25 "java/lang/IndexOutOfBoundsException", .methodLink RL 27 yX4_value, .instanceMethod yX4_value, .selects RX4 yX4_value yX4_value, .initialized RX4, .code yX4_value cX4_value 2 (some .int), .fieldLink RX4 65 "BuildingPoints$Point" "present" "I", .methodLink RX4 42 yX4_pointAt, .instanceMethod yX4_pointAt, .selects RX4 yX4_pointAt yX4_pointAt, .code yX4_pointAt cX4_pointAt 2 (some (.object "BuildingPoints$Point")), .classLink RX4 173 "java/lang/IndexOutOfBoundsException", .initialized "java/lang/IndexOutOfBoundsException", .fieldLink RX4 11 "BuildingPoints" "points" "[LBuildingPoints$Point;"] ++ wsX10 ++ wsX40 ++ (vx_atS RX4 177 "java/lang/IndexOutOfBoundsException" ["java/lang/RuntimeException", "java/lang/Exception"]).filter goodWord)
def wsL_command : List Cond := .codeWith yL_command cL_command 5 (some .int) [(0, 10, 13, 25), (0, 10, 17, 13)] :: ([.classLink RL 25 "java/lang/IndexOutOfBoundsException", .classLink RL 13 "java/lang/IllegalArgumentException", .methodLink RL 30 yX4_command, .instanceMethod yX4_command, .selects RX4 yX4_command yX4_command, .initialized RX4, .code yX4_command cX4_command 4 (some .int), .fieldLink RX4 68 "BuildingPoints$Point" "commands" "[I", .methodLink RX4 42 yX4_pointAt, .instanceMethod yX4_pointAt, .selects RX4 yX4_pointAt yX4_pointAt, .code yX4_pointAt cX4_pointAt 2 (some (.object "BuildingPoints$Point")), .classLink RX4 173 "java/lang/IndexOutOfBoundsException", .initialized "java/lang/IndexOutOfBoundsException", .fieldLink RX4 11 "BuildingPoints" "points" "[LBuildingPoints$Point;", .methodLink RX4 27 yX4_requireWithin, .static yX4_requireWithin, .code yX4_requireWithin cX4_requireWithin 3 none, .classLink RX4 152 "java/lang/IllegalArgumentException", .initialized "java/lang/IllegalArgumentException"] ++ wsX10 ++ wsX40 ++ (vx_atS RX4 177 "java/lang/IndexOutOfBoundsException" ["java/lang/RuntimeException", "java/lang/Exception"]).filter goodWord ++ (vx_atS RX4 156 "java/lang/IllegalArgumentException" ["java/lang/RuntimeException", "java/lang/Exception"]).filter goodWord)
def wsL_standing : List Cond := .codeWith yL_standing cL_standing 4 (some .int) [(0, 9, 12, 25)] :: ([.classLink RL 25 "java/lang/IndexOutOfBoundsException", .methodLink RL 33 yX4_standing, .instanceMethod yX4_standing, .selects RX4 yX4_standing yX4_standing, .initialized RX4, .code yX4_standing cX4_standing 2 (some .int), .methodLink RX4 42 yX4_pointAt, .instanceMethod yX4_pointAt, .selects RX4 yX4_pointAt yX4_pointAt, .code yX4_pointAt cX4_pointAt 2 (some (.object "BuildingPoints$Point")), .classLink RX4 173 "java/lang/IndexOutOfBoundsException", .initialized "java/lang/IndexOutOfBoundsException", .fieldLink RX4 11 "BuildingPoints" "points" "[LBuildingPoints$Point;", .methodLink RX4 72 yX1_lowestCommanded, .instanceMethod yX1_lowestCommanded, .selects RX1 yX1_lowestCommanded yX1_lowestCommanded, .initialized RX1, .code yX1_lowestCommanded cX1_lowestCommanded 2 (some .int), .fieldLink RX1 24 "BuildingPoints$Point" "commands" "[I", .constant RX1 28 (-100000)] ++ wsX40 ++ wsX10 ++ (vx_atS RX4 177 "java/lang/IndexOutOfBoundsException" ["java/lang/RuntimeException", "java/lang/Exception"]).filter goodWord)
def wsL_held : List Cond := .codeWith yL_held cL_held 4 (some .int) [(0, 9, 12, 25)] :: ([.classLink RL 25 "java/lang/IndexOutOfBoundsException", .methodLink RL 36 yX4_held, .instanceMethod yX4_held, .selects RX4 yX4_held yX4_held, .initialized RX4, .code yX4_held cX4_held 3 (some .int), .fieldLink RX4 76 "BuildingPoints$Point" "heldUntil" "I", .fieldLink RX4 79 "BuildingPoints" "now" "I", .methodLink RX4 42 yX4_pointAt, .instanceMethod yX4_pointAt, .selects RX4 yX4_pointAt yX4_pointAt, .code yX4_pointAt cX4_pointAt 2 (some (.object "BuildingPoints$Point")), .classLink RX4 173 "java/lang/IndexOutOfBoundsException", .initialized "java/lang/IndexOutOfBoundsException", .fieldLink RX4 11 "BuildingPoints" "points" "[LBuildingPoints$Point;", .methodLink RX4 50 yX1_isHeld, .instanceMethod yX1_isHeld, .selects RX1 yX1_isHeld yX1_isHeld, .initialized RX1, .code yX1_isHeld cX1_isHeld 1 (some .boolean), .fieldLink RX1 38 "BuildingPoints$Point" "heldUntil" "I"] ++ wsX10 ++ wsX40 ++ (vx_atS RX4 177 "java/lang/IndexOutOfBoundsException" ["java/lang/RuntimeException", "java/lang/Exception"]).filter goodWord)
def wsL_changes : List Cond := .codeWith yL_changes cL_changes 4 (some .int) [(0, 9, 12, 25)] :: ([.classLink RL 25 "java/lang/IndexOutOfBoundsException", .methodLink RL 39 yX4_changes, .instanceMethod yX4_changes, .selects RX4 yX4_changes yX4_changes, .initialized RX4, .code yX4_changes cX4_changes 2 (some .int), .fieldLink RX4 82 "BuildingPoints$Point" "changeCount" "I", .methodLink RX4 42 yX4_pointAt, .instanceMethod yX4_pointAt, .selects RX4 yX4_pointAt yX4_pointAt, .code yX4_pointAt cX4_pointAt 2 (some (.object "BuildingPoints$Point")), .classLink RX4 173 "java/lang/IndexOutOfBoundsException", .initialized "java/lang/IndexOutOfBoundsException", .fieldLink RX4 11 "BuildingPoints" "points" "[LBuildingPoints$Point;"] ++ wsX10 ++ wsX40 ++ (vx_atS RX4 177 "java/lang/IndexOutOfBoundsException" ["java/lang/RuntimeException", "java/lang/Exception"]).filter goodWord)
def wsL_subscribe_r1 : List Cond := [Cond.classLink RL 25 "java/lang/IndexOutOfBoundsException", Cond.classLink RL 13 "java/lang/IllegalArgumentException", Cond.classLink RL 15 "java/lang/IllegalStateException", Cond.methodLink RL 42 yX4_subscribe, Cond.instanceMethod yX4_subscribe, Cond.selects RX4 yX4_subscribe yX4_subscribe, Cond.initialized RX4, Cond.code yX4_subscribe cX4_subscribe 5 (some .int), Cond.constant RX4 85 (100000), Cond.fieldLink RX4 86 "BuildingPoints" "subscriptionCount" "I", Cond.fieldLink RX4 17 "BuildingPoints" "subscriptions" "[LBuildingPoints$Subscription;", Cond.classLink RX4 15 RX3, Cond.instantiable RX3 6, Cond.initialized RX3, Cond.fieldLink RX4 79 "BuildingPoints" "now" "I", Cond.methodLink RX4 42 yX4_pointAt, Cond.instanceMethod yX4_pointAt, Cond.selects RX4 yX4_pointAt yX4_pointAt, Cond.code yX4_pointAt cX4_pointAt 2 (some (.object "BuildingPoints$Point")), Cond.classLink RX4 173 "java/lang/IndexOutOfBoundsException", Cond.initialized "java/lang/IndexOutOfBoundsException", Cond.fieldLink RX4 11 "BuildingPoints" "points" "[LBuildingPoints$Point;", Cond.methodLink RX4 27 yX4_requireWithin, Cond.static yX4_requireWithin]
def wsL_subscribe_r2 : List Cond := [Cond.code yX4_requireWithin cX4_requireWithin 3 none, Cond.classLink RX4 152 "java/lang/IllegalArgumentException", Cond.initialized "java/lang/IllegalArgumentException", Cond.methodLink RX4 35 yX4_requireRoom, Cond.static yX4_requireRoom, Cond.code yX4_requireRoom cX4_requireRoom 2 none, Cond.classLink RX4 54 "java/lang/IllegalStateException", Cond.initialized "java/lang/IllegalStateException", Cond.methodLink RX4 89 yX3_init, Cond.instanceMethod yX3_init, Cond.code yX3_init cX3_init 4 none, Cond.methodLink RX3 1 objectInit, Cond.instanceMethod objectInit, Cond.code objectInit ⟨#[0xb1]⟩ 1 none, Cond.fieldLink RX3 7 "BuildingPoints$Subscription" "point" "LBuildingPoints$Point;", Cond.fieldLink RX3 13 "BuildingPoints$Subscription" "increment" "I", Cond.fieldLink RX3 17 "BuildingPoints$Subscription" "endTime" "I", Cond.fieldLink RX3 20 "BuildingPoints$Point" "present" "I", Cond.fieldLink RX3 25 "BuildingPoints$Subscription" "kept" "I", Cond.fieldLink RX3 28 "BuildingPoints$Subscription" "reportCount" "I", Cond.fieldLink RX3 31 "BuildingPoints$Subscription" "isOpen" "Z"]
def wsL_subscribe : List Cond := .codeWith yL_subscribe cL_subscribe 6 (some .int) [(0, 12, 15, 25), (0, 12, 19, 13), (0, 12, 23, 15)] :: ((wsL_subscribe_r1 ++ wsL_subscribe_r2) ++ wsX40 ++ wsX30 ++ wsX10 ++ (vx_atS RX4 177 "java/lang/IndexOutOfBoundsException" ["java/lang/RuntimeException", "java/lang/Exception"]).filter goodWord ++ (vx_atS RX4 156 "java/lang/IllegalArgumentException" ["java/lang/RuntimeException", "java/lang/Exception"]).filter goodWord ++ (vx_atS RX4 58 "java/lang/IllegalStateException" ["java/lang/RuntimeException", "java/lang/Exception"]).filter goodWord)
def wsL_end : List Cond := .codeWith yL_end cL_end 3 (some .int) [(0, 5, 8, 25), (0, 5, 11, 15)] :: ([.classLink RL 25 "java/lang/IndexOutOfBoundsException", .classLink RL 15 "java/lang/IllegalStateException", .methodLink RL 45 yX4_end, .instanceMethod yX4_end, .selects RX4 yX4_end yX4_end, .initialized RX4, .code yX4_end cX4_end 3 none, .classLink RX4 54 "java/lang/IllegalStateException", .initialized "java/lang/IllegalStateException", .fieldLink RX4 95 "BuildingPoints$Subscription" "isOpen" "Z", .methodLink RX4 91 yX4_subscriptionAt, .instanceMethod yX4_subscriptionAt, .selects RX4 yX4_subscriptionAt yX4_subscriptionAt, .code yX4_subscriptionAt cX4_subscriptionAt 2 (some (.object "BuildingPoints$Subscription")), .classLink RX4 173 "java/lang/IndexOutOfBoundsException", .initialized "java/lang/IndexOutOfBoundsException", .fieldLink RX4 17 "BuildingPoints" "subscriptions" "[LBuildingPoints$Subscription;"] ++ wsX30 ++ wsX40 ++ (vx_atS RX4 58 "java/lang/IllegalStateException" ["java/lang/RuntimeException", "java/lang/Exception"]).filter goodWord ++ (vx_atS RX4 177 "java/lang/IndexOutOfBoundsException" ["java/lang/RuntimeException", "java/lang/Exception"]).filter goodWord)
def wsL_goesOn : List Cond := .codeWith yL_goesOn cL_goesOn 4 (some .int) [(0, 16, 19, 25)] :: ([.classLink RL 25 "java/lang/IndexOutOfBoundsException", .methodLink RL 49 yX4_goesOn, .instanceMethod yX4_goesOn, .selects RX4 yX4_goesOn yX4_goesOn, .initialized RX4, .code yX4_goesOn cX4_goesOn 2 (some .boolean), .fieldLink RX4 95 "BuildingPoints$Subscription" "isOpen" "Z", .methodLink RX4 91 yX4_subscriptionAt, .instanceMethod yX4_subscriptionAt, .selects RX4 yX4_subscriptionAt yX4_subscriptionAt, .code yX4_subscriptionAt cX4_subscriptionAt 2 (some (.object "BuildingPoints$Subscription")), .classLink RX4 173 "java/lang/IndexOutOfBoundsException", .initialized "java/lang/IndexOutOfBoundsException", .fieldLink RX4 17 "BuildingPoints" "subscriptions" "[LBuildingPoints$Subscription;"] ++ wsX30 ++ wsX40 ++ (vx_atS RX4 177 "java/lang/IndexOutOfBoundsException" ["java/lang/RuntimeException", "java/lang/Exception"]).filter goodWord)
def wsL_reports : List Cond := .codeWith yL_reports cL_reports 4 (some .int) [(0, 9, 12, 25)] :: ([.classLink RL 25 "java/lang/IndexOutOfBoundsException", .methodLink RL 53 yX4_reports, .instanceMethod yX4_reports, .selects RX4 yX4_reports yX4_reports, .initialized RX4, .code yX4_reports cX4_reports 2 (some .int), .fieldLink RX4 101 "BuildingPoints$Subscription" "reportCount" "I", .methodLink RX4 91 yX4_subscriptionAt, .instanceMethod yX4_subscriptionAt, .selects RX4 yX4_subscriptionAt yX4_subscriptionAt, .code yX4_subscriptionAt cX4_subscriptionAt 2 (some (.object "BuildingPoints$Subscription")), .classLink RX4 173 "java/lang/IndexOutOfBoundsException", .initialized "java/lang/IndexOutOfBoundsException", .fieldLink RX4 17 "BuildingPoints" "subscriptions" "[LBuildingPoints$Subscription;"] ++ wsX30 ++ wsX40 ++ (vx_atS RX4 177 "java/lang/IndexOutOfBoundsException" ["java/lang/RuntimeException", "java/lang/Exception"]).filter goodWord)
def wsL_reported : List Cond := .codeWith yL_reported cL_reported 4 (some .int) [(0, 9, 12, 25)] :: ([.classLink RL 25 "java/lang/IndexOutOfBoundsException", .methodLink RL 56 yX4_reported, .instanceMethod yX4_reported, .selects RX4 yX4_reported yX4_reported, .initialized RX4, .code yX4_reported cX4_reported 2 (some .int), .fieldLink RX4 104 "BuildingPoints$Subscription" "kept" "I", .methodLink RX4 91 yX4_subscriptionAt, .instanceMethod yX4_subscriptionAt, .selects RX4 yX4_subscriptionAt yX4_subscriptionAt, .code yX4_subscriptionAt cX4_subscriptionAt 2 (some (.object "BuildingPoints$Subscription")), .classLink RX4 173 "java/lang/IndexOutOfBoundsException", .initialized "java/lang/IndexOutOfBoundsException", .fieldLink RX4 17 "BuildingPoints" "subscriptions" "[LBuildingPoints$Subscription;"] ++ wsX30 ++ wsX40 ++ (vx_atS RX4 177 "java/lang/IndexOutOfBoundsException" ["java/lang/RuntimeException", "java/lang/Exception"]).filter goodWord)
def wsL_addSchedule_r1 : List Cond := [Cond.classLink RL 25 "java/lang/IndexOutOfBoundsException", Cond.classLink RL 13 "java/lang/IllegalArgumentException", Cond.classLink RL 15 "java/lang/IllegalStateException", Cond.methodLink RL 59 yX4_addSchedule, Cond.instanceMethod yX4_addSchedule, Cond.selects RX4 yX4_addSchedule yX4_addSchedule, Cond.initialized RX4, Cond.code yX4_addSchedule cX4_addSchedule 4 (some .int), Cond.fieldLink RX4 107 "BuildingPoints" "scheduleCount" "I", Cond.fieldLink RX4 23 "BuildingPoints" "schedules" "[LBuildingPoints$Schedule;", Cond.classLink RX4 21 RX2, Cond.instantiable RX2 5, Cond.initialized RX2, Cond.methodLink RX4 42 yX4_pointAt, Cond.instanceMethod yX4_pointAt, Cond.selects RX4 yX4_pointAt yX4_pointAt, Cond.code yX4_pointAt cX4_pointAt 2 (some (.object "BuildingPoints$Point")), Cond.classLink RX4 173 "java/lang/IndexOutOfBoundsException", Cond.initialized "java/lang/IndexOutOfBoundsException", Cond.fieldLink RX4 11 "BuildingPoints" "points" "[LBuildingPoints$Point;", Cond.methodLink RX4 27 yX4_requireWithin, Cond.static yX4_requireWithin, Cond.code yX4_requireWithin cX4_requireWithin 3 none, Cond.classLink RX4 152 "java/lang/IllegalArgumentException"]
def wsL_addSchedule_r2 : List Cond := [Cond.initialized "java/lang/IllegalArgumentException", Cond.methodLink RX4 35 yX4_requireRoom, Cond.static yX4_requireRoom, Cond.code yX4_requireRoom cX4_requireRoom 2 none, Cond.classLink RX4 54 "java/lang/IllegalStateException", Cond.initialized "java/lang/IllegalStateException", Cond.methodLink RX4 110 yX2_init, Cond.instanceMethod yX2_init, Cond.code yX2_init cX2_init 3 none, Cond.methodLink RX2 3 objectInit, Cond.instanceMethod objectInit, Cond.code objectInit ⟨#[0xb1]⟩ 1 none, Cond.fieldLink RX2 9 "BuildingPoints$Schedule" "point" "LBuildingPoints$Point;", Cond.fieldLink RX2 15 "BuildingPoints$Schedule" "priority" "I", Cond.classLink RX2 19 RX0, Cond.instantiable RX0 4, Cond.initialized RX0, Cond.fieldLink RX2 22 "BuildingPoints$Schedule" "weekdays" "LBuildingPoints$Entries;", Cond.fieldLink RX2 26 "BuildingPoints$Schedule" "singleDays" "LBuildingPoints$Entries;", Cond.constant RX2 29 (-100000), Cond.fieldLink RX2 30 "BuildingPoints$Schedule" "toldLast" "I", Cond.methodLink RX2 21 yX0_init, Cond.instanceMethod yX0_init, Cond.code yX0_init cX0_init 1 none]
def wsL_addSchedule_r3 : List Cond := [Cond.methodLink RX0 3 objectInit, Cond.arrayClass .int, Cond.fieldLink RX0 9 "BuildingPoints$Entries" "days" "[I", Cond.fieldLink RX0 15 "BuildingPoints$Entries" "minutes" "[I", Cond.fieldLink RX0 18 "BuildingPoints$Entries" "told" "[I", Cond.fieldLink RX0 21 "BuildingPoints$Entries" "count" "I"]
def wsL_addSchedule : List Cond := .codeWith yL_addSchedule cL_addSchedule 5 (some .int) [(0, 10, 13, 25), (0, 10, 17, 13), (0, 10, 21, 15)] :: ((wsL_addSchedule_r1 ++ (wsL_addSchedule_r2 ++ wsL_addSchedule_r3)) ++ wsX40 ++ wsX20 ++ wsX00 ++ (vx_atS RX4 177 "java/lang/IndexOutOfBoundsException" ["java/lang/RuntimeException", "java/lang/Exception"]).filter goodWord ++ (vx_atS RX4 156 "java/lang/IllegalArgumentException" ["java/lang/RuntimeException", "java/lang/Exception"]).filter goodWord ++ (vx_atS RX4 58 "java/lang/IllegalStateException" ["java/lang/RuntimeException", "java/lang/Exception"]).filter goodWord)
def wsL_weekly_r1 : List Cond := [Cond.classLink RL 25 "java/lang/IndexOutOfBoundsException", Cond.classLink RL 13 "java/lang/IllegalArgumentException", Cond.classLink RL 15 "java/lang/IllegalStateException", Cond.methodLink RL 62 yX4_weekly, Cond.instanceMethod yX4_weekly, Cond.selects RX4 yX4_weekly yX4_weekly, Cond.initialized RX4, Cond.code yX4_weekly cX4_weekly 6 (some .int), Cond.fieldLink RX4 120 "BuildingPoints$Schedule" "weekdays" "LBuildingPoints$Entries;", Cond.fieldLink RX4 133 "BuildingPoints$Schedule" "toldLast" "I", Cond.methodLink RX4 112 yX4_scheduleAt, Cond.instanceMethod yX4_scheduleAt, Cond.selects RX4 yX4_scheduleAt yX4_scheduleAt, Cond.code yX4_scheduleAt cX4_scheduleAt 2 (some (.object "BuildingPoints$Schedule")), Cond.classLink RX4 173 "java/lang/IndexOutOfBoundsException", Cond.initialized "java/lang/IndexOutOfBoundsException", Cond.fieldLink RX4 23 "BuildingPoints" "schedules" "[LBuildingPoints$Schedule;", Cond.methodLink RX4 27 yX4_requireWithin, Cond.static yX4_requireWithin, Cond.code yX4_requireWithin cX4_requireWithin 3 none, Cond.classLink RX4 152 "java/lang/IllegalArgumentException", Cond.initialized "java/lang/IllegalArgumentException", Cond.methodLink RX4 116 yX4_requireEntry, Cond.static yX4_requireEntry]
def wsL_weekly_r2 : List Cond := [Cond.code yX4_requireEntry cX4_requireEntry 3 none, Cond.fieldLink RX4 166 "BuildingPoints$Schedule" "point" "LBuildingPoints$Point;", Cond.methodLink RX4 46 yX4_requireCommand, Cond.static yX4_requireCommand, Cond.code yX4_requireCommand cX4_requireCommand 2 none, Cond.constant RX4 157 (-100000), Cond.methodLink RX4 158 yX1_canHave, Cond.instanceMethod yX1_canHave, Cond.selects RX1 yX1_canHave yX1_canHave, Cond.initialized RX1, Cond.code yX1_canHave cX1_canHave 2 (some .boolean), Cond.fieldLink RX1 9 "BuildingPoints$Point" "lowest" "I", Cond.fieldLink RX1 15 "BuildingPoints$Point" "highest" "I", Cond.methodLink RX4 170 yX2_entryCount, Cond.instanceMethod yX2_entryCount, Cond.selects RX2 yX2_entryCount yX2_entryCount, Cond.initialized RX2, Cond.code yX2_entryCount cX2_entryCount 1 (some .int), Cond.fieldLink RX2 22 "BuildingPoints$Schedule" "weekdays" "LBuildingPoints$Entries;", Cond.fieldLink RX2 33 "BuildingPoints$Entries" "count" "I", Cond.fieldLink RX2 26 "BuildingPoints$Schedule" "singleDays" "LBuildingPoints$Entries;", Cond.methodLink RX4 35 yX4_requireRoom, Cond.static yX4_requireRoom, Cond.code yX4_requireRoom cX4_requireRoom 2 none]
def wsL_weekly_r3 : List Cond := [Cond.classLink RX4 54 "java/lang/IllegalStateException", Cond.initialized "java/lang/IllegalStateException", Cond.methodLink RX4 124 yX0_add, Cond.instanceMethod yX0_add, Cond.selects RX0 yX0_add yX0_add, Cond.initialized RX0, Cond.code yX0_add cX0_add 4 none, Cond.fieldLink RX0 21 "BuildingPoints$Entries" "count" "I", Cond.fieldLink RX0 9 "BuildingPoints$Entries" "days" "[I", Cond.fieldLink RX0 15 "BuildingPoints$Entries" "minutes" "[I", Cond.fieldLink RX0 18 "BuildingPoints$Entries" "told" "[I", Cond.methodLink RX4 129 yX4_follow, Cond.instanceMethod yX4_follow, Cond.selects RX4 yX4_follow yX4_follow, Cond.code yX4_follow cX4_follow 3 none, Cond.fieldLink RX4 79 "BuildingPoints" "now" "I", Cond.fieldLink RX4 200 "BuildingPoints$Schedule" "priority" "I", Cond.methodLink RX4 140 yX2_toldAt, Cond.instanceMethod yX2_toldAt, Cond.selects RX2 yX2_toldAt yX2_toldAt, Cond.code yX2_toldAt cX2_toldAt 4 (some .int), Cond.methodLink RX2 36 yX0_hasDay, Cond.instanceMethod yX0_hasDay, Cond.selects RX0 yX0_hasDay yX0_hasDay]
def wsL_weekly_r4 : List Cond := [Cond.code yX0_hasDay cX0_hasDay 3 (some .boolean), Cond.methodLink RX2 40 yX0_latest, Cond.instanceMethod yX0_latest, Cond.selects RX0 yX0_latest yX0_latest, Cond.code yX0_latest cX0_latest 6 (some .int), Cond.constant RX0 25 (-100000), Cond.methodLink RX4 61 yX4_put, Cond.instanceMethod yX4_put, Cond.selects RX4 yX4_put yX4_put, Cond.code yX4_put cX4_put 5 none, Cond.fieldLink RX4 68 "BuildingPoints$Point" "commands" "[I", Cond.fieldLink RX4 65 "BuildingPoints$Point" "present" "I", Cond.methodLink RX4 182 yX1_dueValue, Cond.instanceMethod yX1_dueValue, Cond.selects RX1 yX1_dueValue yX1_dueValue, Cond.code yX1_dueValue cX1_dueValue 2 (some .int), Cond.fieldLink RX1 24 "BuildingPoints$Point" "commands" "[I", Cond.fieldLink RX1 18 "BuildingPoints$Point" "original" "I", Cond.methodLink RX1 44 yX1_lowestCommanded, Cond.instanceMethod yX1_lowestCommanded, Cond.selects RX1 yX1_lowestCommanded yX1_lowestCommanded, Cond.code yX1_lowestCommanded cX1_lowestCommanded 2 (some .int), Cond.constant RX1 28 (-100000), Cond.methodLink RX4 185 yX1_change]
def wsL_weekly_r5 : List Cond := [Cond.instanceMethod yX1_change, Cond.selects RX1 yX1_change yX1_change, Cond.code yX1_change cX1_change 3 none, Cond.fieldLink RX1 35 "BuildingPoints$Point" "present" "I", Cond.fieldLink RX1 41 "BuildingPoints$Point" "changeCount" "I", Cond.fieldLink RX1 21 "BuildingPoints$Point" "leastTime" "I", Cond.fieldLink RX1 38 "BuildingPoints$Point" "heldUntil" "I", Cond.methodLink RX4 188 yX4_reportChange, Cond.instanceMethod yX4_reportChange, Cond.selects RX4 yX4_reportChange yX4_reportChange, Cond.code yX4_reportChange cX4_reportChange 6 none, Cond.fieldLink RX4 17 "BuildingPoints" "subscriptions" "[LBuildingPoints$Subscription;", Cond.fieldLink RX4 95 "BuildingPoints$Subscription" "isOpen" "Z", Cond.fieldLink RX4 192 "BuildingPoints$Subscription" "point" "LBuildingPoints$Point;", Cond.fieldLink RX4 146 "BuildingPoints" "allReports" "I", Cond.methodLink RX4 193 yX3_isFarFrom, Cond.instanceMethod yX3_isFarFrom, Cond.selects RX3 yX3_isFarFrom yX3_isFarFrom, Cond.initialized RX3, Cond.code yX3_isFarFrom cX3_isFarFrom 2 (some .boolean), Cond.fieldLink RX3 25 "BuildingPoints$Subscription" "kept" "I", Cond.methodLink RX3 35 Lib.Math.abs.name, Cond.static Lib.Math.abs.name, Cond.initialized "java/lang/Math"]
def wsL_weekly_r6 : List Cond := [Cond.code Lib.Math.abs.name Lib.Math.abs.code 1 (some .int), Cond.fieldLink RX3 13 "BuildingPoints$Subscription" "increment" "I", Cond.methodLink RX4 196 yX3_report, Cond.instanceMethod yX3_report, Cond.selects RX3 yX3_report yX3_report, Cond.code yX3_report cX3_report 2 none, Cond.fieldLink RX3 28 "BuildingPoints$Subscription" "reportCount" "I"]
def wsL_weekly : List Cond := .codeWith yL_weekly cL_weekly 7 (some .int) [(0, 14, 17, 25), (0, 14, 21, 13), (0, 14, 25, 15)] :: ((wsL_weekly_r1 ++ (wsL_weekly_r2 ++ (wsL_weekly_r3 ++ (wsL_weekly_r4 ++ (wsL_weekly_r5 ++ wsL_weekly_r6))))) ++ wsX20 ++ wsX40 ++ wsX10 ++ wsX00 ++ wsX30 ++ (vx_atS RX4 177 "java/lang/IndexOutOfBoundsException" ["java/lang/RuntimeException", "java/lang/Exception"]).filter goodWord ++ (vx_atS RX4 156 "java/lang/IllegalArgumentException" ["java/lang/RuntimeException", "java/lang/Exception"]).filter goodWord ++ (vx_atS RX4 58 "java/lang/IllegalStateException" ["java/lang/RuntimeException", "java/lang/Exception"]).filter goodWord)
def wsL_once_r1 : List Cond := [Cond.classLink RL 25 "java/lang/IndexOutOfBoundsException", Cond.classLink RL 13 "java/lang/IllegalArgumentException", Cond.classLink RL 15 "java/lang/IllegalStateException", Cond.methodLink RL 66 yX4_once, Cond.instanceMethod yX4_once, Cond.selects RX4 yX4_once yX4_once, Cond.initialized RX4, Cond.code yX4_once cX4_once 6 (some .int), Cond.fieldLink RX4 136 "BuildingPoints$Schedule" "singleDays" "LBuildingPoints$Entries;", Cond.fieldLink RX4 133 "BuildingPoints$Schedule" "toldLast" "I", Cond.methodLink RX4 112 yX4_scheduleAt, Cond.instanceMethod yX4_scheduleAt, Cond.selects RX4 yX4_scheduleAt yX4_scheduleAt, Cond.code yX4_scheduleAt cX4_scheduleAt 2 (some (.object "BuildingPoints$Schedule")), Cond.classLink RX4 173 "java/lang/IndexOutOfBoundsException", Cond.initialized "java/lang/IndexOutOfBoundsException", Cond.fieldLink RX4 23 "BuildingPoints" "schedules" "[LBuildingPoints$Schedule;", Cond.methodLink RX4 27 yX4_requireWithin, Cond.static yX4_requireWithin, Cond.code yX4_requireWithin cX4_requireWithin 3 none, Cond.classLink RX4 152 "java/lang/IllegalArgumentException", Cond.initialized "java/lang/IllegalArgumentException", Cond.methodLink RX4 116 yX4_requireEntry, Cond.static yX4_requireEntry]
def wsL_once_r2 : List Cond := [Cond.code yX4_requireEntry cX4_requireEntry 3 none, Cond.fieldLink RX4 166 "BuildingPoints$Schedule" "point" "LBuildingPoints$Point;", Cond.methodLink RX4 46 yX4_requireCommand, Cond.static yX4_requireCommand, Cond.code yX4_requireCommand cX4_requireCommand 2 none, Cond.constant RX4 157 (-100000), Cond.methodLink RX4 158 yX1_canHave, Cond.instanceMethod yX1_canHave, Cond.selects RX1 yX1_canHave yX1_canHave, Cond.initialized RX1, Cond.code yX1_canHave cX1_canHave 2 (some .boolean), Cond.fieldLink RX1 9 "BuildingPoints$Point" "lowest" "I", Cond.fieldLink RX1 15 "BuildingPoints$Point" "highest" "I", Cond.methodLink RX4 170 yX2_entryCount, Cond.instanceMethod yX2_entryCount, Cond.selects RX2 yX2_entryCount yX2_entryCount, Cond.initialized RX2, Cond.code yX2_entryCount cX2_entryCount 1 (some .int), Cond.fieldLink RX2 22 "BuildingPoints$Schedule" "weekdays" "LBuildingPoints$Entries;", Cond.fieldLink RX2 33 "BuildingPoints$Entries" "count" "I", Cond.fieldLink RX2 26 "BuildingPoints$Schedule" "singleDays" "LBuildingPoints$Entries;", Cond.methodLink RX4 35 yX4_requireRoom, Cond.static yX4_requireRoom, Cond.code yX4_requireRoom cX4_requireRoom 2 none]
def wsL_once_r3 : List Cond := [Cond.classLink RX4 54 "java/lang/IllegalStateException", Cond.initialized "java/lang/IllegalStateException", Cond.methodLink RX4 124 yX0_add, Cond.instanceMethod yX0_add, Cond.selects RX0 yX0_add yX0_add, Cond.initialized RX0, Cond.code yX0_add cX0_add 4 none, Cond.fieldLink RX0 21 "BuildingPoints$Entries" "count" "I", Cond.fieldLink RX0 9 "BuildingPoints$Entries" "days" "[I", Cond.fieldLink RX0 15 "BuildingPoints$Entries" "minutes" "[I", Cond.fieldLink RX0 18 "BuildingPoints$Entries" "told" "[I", Cond.methodLink RX4 129 yX4_follow, Cond.instanceMethod yX4_follow, Cond.selects RX4 yX4_follow yX4_follow, Cond.code yX4_follow cX4_follow 3 none, Cond.fieldLink RX4 79 "BuildingPoints" "now" "I", Cond.fieldLink RX4 200 "BuildingPoints$Schedule" "priority" "I", Cond.methodLink RX4 140 yX2_toldAt, Cond.instanceMethod yX2_toldAt, Cond.selects RX2 yX2_toldAt yX2_toldAt, Cond.code yX2_toldAt cX2_toldAt 4 (some .int), Cond.methodLink RX2 36 yX0_hasDay, Cond.instanceMethod yX0_hasDay, Cond.selects RX0 yX0_hasDay yX0_hasDay]
def wsL_once_r4 : List Cond := [Cond.code yX0_hasDay cX0_hasDay 3 (some .boolean), Cond.methodLink RX2 40 yX0_latest, Cond.instanceMethod yX0_latest, Cond.selects RX0 yX0_latest yX0_latest, Cond.code yX0_latest cX0_latest 6 (some .int), Cond.constant RX0 25 (-100000), Cond.methodLink RX4 61 yX4_put, Cond.instanceMethod yX4_put, Cond.selects RX4 yX4_put yX4_put, Cond.code yX4_put cX4_put 5 none, Cond.fieldLink RX4 68 "BuildingPoints$Point" "commands" "[I", Cond.fieldLink RX4 65 "BuildingPoints$Point" "present" "I", Cond.methodLink RX4 182 yX1_dueValue, Cond.instanceMethod yX1_dueValue, Cond.selects RX1 yX1_dueValue yX1_dueValue, Cond.code yX1_dueValue cX1_dueValue 2 (some .int), Cond.fieldLink RX1 24 "BuildingPoints$Point" "commands" "[I", Cond.fieldLink RX1 18 "BuildingPoints$Point" "original" "I", Cond.methodLink RX1 44 yX1_lowestCommanded, Cond.instanceMethod yX1_lowestCommanded, Cond.selects RX1 yX1_lowestCommanded yX1_lowestCommanded, Cond.code yX1_lowestCommanded cX1_lowestCommanded 2 (some .int), Cond.constant RX1 28 (-100000), Cond.methodLink RX4 185 yX1_change]
def wsL_once_r5 : List Cond := [Cond.instanceMethod yX1_change, Cond.selects RX1 yX1_change yX1_change, Cond.code yX1_change cX1_change 3 none, Cond.fieldLink RX1 35 "BuildingPoints$Point" "present" "I", Cond.fieldLink RX1 41 "BuildingPoints$Point" "changeCount" "I", Cond.fieldLink RX1 21 "BuildingPoints$Point" "leastTime" "I", Cond.fieldLink RX1 38 "BuildingPoints$Point" "heldUntil" "I", Cond.methodLink RX4 188 yX4_reportChange, Cond.instanceMethod yX4_reportChange, Cond.selects RX4 yX4_reportChange yX4_reportChange, Cond.code yX4_reportChange cX4_reportChange 6 none, Cond.fieldLink RX4 17 "BuildingPoints" "subscriptions" "[LBuildingPoints$Subscription;", Cond.fieldLink RX4 95 "BuildingPoints$Subscription" "isOpen" "Z", Cond.fieldLink RX4 192 "BuildingPoints$Subscription" "point" "LBuildingPoints$Point;", Cond.fieldLink RX4 146 "BuildingPoints" "allReports" "I", Cond.methodLink RX4 193 yX3_isFarFrom, Cond.instanceMethod yX3_isFarFrom, Cond.selects RX3 yX3_isFarFrom yX3_isFarFrom, Cond.initialized RX3, Cond.code yX3_isFarFrom cX3_isFarFrom 2 (some .boolean), Cond.fieldLink RX3 25 "BuildingPoints$Subscription" "kept" "I", Cond.methodLink RX3 35 Lib.Math.abs.name, Cond.static Lib.Math.abs.name, Cond.initialized "java/lang/Math"]
def wsL_once_r6 : List Cond := [Cond.code Lib.Math.abs.name Lib.Math.abs.code 1 (some .int), Cond.fieldLink RX3 13 "BuildingPoints$Subscription" "increment" "I", Cond.methodLink RX4 196 yX3_report, Cond.instanceMethod yX3_report, Cond.selects RX3 yX3_report yX3_report, Cond.code yX3_report cX3_report 2 none, Cond.fieldLink RX3 28 "BuildingPoints$Subscription" "reportCount" "I"]
def wsL_once : List Cond := .codeWith yL_once cL_once 7 (some .int) [(0, 14, 17, 25), (0, 14, 21, 13), (0, 14, 25, 15)] :: ((wsL_once_r1 ++ (wsL_once_r2 ++ (wsL_once_r3 ++ (wsL_once_r4 ++ (wsL_once_r5 ++ wsL_once_r6))))) ++ wsX20 ++ wsX40 ++ wsX10 ++ wsX00 ++ wsX30 ++ (vx_atS RX4 177 "java/lang/IndexOutOfBoundsException" ["java/lang/RuntimeException", "java/lang/Exception"]).filter goodWord ++ (vx_atS RX4 156 "java/lang/IllegalArgumentException" ["java/lang/RuntimeException", "java/lang/Exception"]).filter goodWord ++ (vx_atS RX4 58 "java/lang/IllegalStateException" ["java/lang/RuntimeException", "java/lang/Exception"]).filter goodWord)
def wsL_tells_r1 : List Cond := [Cond.classLink RL 25 "java/lang/IndexOutOfBoundsException", Cond.classLink RL 13 "java/lang/IllegalArgumentException", Cond.methodLink RL 69 yX4_tells, Cond.instanceMethod yX4_tells, Cond.selects RX4 yX4_tells yX4_tells, Cond.initialized RX4, Cond.code yX4_tells cX4_tells 4 (some .int), Cond.constant RX4 139 (1000000), Cond.methodLink RX4 112 yX4_scheduleAt, Cond.instanceMethod yX4_scheduleAt, Cond.selects RX4 yX4_scheduleAt yX4_scheduleAt, Cond.code yX4_scheduleAt cX4_scheduleAt 2 (some (.object "BuildingPoints$Schedule")), Cond.classLink RX4 173 "java/lang/IndexOutOfBoundsException", Cond.initialized "java/lang/IndexOutOfBoundsException", Cond.fieldLink RX4 23 "BuildingPoints" "schedules" "[LBuildingPoints$Schedule;", Cond.methodLink RX4 27 yX4_requireWithin, Cond.static yX4_requireWithin, Cond.code yX4_requireWithin cX4_requireWithin 3 none, Cond.classLink RX4 152 "java/lang/IllegalArgumentException", Cond.initialized "java/lang/IllegalArgumentException", Cond.methodLink RX4 140 yX2_toldAt, Cond.instanceMethod yX2_toldAt, Cond.selects RX2 yX2_toldAt yX2_toldAt, Cond.initialized RX2]
def wsL_tells_r2 : List Cond := [Cond.code yX2_toldAt cX2_toldAt 4 (some .int), Cond.fieldLink RX2 26 "BuildingPoints$Schedule" "singleDays" "LBuildingPoints$Entries;", Cond.fieldLink RX2 22 "BuildingPoints$Schedule" "weekdays" "LBuildingPoints$Entries;", Cond.methodLink RX2 36 yX0_hasDay, Cond.instanceMethod yX0_hasDay, Cond.selects RX0 yX0_hasDay yX0_hasDay, Cond.initialized RX0, Cond.code yX0_hasDay cX0_hasDay 3 (some .boolean), Cond.fieldLink RX0 21 "BuildingPoints$Entries" "count" "I", Cond.fieldLink RX0 9 "BuildingPoints$Entries" "days" "[I", Cond.methodLink RX2 40 yX0_latest, Cond.instanceMethod yX0_latest, Cond.selects RX0 yX0_latest yX0_latest, Cond.code yX0_latest cX0_latest 6 (some .int), Cond.constant RX0 25 (-100000), Cond.fieldLink RX0 15 "BuildingPoints$Entries" "minutes" "[I", Cond.fieldLink RX0 18 "BuildingPoints$Entries" "told" "[I"]
def wsL_tells : List Cond := .codeWith yL_tells cL_tells 5 (some .int) [(0, 10, 13, 25), (0, 10, 17, 13)] :: ((wsL_tells_r1 ++ wsL_tells_r2) ++ wsX40 ++ wsX20 ++ wsX00 ++ (vx_atS RX4 177 "java/lang/IndexOutOfBoundsException" ["java/lang/RuntimeException", "java/lang/Exception"]).filter goodWord ++ (vx_atS RX4 156 "java/lang/IllegalArgumentException" ["java/lang/RuntimeException", "java/lang/Exception"]).filter goodWord)
def wsL_pass_r1 : List Cond := [Cond.classLink RL 13 "java/lang/IllegalArgumentException", Cond.classLink RL 15 "java/lang/IllegalStateException", Cond.methodLink RL 72 yX4_pass, Cond.instanceMethod yX4_pass, Cond.selects RX4 yX4_pass yX4_pass, Cond.initialized RX4, Cond.code yX4_pass cX4_pass 4 (some .int), Cond.classLink RX4 54 "java/lang/IllegalStateException", Cond.initialized "java/lang/IllegalStateException", Cond.constant RX4 139 (1000000), Cond.fieldLink RX4 79 "BuildingPoints" "now" "I", Cond.fieldLink RX4 146 "BuildingPoints" "allReports" "I", Cond.methodLink RX4 27 yX4_requireWithin, Cond.static yX4_requireWithin, Cond.code yX4_requireWithin cX4_requireWithin 3 none, Cond.classLink RX4 152 "java/lang/IllegalArgumentException", Cond.initialized "java/lang/IllegalArgumentException", Cond.methodLink RX4 149 yX4_passMinute, Cond.instanceMethod yX4_passMinute, Cond.selects RX4 yX4_passMinute yX4_passMinute, Cond.code yX4_passMinute cX4_passMinute 1 none, Cond.methodLink RX4 203 yX4_releaseHeldCommands, Cond.instanceMethod yX4_releaseHeldCommands, Cond.selects RX4 yX4_releaseHeldCommands yX4_releaseHeldCommands]
def wsL_pass_r2 : List Cond := [Cond.code yX4_releaseHeldCommands cX4_releaseHeldCommands 5 none, Cond.fieldLink RX4 11 "BuildingPoints" "points" "[LBuildingPoints$Point;", Cond.fieldLink RX4 76 "BuildingPoints$Point" "heldUntil" "I", Cond.constant RX4 157 (-100000), Cond.methodLink RX4 50 yX1_isHeld, Cond.instanceMethod yX1_isHeld, Cond.selects RX1 yX1_isHeld yX1_isHeld, Cond.initialized RX1, Cond.code yX1_isHeld cX1_isHeld 1 (some .boolean), Cond.fieldLink RX1 38 "BuildingPoints$Point" "heldUntil" "I", Cond.methodLink RX4 61 yX4_put, Cond.instanceMethod yX4_put, Cond.selects RX4 yX4_put yX4_put, Cond.code yX4_put cX4_put 5 none, Cond.fieldLink RX4 68 "BuildingPoints$Point" "commands" "[I", Cond.fieldLink RX4 65 "BuildingPoints$Point" "present" "I", Cond.methodLink RX4 182 yX1_dueValue, Cond.instanceMethod yX1_dueValue, Cond.selects RX1 yX1_dueValue yX1_dueValue, Cond.code yX1_dueValue cX1_dueValue 2 (some .int), Cond.fieldLink RX1 24 "BuildingPoints$Point" "commands" "[I", Cond.fieldLink RX1 18 "BuildingPoints$Point" "original" "I", Cond.methodLink RX1 44 yX1_lowestCommanded, Cond.instanceMethod yX1_lowestCommanded]
def wsL_pass_r3 : List Cond := [Cond.selects RX1 yX1_lowestCommanded yX1_lowestCommanded, Cond.code yX1_lowestCommanded cX1_lowestCommanded 2 (some .int), Cond.constant RX1 28 (-100000), Cond.methodLink RX4 185 yX1_change, Cond.instanceMethod yX1_change, Cond.selects RX1 yX1_change yX1_change, Cond.code yX1_change cX1_change 3 none, Cond.fieldLink RX1 35 "BuildingPoints$Point" "present" "I", Cond.fieldLink RX1 41 "BuildingPoints$Point" "changeCount" "I", Cond.fieldLink RX1 21 "BuildingPoints$Point" "leastTime" "I", Cond.methodLink RX4 188 yX4_reportChange, Cond.instanceMethod yX4_reportChange, Cond.selects RX4 yX4_reportChange yX4_reportChange, Cond.code yX4_reportChange cX4_reportChange 6 none, Cond.fieldLink RX4 17 "BuildingPoints" "subscriptions" "[LBuildingPoints$Subscription;", Cond.fieldLink RX4 95 "BuildingPoints$Subscription" "isOpen" "Z", Cond.fieldLink RX4 192 "BuildingPoints$Subscription" "point" "LBuildingPoints$Point;", Cond.methodLink RX4 193 yX3_isFarFrom, Cond.instanceMethod yX3_isFarFrom, Cond.selects RX3 yX3_isFarFrom yX3_isFarFrom, Cond.initialized RX3, Cond.code yX3_isFarFrom cX3_isFarFrom 2 (some .boolean), Cond.fieldLink RX3 25 "BuildingPoints$Subscription" "kept" "I", Cond.methodLink RX3 35 Lib.Math.abs.name]
def wsL_pass_r4 : List Cond := [Cond.static Lib.Math.abs.name, Cond.initialized "java/lang/Math", Cond.code Lib.Math.abs.name Lib.Math.abs.code 1 (some .int), Cond.fieldLink RX3 13 "BuildingPoints$Subscription" "increment" "I", Cond.methodLink RX4 196 yX3_report, Cond.instanceMethod yX3_report, Cond.selects RX3 yX3_report yX3_report, Cond.code yX3_report cX3_report 2 none, Cond.fieldLink RX3 28 "BuildingPoints$Subscription" "reportCount" "I", Cond.methodLink RX4 206 yX4_endOldSubscriptions, Cond.instanceMethod yX4_endOldSubscriptions, Cond.selects RX4 yX4_endOldSubscriptions yX4_endOldSubscriptions, Cond.code yX4_endOldSubscriptions cX4_endOldSubscriptions 5 none, Cond.fieldLink RX4 212 "BuildingPoints$Subscription" "endTime" "I", Cond.methodLink RX4 209 yX4_followSchedules, Cond.instanceMethod yX4_followSchedules, Cond.selects RX4 yX4_followSchedules yX4_followSchedules, Cond.code yX4_followSchedules cX4_followSchedules 5 none, Cond.fieldLink RX4 23 "BuildingPoints" "schedules" "[LBuildingPoints$Schedule;", Cond.methodLink RX4 129 yX4_follow, Cond.instanceMethod yX4_follow, Cond.selects RX4 yX4_follow yX4_follow, Cond.code yX4_follow cX4_follow 3 none, Cond.fieldLink RX4 133 "BuildingPoints$Schedule" "toldLast" "I"]
def wsL_pass_r5 : List Cond := [Cond.fieldLink RX4 166 "BuildingPoints$Schedule" "point" "LBuildingPoints$Point;", Cond.fieldLink RX4 200 "BuildingPoints$Schedule" "priority" "I", Cond.methodLink RX4 140 yX2_toldAt, Cond.instanceMethod yX2_toldAt, Cond.selects RX2 yX2_toldAt yX2_toldAt, Cond.initialized RX2, Cond.code yX2_toldAt cX2_toldAt 4 (some .int), Cond.fieldLink RX2 26 "BuildingPoints$Schedule" "singleDays" "LBuildingPoints$Entries;", Cond.fieldLink RX2 22 "BuildingPoints$Schedule" "weekdays" "LBuildingPoints$Entries;", Cond.methodLink RX2 36 yX0_hasDay, Cond.instanceMethod yX0_hasDay, Cond.selects RX0 yX0_hasDay yX0_hasDay, Cond.initialized RX0, Cond.code yX0_hasDay cX0_hasDay 3 (some .boolean), Cond.fieldLink RX0 21 "BuildingPoints$Entries" "count" "I", Cond.fieldLink RX0 9 "BuildingPoints$Entries" "days" "[I", Cond.methodLink RX2 40 yX0_latest, Cond.instanceMethod yX0_latest, Cond.selects RX0 yX0_latest yX0_latest, Cond.code yX0_latest cX0_latest 6 (some .int), Cond.constant RX0 25 (-100000), Cond.fieldLink RX0 15 "BuildingPoints$Entries" "minutes" "[I", Cond.fieldLink RX0 18 "BuildingPoints$Entries" "told" "[I"]
def wsL_pass : List Cond := .codeWith yL_pass cL_pass 4 (some .int) [(0, 9, 12, 13), (0, 9, 15, 15)] :: ((wsL_pass_r1 ++ (wsL_pass_r2 ++ (wsL_pass_r3 ++ (wsL_pass_r4 ++ wsL_pass_r5)))) ++ wsX40 ++ wsX10 ++ wsX30 ++ wsX20 ++ wsX00 ++ (vx_atS RX4 58 "java/lang/IllegalStateException" ["java/lang/RuntimeException", "java/lang/Exception"]).filter goodWord ++ (vx_atS RX4 156 "java/lang/IllegalArgumentException" ["java/lang/RuntimeException", "java/lang/Exception"]).filter goodWord)
def wsL_law0_r1 : List Cond := [Cond.classLink RL 8 RX4, Cond.instantiable RX4 8, Cond.initialized RX4, Cond.classLink RL 76 RX5, Cond.instantiable RX5 25, Cond.initialized RX5, Cond.arrayClass .long, Cond.methodLink RL 75 yX4_init, Cond.instanceMethod yX4_init, Cond.code yX4_init cX4_init 1 none, Cond.methodLink RX4 1 objectInit, Cond.instanceMethod objectInit, Cond.code objectInit ⟨#[0xb1]⟩ 1 none, Cond.classLink RX4 9 RX1, Cond.fieldLink RX4 11 "BuildingPoints" "points" "[LBuildingPoints$Point;", Cond.classLink RX4 15 RX3, Cond.fieldLink RX4 17 "BuildingPoints" "subscriptions" "[LBuildingPoints$Subscription;", Cond.classLink RX4 21 RX2, Cond.fieldLink RX4 23 "BuildingPoints" "schedules" "[LBuildingPoints$Schedule;", Cond.methodLink RL 78 yX5_init, Cond.instanceMethod yX5_init, Cond.code yX5_init cX5_init 1 none, Cond.methodLink RX5 1 objectInit, Cond.arrayClass .boolean]
def wsL_law0_r2 : List Cond := [Cond.fieldLink RX5 7 "BuildingPointsModel" "isSwitch" "[Z", Cond.arrayClass .int, Cond.fieldLink RX5 13 "BuildingPointsModel" "first" "[I", Cond.fieldLink RX5 17 "BuildingPointsModel" "least" "[I", Cond.fieldLink RX5 20 "BuildingPointsModel" "until" "[I", Cond.fieldLink RX5 23 "BuildingPointsModel" "changed" "[I", Cond.fieldLink RX5 26 "BuildingPointsModel" "commands" "[I", Cond.fieldLink RX5 29 "BuildingPointsModel" "of" "[I", Cond.fieldLink RX5 32 "BuildingPointsModel" "increment" "[I", Cond.fieldLink RX5 35 "BuildingPointsModel" "over" "[I", Cond.fieldLink RX5 38 "BuildingPointsModel" "ended" "[Z", Cond.fieldLink RX5 41 "BuildingPointsModel" "sent" "[I", Cond.fieldLink RX5 44 "BuildingPointsModel" "kept" "[I", Cond.fieldLink RX5 47 "BuildingPointsModel" "to" "[I", Cond.fieldLink RX5 50 "BuildingPointsModel" "at" "[I", Cond.fieldLink RX5 53 "BuildingPointsModel" "last" "[I", Cond.fieldLink RX5 56 "BuildingPointsModel" "entries" "[I", Cond.fieldLink RX5 59 "BuildingPointsModel" "when" "[I", Cond.fieldLink RX5 62 "BuildingPointsModel" "minute" "[I", Cond.fieldLink RX5 65 "BuildingPointsModel" "tells" "[I", Cond.methodLink RL 79 yL_addMeasure, Cond.static yL_addMeasure, Cond.initialized RL, Cond.codeWith yL_addMeasure cL_addMeasure 4 (some .int) [(0, 9, 12, 13), (0, 9, 15, 15)]]
def wsL_law0_r3 : List Cond := [Cond.classLink RL 13 "java/lang/IllegalArgumentException", Cond.classLink RL 15 "java/lang/IllegalStateException", Cond.methodLink RL 7 yX4_addMeasure, Cond.instanceMethod yX4_addMeasure, Cond.selects RX4 yX4_addMeasure yX4_addMeasure, Cond.code yX4_addMeasure cX4_addMeasure 2 (some .int), Cond.fieldLink RX4 31 "BuildingPoints" "pointCount" "I", Cond.instantiable RX1 8, Cond.initialized RX1, Cond.methodLink RX4 27 yX4_requireWithin, Cond.static yX4_requireWithin, Cond.code yX4_requireWithin cX4_requireWithin 3 none, Cond.classLink RX4 152 "java/lang/IllegalArgumentException", Cond.initialized "java/lang/IllegalArgumentException", Cond.methodLink RX4 35 yX4_requireRoom, Cond.static yX4_requireRoom, Cond.code yX4_requireRoom cX4_requireRoom 2 none, Cond.classLink RX4 54 "java/lang/IllegalStateException", Cond.initialized "java/lang/IllegalStateException", Cond.methodLink RX4 39 yX1_init, Cond.instanceMethod yX1_init, Cond.code yX1_init cX1_init 5 none, Cond.methodLink RX1 3 objectInit, Cond.fieldLink RX1 9 "BuildingPoints$Point" "lowest" "I"]
def wsL_law0_r4 : List Cond := [Cond.fieldLink RX1 15 "BuildingPoints$Point" "highest" "I", Cond.fieldLink RX1 18 "BuildingPoints$Point" "original" "I", Cond.fieldLink RX1 21 "BuildingPoints$Point" "leastTime" "I", Cond.fieldLink RX1 24 "BuildingPoints$Point" "commands" "[I", Cond.constant RX1 28 (-100000), Cond.fieldLink RX1 35 "BuildingPoints$Point" "present" "I", Cond.fieldLink RX1 38 "BuildingPoints$Point" "heldUntil" "I", Cond.fieldLink RX1 41 "BuildingPoints$Point" "changeCount" "I", Cond.methodLink RX1 29 yJ7_fill_53178, Cond.static yJ7_fill_53178, Cond.initialized RJ7, Cond.code yJ7_fill_53178 cJ7_fill_53178 4 none, Cond.methodLink RL 84 yX5_addMeasure, Cond.instanceMethod yX5_addMeasure, Cond.selects RX5 yX5_addMeasure yX5_addMeasure, Cond.code yX5_addMeasure cX5_addMeasure 2 (some .int), Cond.fieldLink RX5 72 "BuildingPointsModel" "points" "I", Cond.methodLink RX5 75 yX5_in, Cond.static yX5_in, Cond.code yX5_in cX5_in 3 (some .boolean), Cond.methodLink RX5 80 yX5_goes, Cond.instanceMethod yX5_goes, Cond.selects RX5 yX5_goes yX5_goes, Cond.code yX5_goes cX5_goes 4 (some .boolean)]
def wsL_law0_r5 : List Cond := [Cond.fieldLink RX5 68 "BuildingPointsModel" "thrown" "I", Cond.methodLink RX5 84 yX5_adds, Cond.instanceMethod yX5_adds, Cond.selects RX5 yX5_adds yX5_adds, Cond.code yX5_adds cX5_adds 5 (some .int), Cond.constant RX5 79 (-100000), Cond.methodLink RL 85 yX5_thrown, Cond.instanceMethod yX5_thrown, Cond.selects RX5 yX5_thrown yX5_thrown, Cond.code yX5_thrown cX5_thrown 1 (some .int), Cond.methodLink RL 89 yL_addSwitch, Cond.static yL_addSwitch, Cond.codeWith yL_addSwitch cL_addSwitch 5 (some .int) [(0, 10, 13, 13), (0, 10, 17, 15)], Cond.methodLink RL 17 yX4_addSwitch, Cond.instanceMethod yX4_addSwitch, Cond.selects RX4 yX4_addSwitch yX4_addSwitch, Cond.code yX4_addSwitch cX4_addSwitch 3 (some .int), Cond.methodLink RL 92 yX5_addSwitch, Cond.instanceMethod yX5_addSwitch, Cond.selects RX5 yX5_addSwitch yX5_addSwitch, Cond.code yX5_addSwitch cX5_addSwitch 3 (some .int), Cond.methodLink RL 93 yL_write, Cond.static yL_write, Cond.codeWith yL_write cL_write 6 (some .int) [(0, 12, 15, 25), (0, 12, 19, 13), (0, 12, 23, 15)]]
def wsL_law0_r6 : List Cond := [Cond.classLink RL 25 "java/lang/IndexOutOfBoundsException", Cond.methodLink RL 21 yX4_write, Cond.instanceMethod yX4_write, Cond.selects RX4 yX4_write yX4_write, Cond.code yX4_write cX4_write 5 (some .int), Cond.fieldLink RX4 65 "BuildingPoints$Point" "present" "I", Cond.methodLink RX4 42 yX4_pointAt, Cond.instanceMethod yX4_pointAt, Cond.selects RX4 yX4_pointAt yX4_pointAt, Cond.code yX4_pointAt cX4_pointAt 2 (some (.object "BuildingPoints$Point")), Cond.classLink RX4 173 "java/lang/IndexOutOfBoundsException", Cond.initialized "java/lang/IndexOutOfBoundsException", Cond.methodLink RX4 46 yX4_requireCommand, Cond.static yX4_requireCommand, Cond.code yX4_requireCommand cX4_requireCommand 2 none, Cond.constant RX4 157 (-100000), Cond.methodLink RX4 158 yX1_canHave, Cond.instanceMethod yX1_canHave, Cond.selects RX1 yX1_canHave yX1_canHave, Cond.code yX1_canHave cX1_canHave 2 (some .boolean), Cond.methodLink RX4 50 yX1_isHeld, Cond.instanceMethod yX1_isHeld, Cond.selects RX1 yX1_isHeld yX1_isHeld, Cond.code yX1_isHeld cX1_isHeld 1 (some .boolean)]
def wsL_law0_r7 : List Cond := [Cond.methodLink RX4 61 yX4_put, Cond.instanceMethod yX4_put, Cond.selects RX4 yX4_put yX4_put, Cond.code yX4_put cX4_put 5 none, Cond.fieldLink RX4 68 "BuildingPoints$Point" "commands" "[I", Cond.fieldLink RX4 79 "BuildingPoints" "now" "I", Cond.methodLink RX4 182 yX1_dueValue, Cond.instanceMethod yX1_dueValue, Cond.selects RX1 yX1_dueValue yX1_dueValue, Cond.code yX1_dueValue cX1_dueValue 2 (some .int), Cond.methodLink RX1 44 yX1_lowestCommanded, Cond.instanceMethod yX1_lowestCommanded, Cond.selects RX1 yX1_lowestCommanded yX1_lowestCommanded, Cond.code yX1_lowestCommanded cX1_lowestCommanded 2 (some .int), Cond.methodLink RX4 185 yX1_change, Cond.instanceMethod yX1_change, Cond.selects RX1 yX1_change yX1_change, Cond.code yX1_change cX1_change 3 none, Cond.methodLink RX4 188 yX4_reportChange, Cond.instanceMethod yX4_reportChange, Cond.selects RX4 yX4_reportChange yX4_reportChange, Cond.code yX4_reportChange cX4_reportChange 6 none, Cond.fieldLink RX4 95 "BuildingPoints$Subscription" "isOpen" "Z", Cond.fieldLink RX4 192 "BuildingPoints$Subscription" "point" "LBuildingPoints$Point;"]
def wsL_law0_r8 : List Cond := [Cond.fieldLink RX4 146 "BuildingPoints" "allReports" "I", Cond.methodLink RX4 193 yX3_isFarFrom, Cond.instanceMethod yX3_isFarFrom, Cond.selects RX3 yX3_isFarFrom yX3_isFarFrom, Cond.initialized RX3, Cond.code yX3_isFarFrom cX3_isFarFrom 2 (some .boolean), Cond.fieldLink RX3 25 "BuildingPoints$Subscription" "kept" "I", Cond.methodLink RX3 35 Lib.Math.abs.name, Cond.static Lib.Math.abs.name, Cond.initialized "java/lang/Math", Cond.code Lib.Math.abs.name Lib.Math.abs.code 1 (some .int), Cond.fieldLink RX3 13 "BuildingPoints$Subscription" "increment" "I", Cond.methodLink RX4 196 yX3_report, Cond.instanceMethod yX3_report, Cond.selects RX3 yX3_report yX3_report, Cond.code yX3_report cX3_report 2 none, Cond.fieldLink RX3 28 "BuildingPoints$Subscription" "reportCount" "I", Cond.methodLink RL 96 yX5_write, Cond.instanceMethod yX5_write, Cond.selects RX5 yX5_write yX5_write, Cond.code yX5_write cX5_write 6 (some .int), Cond.methodLink RX5 108 yX5_isPoint, Cond.instanceMethod yX5_isPoint, Cond.selects RX5 yX5_isPoint yX5_isPoint]
def wsL_law0_r9 : List Cond := [Cond.code yX5_isPoint cX5_isPoint 2 (some .boolean), Cond.methodLink RX5 112 yX5_canHave, Cond.instanceMethod yX5_canHave, Cond.selects RX5 yX5_canHave yX5_canHave, Cond.code yX5_canHave cX5_canHave 3 (some .boolean), Cond.methodLink RX5 116 yX5_sets, Cond.instanceMethod yX5_sets, Cond.selects RX5 yX5_sets yX5_sets, Cond.code yX5_sets cX5_sets 6 none, Cond.fieldLink RX5 101 "BuildingPointsModel" "clock" "I", Cond.methodLink RX5 98 yX5_valueOf, Cond.instanceMethod yX5_valueOf, Cond.selects RX5 yX5_valueOf yX5_valueOf, Cond.code yX5_valueOf cX5_valueOf 3 (some .int), Cond.methodLink RX5 88 yX5_standingOf, Cond.instanceMethod yX5_standingOf, Cond.selects RX5 yX5_standingOf yX5_standingOf, Cond.code yX5_standingOf cX5_standingOf 4 (some .int), Cond.methodLink RX5 104 yX5_informs, Cond.instanceMethod yX5_informs, Cond.selects RX5 yX5_informs yX5_informs, Cond.code yX5_informs cX5_informs 5 none, Cond.fieldLink RX5 92 "BuildingPointsModel" "subscriptions" "I", Cond.fieldLink RX5 95 "BuildingPointsModel" "told" "I"]
def wsL_law0_r10 : List Cond := [Cond.methodLink RL 97 yL_value, Cond.static yL_value, Cond.codeWith yL_value cL_value 4 (some .int) [(0, 9, 12, 25)], Cond.methodLink RL 27 yX4_value, Cond.instanceMethod yX4_value, Cond.selects RX4 yX4_value yX4_value, Cond.code yX4_value cX4_value 2 (some .int), Cond.methodLink RL 99 yX5_value, Cond.instanceMethod yX5_value, Cond.selects RX5 yX5_value yX5_value, Cond.code yX5_value cX5_value 2 (some .int), Cond.methodLink RL 100 yL_command, Cond.static yL_command, Cond.codeWith yL_command cL_command 5 (some .int) [(0, 10, 13, 25), (0, 10, 17, 13)], Cond.methodLink RL 30 yX4_command, Cond.instanceMethod yX4_command, Cond.selects RX4 yX4_command yX4_command, Cond.code yX4_command cX4_command 4 (some .int), Cond.methodLink RL 102 yX5_command, Cond.instanceMethod yX5_command, Cond.selects RX5 yX5_command yX5_command, Cond.code yX5_command cX5_command 3 (some .int), Cond.methodLink RL 103 yL_standing, Cond.static yL_standing]
def wsL_law0_r11 : List Cond := [Cond.codeWith yL_standing cL_standing 4 (some .int) [(0, 9, 12, 25)], Cond.methodLink RL 33 yX4_standing, Cond.instanceMethod yX4_standing, Cond.selects RX4 yX4_standing yX4_standing, Cond.code yX4_standing cX4_standing 2 (some .int), Cond.methodLink RX4 72 yX1_lowestCommanded, Cond.methodLink RL 105 yX5_standing, Cond.instanceMethod yX5_standing, Cond.selects RX5 yX5_standing yX5_standing, Cond.code yX5_standing cX5_standing 2 (some .int), Cond.methodLink RL 106 yL_held, Cond.static yL_held, Cond.codeWith yL_held cL_held 4 (some .int) [(0, 9, 12, 25)], Cond.methodLink RL 36 yX4_held, Cond.instanceMethod yX4_held, Cond.selects RX4 yX4_held yX4_held, Cond.code yX4_held cX4_held 3 (some .int), Cond.fieldLink RX4 76 "BuildingPoints$Point" "heldUntil" "I", Cond.methodLink RL 108 yX5_held, Cond.instanceMethod yX5_held, Cond.selects RX5 yX5_held yX5_held, Cond.code yX5_held cX5_held 2 (some .int), Cond.methodLink RL 109 yL_changes, Cond.static yL_changes]
def wsL_law0_r12 : List Cond := [Cond.codeWith yL_changes cL_changes 4 (some .int) [(0, 9, 12, 25)], Cond.methodLink RL 39 yX4_changes, Cond.instanceMethod yX4_changes, Cond.selects RX4 yX4_changes yX4_changes, Cond.code yX4_changes cX4_changes 2 (some .int), Cond.fieldLink RX4 82 "BuildingPoints$Point" "changeCount" "I", Cond.methodLink RL 111 yX5_changes, Cond.instanceMethod yX5_changes, Cond.selects RX5 yX5_changes yX5_changes, Cond.code yX5_changes cX5_changes 2 (some .int), Cond.methodLink RL 112 yL_subscribe, Cond.static yL_subscribe, Cond.codeWith yL_subscribe cL_subscribe 6 (some .int) [(0, 12, 15, 25), (0, 12, 19, 13), (0, 12, 23, 15)], Cond.methodLink RL 42 yX4_subscribe, Cond.instanceMethod yX4_subscribe, Cond.selects RX4 yX4_subscribe yX4_subscribe, Cond.code yX4_subscribe cX4_subscribe 5 (some .int), Cond.constant RX4 85 (100000), Cond.fieldLink RX4 86 "BuildingPoints" "subscriptionCount" "I", Cond.instantiable RX3 6, Cond.methodLink RX4 89 yX3_init, Cond.instanceMethod yX3_init, Cond.code yX3_init cX3_init 4 none, Cond.methodLink RX3 1 objectInit]
def wsL_law0_r13 : List Cond := [Cond.fieldLink RX3 7 "BuildingPoints$Subscription" "point" "LBuildingPoints$Point;", Cond.fieldLink RX3 17 "BuildingPoints$Subscription" "endTime" "I", Cond.fieldLink RX3 20 "BuildingPoints$Point" "present" "I", Cond.fieldLink RX3 31 "BuildingPoints$Subscription" "isOpen" "Z", Cond.methodLink RL 114 yX5_subscribe, Cond.instanceMethod yX5_subscribe, Cond.selects RX5 yX5_subscribe yX5_subscribe, Cond.code yX5_subscribe cX5_subscribe 5 (some .int), Cond.constant RX5 120 (100000), Cond.methodLink RL 115 yL_end, Cond.static yL_end, Cond.codeWith yL_end cL_end 3 (some .int) [(0, 5, 8, 25), (0, 5, 11, 15)], Cond.methodLink RL 45 yX4_end, Cond.instanceMethod yX4_end, Cond.selects RX4 yX4_end yX4_end, Cond.code yX4_end cX4_end 3 none, Cond.methodLink RX4 91 yX4_subscriptionAt, Cond.instanceMethod yX4_subscriptionAt, Cond.selects RX4 yX4_subscriptionAt yX4_subscriptionAt, Cond.code yX4_subscriptionAt cX4_subscriptionAt 2 (some (.object "BuildingPoints$Subscription")), Cond.methodLink RL 118 yX5_end, Cond.instanceMethod yX5_end, Cond.selects RX5 yX5_end yX5_end, Cond.code yX5_end cX5_end 3 none]
def wsL_law0_r14 : List Cond := [Cond.methodLink RX5 121 yX5_isSubscription, Cond.instanceMethod yX5_isSubscription, Cond.selects RX5 yX5_isSubscription yX5_isSubscription, Cond.code yX5_isSubscription cX5_isSubscription 2 (some .boolean), Cond.methodLink RL 119 yL_goesOn, Cond.static yL_goesOn, Cond.codeWith yL_goesOn cL_goesOn 4 (some .int) [(0, 16, 19, 25)], Cond.methodLink RL 49 yX4_goesOn, Cond.instanceMethod yX4_goesOn, Cond.selects RX4 yX4_goesOn yX4_goesOn, Cond.code yX4_goesOn cX4_goesOn 2 (some .boolean), Cond.methodLink RL 121 yX5_goesOn, Cond.instanceMethod yX5_goesOn, Cond.selects RX5 yX5_goesOn yX5_goesOn, Cond.code yX5_goesOn cX5_goesOn 2 (some .boolean), Cond.methodLink RL 122 yL_reports, Cond.static yL_reports, Cond.codeWith yL_reports cL_reports 4 (some .int) [(0, 9, 12, 25)], Cond.methodLink RL 53 yX4_reports, Cond.instanceMethod yX4_reports, Cond.selects RX4 yX4_reports yX4_reports, Cond.code yX4_reports cX4_reports 2 (some .int), Cond.fieldLink RX4 101 "BuildingPoints$Subscription" "reportCount" "I", Cond.methodLink RL 124 yX5_reports]
def wsL_law0_r15 : List Cond := [Cond.instanceMethod yX5_reports, Cond.selects RX5 yX5_reports yX5_reports, Cond.code yX5_reports cX5_reports 2 (some .int), Cond.methodLink RL 125 yL_reported, Cond.static yL_reported, Cond.codeWith yL_reported cL_reported 4 (some .int) [(0, 9, 12, 25)], Cond.methodLink RL 56 yX4_reported, Cond.instanceMethod yX4_reported, Cond.selects RX4 yX4_reported yX4_reported, Cond.code yX4_reported cX4_reported 2 (some .int), Cond.fieldLink RX4 104 "BuildingPoints$Subscription" "kept" "I", Cond.methodLink RL 127 yX5_reported, Cond.instanceMethod yX5_reported, Cond.selects RX5 yX5_reported yX5_reported, Cond.code yX5_reported cX5_reported 2 (some .int), Cond.methodLink RL 128 yL_addSchedule, Cond.static yL_addSchedule, Cond.codeWith yL_addSchedule cL_addSchedule 5 (some .int) [(0, 10, 13, 25), (0, 10, 17, 13), (0, 10, 21, 15)], Cond.methodLink RL 59 yX4_addSchedule, Cond.instanceMethod yX4_addSchedule, Cond.selects RX4 yX4_addSchedule yX4_addSchedule, Cond.code yX4_addSchedule cX4_addSchedule 4 (some .int), Cond.fieldLink RX4 107 "BuildingPoints" "scheduleCount" "I", Cond.instantiable RX2 5]
def wsL_law0_r16 : List Cond := [Cond.initialized RX2, Cond.methodLink RX4 110 yX2_init, Cond.instanceMethod yX2_init, Cond.code yX2_init cX2_init 3 none, Cond.methodLink RX2 3 objectInit, Cond.fieldLink RX2 9 "BuildingPoints$Schedule" "point" "LBuildingPoints$Point;", Cond.fieldLink RX2 15 "BuildingPoints$Schedule" "priority" "I", Cond.classLink RX2 19 RX0, Cond.instantiable RX0 4, Cond.initialized RX0, Cond.fieldLink RX2 22 "BuildingPoints$Schedule" "weekdays" "LBuildingPoints$Entries;", Cond.fieldLink RX2 26 "BuildingPoints$Schedule" "singleDays" "LBuildingPoints$Entries;", Cond.constant RX2 29 (-100000), Cond.fieldLink RX2 30 "BuildingPoints$Schedule" "toldLast" "I", Cond.methodLink RX2 21 yX0_init, Cond.instanceMethod yX0_init, Cond.code yX0_init cX0_init 1 none, Cond.methodLink RX0 3 objectInit, Cond.fieldLink RX0 9 "BuildingPoints$Entries" "days" "[I", Cond.fieldLink RX0 15 "BuildingPoints$Entries" "minutes" "[I", Cond.fieldLink RX0 18 "BuildingPoints$Entries" "told" "[I", Cond.fieldLink RX0 21 "BuildingPoints$Entries" "count" "I", Cond.methodLink RL 130 yX5_addSchedule, Cond.instanceMethod yX5_addSchedule]
def wsL_law0_r17 : List Cond := [Cond.selects RX5 yX5_addSchedule yX5_addSchedule, Cond.code yX5_addSchedule cX5_addSchedule 3 (some .int), Cond.fieldLink RX5 124 "BuildingPointsModel" "schedules" "I", Cond.methodLink RL 131 yL_weekly, Cond.static yL_weekly, Cond.codeWith yL_weekly cL_weekly 7 (some .int) [(0, 14, 17, 25), (0, 14, 21, 13), (0, 14, 25, 15)], Cond.methodLink RL 62 yX4_weekly, Cond.instanceMethod yX4_weekly, Cond.selects RX4 yX4_weekly yX4_weekly, Cond.code yX4_weekly cX4_weekly 6 (some .int), Cond.fieldLink RX4 120 "BuildingPoints$Schedule" "weekdays" "LBuildingPoints$Entries;", Cond.fieldLink RX4 133 "BuildingPoints$Schedule" "toldLast" "I", Cond.methodLink RX4 112 yX4_scheduleAt, Cond.instanceMethod yX4_scheduleAt, Cond.selects RX4 yX4_scheduleAt yX4_scheduleAt, Cond.code yX4_scheduleAt cX4_scheduleAt 2 (some (.object "BuildingPoints$Schedule")), Cond.methodLink RX4 116 yX4_requireEntry, Cond.static yX4_requireEntry, Cond.code yX4_requireEntry cX4_requireEntry 3 none, Cond.fieldLink RX4 166 "BuildingPoints$Schedule" "point" "LBuildingPoints$Point;", Cond.methodLink RX4 170 yX2_entryCount, Cond.instanceMethod yX2_entryCount, Cond.selects RX2 yX2_entryCount yX2_entryCount, Cond.code yX2_entryCount cX2_entryCount 1 (some .int)]
def wsL_law0_r18 : List Cond := [Cond.fieldLink RX2 33 "BuildingPoints$Entries" "count" "I", Cond.methodLink RX4 124 yX0_add, Cond.instanceMethod yX0_add, Cond.selects RX0 yX0_add yX0_add, Cond.code yX0_add cX0_add 4 none, Cond.methodLink RX4 129 yX4_follow, Cond.instanceMethod yX4_follow, Cond.selects RX4 yX4_follow yX4_follow, Cond.code yX4_follow cX4_follow 3 none, Cond.fieldLink RX4 200 "BuildingPoints$Schedule" "priority" "I", Cond.methodLink RX4 140 yX2_toldAt, Cond.instanceMethod yX2_toldAt, Cond.selects RX2 yX2_toldAt yX2_toldAt, Cond.code yX2_toldAt cX2_toldAt 4 (some .int), Cond.methodLink RX2 36 yX0_hasDay, Cond.instanceMethod yX0_hasDay, Cond.selects RX0 yX0_hasDay yX0_hasDay, Cond.code yX0_hasDay cX0_hasDay 3 (some .boolean), Cond.methodLink RX2 40 yX0_latest, Cond.instanceMethod yX0_latest, Cond.selects RX0 yX0_latest yX0_latest, Cond.code yX0_latest cX0_latest 6 (some .int), Cond.constant RX0 25 (-100000), Cond.methodLink RL 134 yX5_weekly]
def wsL_law0_r19 : List Cond := [Cond.instanceMethod yX5_weekly, Cond.selects RX5 yX5_weekly yX5_weekly, Cond.code yX5_weekly cX5_weekly 7 (some .int), Cond.methodLink RX5 135 yX5_isSchedule, Cond.instanceMethod yX5_isSchedule, Cond.selects RX5 yX5_isSchedule yX5_isSchedule, Cond.code yX5_isSchedule cX5_isSchedule 2 (some .boolean), Cond.methodLink RX5 138 yX5_enters, Cond.instanceMethod yX5_enters, Cond.selects RX5 yX5_enters yX5_enters, Cond.code yX5_enters cX5_enters 6 (some .int), Cond.methodLink RX5 131 yX5_obeys, Cond.instanceMethod yX5_obeys, Cond.selects RX5 yX5_obeys yX5_obeys, Cond.code yX5_obeys cX5_obeys 3 none, Cond.methodLink RX5 127 yX5_toldBy, Cond.instanceMethod yX5_toldBy, Cond.selects RX5 yX5_toldBy yX5_toldBy, Cond.code yX5_toldBy cX5_toldBy 10 (some .int), Cond.methodLink RL 135 yL_once, Cond.static yL_once, Cond.codeWith yL_once cL_once 7 (some .int) [(0, 14, 17, 25), (0, 14, 21, 13), (0, 14, 25, 15)], Cond.methodLink RL 66 yX4_once, Cond.instanceMethod yX4_once]
def wsL_law0_r20 : List Cond := [Cond.selects RX4 yX4_once yX4_once, Cond.code yX4_once cX4_once 6 (some .int), Cond.fieldLink RX4 136 "BuildingPoints$Schedule" "singleDays" "LBuildingPoints$Entries;", Cond.methodLink RL 137 yX5_once, Cond.instanceMethod yX5_once, Cond.selects RX5 yX5_once yX5_once, Cond.code yX5_once cX5_once 7 (some .int), Cond.methodLink RL 138 yL_tells, Cond.static yL_tells, Cond.codeWith yL_tells cL_tells 5 (some .int) [(0, 10, 13, 25), (0, 10, 17, 13)], Cond.methodLink RL 69 yX4_tells, Cond.instanceMethod yX4_tells, Cond.selects RX4 yX4_tells yX4_tells, Cond.code yX4_tells cX4_tells 4 (some .int), Cond.constant RX4 139 (1000000), Cond.methodLink RL 140 yX5_tells, Cond.instanceMethod yX5_tells, Cond.selects RX5 yX5_tells yX5_tells, Cond.code yX5_tells cX5_tells 3 (some .int), Cond.constant RX5 142 (1000000), Cond.methodLink RL 141 yL_pass, Cond.static yL_pass, Cond.codeWith yL_pass cL_pass 4 (some .int) [(0, 9, 12, 13), (0, 9, 15, 15)], Cond.methodLink RL 72 yX4_pass]
def wsL_law0_r21 : List Cond := [Cond.instanceMethod yX4_pass, Cond.selects RX4 yX4_pass yX4_pass, Cond.code yX4_pass cX4_pass 4 (some .int), Cond.methodLink RX4 149 yX4_passMinute, Cond.instanceMethod yX4_passMinute, Cond.selects RX4 yX4_passMinute yX4_passMinute, Cond.code yX4_passMinute cX4_passMinute 1 none, Cond.methodLink RX4 203 yX4_releaseHeldCommands, Cond.instanceMethod yX4_releaseHeldCommands, Cond.selects RX4 yX4_releaseHeldCommands yX4_releaseHeldCommands, Cond.code yX4_releaseHeldCommands cX4_releaseHeldCommands 5 none, Cond.methodLink RX4 206 yX4_endOldSubscriptions, Cond.instanceMethod yX4_endOldSubscriptions, Cond.selects RX4 yX4_endOldSubscriptions yX4_endOldSubscriptions, Cond.code yX4_endOldSubscriptions cX4_endOldSubscriptions 5 none, Cond.fieldLink RX4 212 "BuildingPoints$Subscription" "endTime" "I", Cond.methodLink RX4 209 yX4_followSchedules, Cond.instanceMethod yX4_followSchedules, Cond.selects RX4 yX4_followSchedules yX4_followSchedules, Cond.code yX4_followSchedules cX4_followSchedules 5 none, Cond.methodLink RL 143 yX5_pass, Cond.instanceMethod yX5_pass, Cond.selects RX5 yX5_pass yX5_pass, Cond.code yX5_pass cX5_pass 4 (some .int)]
def wsL_law0_r22 : List Cond := [Cond.methodLink RX5 143 yX5_minutes, Cond.instanceMethod yX5_minutes, Cond.selects RX5 yX5_minutes yX5_minutes, Cond.code yX5_minutes cX5_minutes 2 none, Cond.methodLink RL 144 yX4_clock, Cond.instanceMethod yX4_clock, Cond.selects RX4 yX4_clock yX4_clock, Cond.code yX4_clock cX4_clock 1 (some .int), Cond.methodLink RL 147 yX5_clock, Cond.instanceMethod yX5_clock, Cond.selects RX5 yX5_clock yX5_clock, Cond.code yX5_clock cX5_clock 1 (some .int)]
def wsL_law0 : List Cond := (wsL_law0_r1 ++ (wsL_law0_r2 ++ (wsL_law0_r3 ++ (wsL_law0_r4 ++ (wsL_law0_r5 ++ (wsL_law0_r6 ++ (wsL_law0_r7 ++ (wsL_law0_r8 ++ (wsL_law0_r9 ++ (wsL_law0_r10 ++ (wsL_law0_r11 ++ (wsL_law0_r12 ++ (wsL_law0_r13 ++ (wsL_law0_r14 ++ (wsL_law0_r15 ++ (wsL_law0_r16 ++ (wsL_law0_r17 ++ (wsL_law0_r18 ++ (wsL_law0_r19 ++ (wsL_law0_r20 ++ (wsL_law0_r21 ++ wsL_law0_r22))))))))))))))))))))) ++ wsX40 ++ wsX50 ++ wsX10 ++ wsX30 ++ wsX20 ++ wsX00 ++ ([] : List Cond)
def wsL_law : List Cond := wsL_law0 ++ (vx_atS RX4 156 "java/lang/IllegalArgumentException" ["java/lang/RuntimeException", "java/lang/Exception"]).filter goodWord ++ (vx_atS RX4 58 "java/lang/IllegalStateException" ["java/lang/RuntimeException", "java/lang/Exception"]).filter goodWord ++ (vx_atS RX4 177 "java/lang/IndexOutOfBoundsException" ["java/lang/RuntimeException", "java/lang/Exception"]).filter goodWord
abbrev vwCl : List vw_C := [(RX0, TX0, 4), (RX1, TX1, 8), (RX2, TX2, 5), (RX3, TX3, 6), (RX4, TX4, 8), (RX5, TX5, 25)]
end
section
set_option maxRecDepth 20000 in
theorem ggX1_init_J7_fill_53178 : GoodIn wsX1_init wsJ7_fill_53178 := goodIn_r _ [17] (by decide +kernel) (by decide +kernel)
set_option maxRecDepth 20000 in
theorem gX1_init_J7_fill_53178 : GoodIn wsX1_init (va_wsS RX1 29 yJ7_fill_53178 wsJ7_fill_53178) := goodIn_app (goodIn_of _ (by decide +kernel)) ggX1_init_J7_fill_53178
set_option maxRecDepth 20000 in
theorem ggX1_dueValue_X1_lowestCommanded : GoodIn wsX1_dueValue wsX1_lowestCommanded := goodIn_r _ [7, 1, 8, 9, 10, 11, 12, 13, 14, 15, 16] (by decide +kernel) (by decide +kernel)
set_option maxRecDepth 20000 in
theorem gX1_dueValue_X1_lowestCommanded : GoodIn wsX1_dueValue (wsV RX1 44 RX1 yX1_lowestCommanded wsX1_lowestCommanded) := goodIn_app (goodIn_of _ (by decide +kernel)) ggX1_dueValue_X1_lowestCommanded
set_option maxRecDepth 20000 in
theorem ggX2_init_X0_init : GoodIn wsX2_init wsX0_init := goodIn_r _ [15, 16, 2, 3, 17, 18, 19, 20, 21, 27, 28, 29, 30] (by decide +kernel) (by decide +kernel)
set_option maxRecDepth 20000 in
theorem gX2_init_X0_init : GoodIn wsX2_init (wsX0_init) := ggX2_init_X0_init
set_option maxRecDepth 20000 in
theorem ggX2_toldAt_X0_hasDay : GoodIn wsX2_toldAt wsX0_hasDay := goodIn_r _ [7, 8, 9, 22, 23, 24, 25] (by decide +kernel) (by decide +kernel)
set_option maxRecDepth 20000 in
theorem gX2_toldAt_X0_hasDay : GoodIn wsX2_toldAt (wsV RX2 36 RX0 yX0_hasDay wsX0_hasDay) := goodIn_app (goodIn_of _ (by decide +kernel)) ggX2_toldAt_X0_hasDay
set_option maxRecDepth 20000 in
theorem ggX2_toldAt_X0_latest : GoodIn wsX2_toldAt wsX0_latest := goodIn_r _ [13, 14, 8, 9, 15, 16, 22, 23, 24, 25] (by decide +kernel) (by decide +kernel)
set_option maxRecDepth 20000 in
theorem gX2_toldAt_X0_latest : GoodIn wsX2_toldAt (wsV RX2 40 RX0 yX0_latest wsX0_latest) := goodIn_app (goodIn_of _ (by decide +kernel)) ggX2_toldAt_X0_latest
set_option maxRecDepth 20000 in
theorem ggX4_addMeasure_X4_requireWithin : GoodIn wsX4_addMeasure wsX4_requireWithin := goodIn_ca (goodIn_r _ [9, 10, 11] (by decide +kernel) (by decide +kernel)) (goodIn_sub (fun _ h => List.mem_cons_of_mem _ (List.mem_append_left _ (List.mem_append_right _ h))) (by decide +kernel))
set_option maxRecDepth 20000 in
theorem gX4_addMeasure_X4_requireWithin : GoodIn wsX4_addMeasure (va_wsS RX4 27 yX4_requireWithin wsX4_requireWithin) := goodIn_app (goodIn_of _ (by decide +kernel)) ggX4_addMeasure_X4_requireWithin
set_option maxRecDepth 20000 in
theorem ggX4_addMeasure_X4_requireRoom : GoodIn wsX4_addMeasure wsX4_requireRoom := goodIn_ca (goodIn_r _ [14, 15, 16] (by decide +kernel) (by decide +kernel)) (goodIn_sub (fun _ h => List.mem_cons_of_mem _ (List.mem_append_right _ h)) (by decide +kernel))
set_option maxRecDepth 20000 in
theorem gX4_addMeasure_X4_requireRoom : GoodIn wsX4_addMeasure (va_wsS RX4 35 yX4_requireRoom wsX4_requireRoom) := goodIn_app (goodIn_of _ (by decide +kernel)) ggX4_addMeasure_X4_requireRoom
set_option maxRecDepth 20000 in
theorem ggX4_addMeasure_X1_init : GoodIn wsX4_addMeasure wsX1_init := goodIn_r _ [19, 20, 21, 22, 23, 24, 25, 26, 27, 28, 29, 30, 31, 32, 33, 34, 35, 36, 45, 46, 47, 48, 49, 50, 51, 52] (by decide +kernel) (by decide +kernel)
set_option maxRecDepth 20000 in
theorem gX4_addMeasure_X1_init : GoodIn wsX4_addMeasure (wsX1_init) := ggX4_addMeasure_X1_init
set_option maxRecDepth 20000 in
theorem ggX4_addSwitch_X4_requireWithin : GoodIn wsX4_addSwitch wsX4_requireWithin := goodIn_ca (goodIn_r _ [9, 10, 11] (by decide +kernel) (by decide +kernel)) (goodIn_sub (fun _ h => List.mem_cons_of_mem _ (List.mem_append_left _ (List.mem_append_right _ h))) (by decide +kernel))
set_option maxRecDepth 20000 in
theorem gX4_addSwitch_X4_requireWithin : GoodIn wsX4_addSwitch (va_wsS RX4 27 yX4_requireWithin wsX4_requireWithin) := goodIn_app (goodIn_of _ (by decide +kernel)) ggX4_addSwitch_X4_requireWithin
set_option maxRecDepth 20000 in
theorem ggX4_addSwitch_X4_requireRoom : GoodIn wsX4_addSwitch wsX4_requireRoom := goodIn_ca (goodIn_r _ [14, 15, 16] (by decide +kernel) (by decide +kernel)) (goodIn_sub (fun _ h => List.mem_cons_of_mem _ (List.mem_append_right _ h)) (by decide +kernel))
set_option maxRecDepth 20000 in
theorem gX4_addSwitch_X4_requireRoom : GoodIn wsX4_addSwitch (va_wsS RX4 35 yX4_requireRoom wsX4_requireRoom) := goodIn_app (goodIn_of _ (by decide +kernel)) ggX4_addSwitch_X4_requireRoom
set_option maxRecDepth 20000 in
theorem ggX4_addSwitch_X1_init : GoodIn wsX4_addSwitch wsX1_init := goodIn_r _ [19, 20, 21, 22, 23, 24, 25, 26, 27, 28, 29, 30, 31, 32, 33, 34, 35, 36, 45, 46, 47, 48, 49, 50, 51, 52] (by decide +kernel) (by decide +kernel)
set_option maxRecDepth 20000 in
theorem gX4_addSwitch_X1_init : GoodIn wsX4_addSwitch (wsX1_init) := ggX4_addSwitch_X1_init
set_option maxRecDepth 20000 in
theorem ggX4_write_X4_pointAt : GoodIn wsX4_write wsX4_pointAt := goodIn_ca (goodIn_r _ [8, 9, 10, 11, 89, 90, 91, 92, 93, 94, 95, 96] (by decide +kernel) (by decide +kernel)) (goodIn_sub (fun _ h => List.mem_cons_of_mem _ (List.mem_append_left _ (List.mem_append_right _ h))) (by decide +kernel))
set_option maxRecDepth 20000 in
theorem gX4_write_X4_pointAt : GoodIn wsX4_write (wsV RX4 42 RX4 yX4_pointAt wsX4_pointAt) := goodIn_app (goodIn_of _ (by decide +kernel)) ggX4_write_X4_pointAt
set_option maxRecDepth 20000 in
theorem ggX4_write_X4_requireWithin : GoodIn wsX4_write wsX4_requireWithin := goodIn_ca (goodIn_r _ [14, 15, 16] (by decide +kernel) (by decide +kernel)) (goodIn_sub (fun _ h => List.mem_cons_of_mem _ (List.mem_append_right _ h)) (by decide +kernel))
set_option maxRecDepth 20000 in
theorem gX4_write_X4_requireWithin : GoodIn wsX4_write (va_wsS RX4 27 yX4_requireWithin wsX4_requireWithin) := goodIn_app (goodIn_of _ (by decide +kernel)) ggX4_write_X4_requireWithin
set_option maxRecDepth 20000 in
theorem ggX4_write_X4_requireCommand : GoodIn wsX4_write wsX4_requireCommand := goodIn_ca (goodIn_r _ [19, 15, 16, 20, 21, 22, 23, 24, 25, 26, 27, 81, 82, 83, 84, 85, 86, 87, 88] (by decide +kernel) (by decide +kernel)) (goodIn_sub (fun _ h => List.mem_cons_of_mem _ (List.mem_append_right _ h)) (by decide +kernel))
set_option maxRecDepth 20000 in
theorem gX4_write_X4_requireCommand : GoodIn wsX4_write (va_wsS RX4 46 yX4_requireCommand wsX4_requireCommand) := goodIn_app (goodIn_of _ (by decide +kernel)) ggX4_write_X4_requireCommand
set_option maxRecDepth 20000 in
theorem ggX4_write_X1_isHeld : GoodIn wsX4_write wsX1_isHeld := goodIn_r _ [31, 32, 81, 82, 83, 84, 85, 86, 87, 88] (by decide +kernel) (by decide +kernel)
set_option maxRecDepth 20000 in
theorem gX4_write_X1_isHeld : GoodIn wsX4_write (wsV RX4 50 RX1 yX1_isHeld wsX1_isHeld) := goodIn_app (goodIn_of _ (by decide +kernel)) ggX4_write_X1_isHeld
set_option maxRecDepth 20000 in
theorem ggX4_write_X4_put : GoodIn wsX4_write wsX4_put := goodIn_r _ [36, 37, 3, 38, 39, 40, 41, 24, 42, 43, 44, 45, 46, 47, 48, 49, 50, 51, 52, 53, 54, 55, 56, 32, 57, 58, 59, 7, 60, 61, 62, 63, 64, 65, 66, 67, 68, 69, 70, 71, 72, 73, 74, 75, 76, 77, 78, 79, 80, 81, 82, 83, 84, 85, 86, 87, 88, 89, 90, 91, 92, 93, 94, 95, 96, 97, 98, 99, 100, 101, 102] (by decide +kernel) (by decide +kernel)
set_option maxRecDepth 20000 in
theorem gX4_write_X4_put : GoodIn wsX4_write (wsV RX4 61 RX4 yX4_put wsX4_put) := goodIn_app (goodIn_of _ (by decide +kernel)) ggX4_write_X4_put
set_option maxRecDepth 20000 in
theorem ggX4_value_X4_pointAt : GoodIn wsX4_value wsX4_pointAt := goodIn_ca (goodIn_r _ [6, 7, 8, 9, 18, 19, 20, 21, 22, 23, 24, 25] (by decide +kernel) (by decide +kernel)) (goodIn_sub (fun _ h => List.mem_cons_of_mem _ (List.mem_append_right _ h)) (by decide +kernel))
set_option maxRecDepth 20000 in
theorem gX4_value_X4_pointAt : GoodIn wsX4_value (wsV RX4 42 RX4 yX4_pointAt wsX4_pointAt) := goodIn_app (goodIn_of _ (by decide +kernel)) ggX4_value_X4_pointAt
set_option maxRecDepth 20000 in
theorem ggX4_command_X4_pointAt : GoodIn wsX4_command wsX4_pointAt := goodIn_ca (goodIn_r _ [6, 7, 8, 9, 23, 24, 25, 26, 27, 28, 29, 30] (by decide +kernel) (by decide +kernel)) (goodIn_sub (fun _ h => List.mem_cons_of_mem _ (List.mem_append_left _ (List.mem_append_right _ h))) (by decide +kernel))
set_option maxRecDepth 20000 in
theorem gX4_command_X4_pointAt : GoodIn wsX4_command (wsV RX4 42 RX4 yX4_pointAt wsX4_pointAt) := goodIn_app (goodIn_of _ (by decide +kernel)) ggX4_command_X4_pointAt
set_option maxRecDepth 20000 in
theorem ggX4_command_X4_requireWithin : GoodIn wsX4_command wsX4_requireWithin := goodIn_ca (goodIn_r _ [12, 13, 14] (by decide +kernel) (by decide +kernel)) (goodIn_sub (fun _ h => List.mem_cons_of_mem _ (List.mem_append_right _ h)) (by decide +kernel))
set_option maxRecDepth 20000 in
theorem gX4_command_X4_requireWithin : GoodIn wsX4_command (va_wsS RX4 27 yX4_requireWithin wsX4_requireWithin) := goodIn_app (goodIn_of _ (by decide +kernel)) ggX4_command_X4_requireWithin
set_option maxRecDepth 20000 in
theorem ggX4_standing_X4_pointAt : GoodIn wsX4_standing wsX4_pointAt := goodIn_ca (goodIn_r _ [5, 6, 7, 8, 16, 17, 18, 19, 20, 21, 22, 23] (by decide +kernel) (by decide +kernel)) (goodIn_sub (fun _ h => List.mem_cons_of_mem _ (List.mem_append_right _ h)) (by decide +kernel))
set_option maxRecDepth 20000 in
theorem gX4_standing_X4_pointAt : GoodIn wsX4_standing (wsV RX4 42 RX4 yX4_pointAt wsX4_pointAt) := goodIn_app (goodIn_of _ (by decide +kernel)) ggX4_standing_X4_pointAt
set_option maxRecDepth 20000 in
theorem ggX4_standing_X1_lowestCommanded : GoodIn wsX4_standing wsX1_lowestCommanded := goodIn_r _ [13, 14, 15, 24, 25, 26, 27, 28, 29, 30, 31] (by decide +kernel) (by decide +kernel)
set_option maxRecDepth 20000 in
theorem gX4_standing_X1_lowestCommanded : GoodIn wsX4_standing (wsV RX4 72 RX1 yX1_lowestCommanded wsX1_lowestCommanded) := goodIn_app (goodIn_of _ (by decide +kernel)) ggX4_standing_X1_lowestCommanded
set_option maxRecDepth 20000 in
theorem ggX4_held_X4_pointAt : GoodIn wsX4_held wsX4_pointAt := goodIn_ca (goodIn_r _ [7, 8, 9, 10, 25, 26, 27, 28, 29, 30, 31, 32] (by decide +kernel) (by decide +kernel)) (goodIn_sub (fun _ h => List.mem_cons_of_mem _ (List.mem_append_right _ h)) (by decide +kernel))
set_option maxRecDepth 20000 in
theorem gX4_held_X4_pointAt : GoodIn wsX4_held (wsV RX4 42 RX4 yX4_pointAt wsX4_pointAt) := goodIn_app (goodIn_of _ (by decide +kernel)) ggX4_held_X4_pointAt
set_option maxRecDepth 20000 in
theorem ggX4_held_X1_isHeld : GoodIn wsX4_held wsX1_isHeld := goodIn_r _ [15, 16, 17, 18, 19, 20, 21, 22, 23, 24] (by decide +kernel) (by decide +kernel)
set_option maxRecDepth 20000 in
theorem gX4_held_X1_isHeld : GoodIn wsX4_held (wsV RX4 50 RX1 yX1_isHeld wsX1_isHeld) := goodIn_app (goodIn_of _ (by decide +kernel)) ggX4_held_X1_isHeld
set_option maxRecDepth 20000 in
theorem ggX4_changes_X4_pointAt : GoodIn wsX4_changes wsX4_pointAt := goodIn_ca (goodIn_r _ [6, 7, 8, 9, 18, 19, 20, 21, 22, 23, 24, 25] (by decide +kernel) (by decide +kernel)) (goodIn_sub (fun _ h => List.mem_cons_of_mem _ (List.mem_append_right _ h)) (by decide +kernel))
set_option maxRecDepth 20000 in
theorem gX4_changes_X4_pointAt : GoodIn wsX4_changes (wsV RX4 42 RX4 yX4_pointAt wsX4_pointAt) := goodIn_app (goodIn_of _ (by decide +kernel)) ggX4_changes_X4_pointAt
set_option maxRecDepth 20000 in
theorem ggX4_subscribe_X4_pointAt : GoodIn wsX4_subscribe wsX4_pointAt := goodIn_ca (goodIn_r _ [12, 13, 14, 15, 39, 40, 41, 42, 43, 44, 45, 46] (by decide +kernel) (by decide +kernel)) (goodIn_sub (fun _ h => List.mem_cons_of_mem _ (List.mem_append_left _ (List.mem_append_left _ (List.mem_append_right _ h)))) (by decide +kernel))
set_option maxRecDepth 20000 in
theorem gX4_subscribe_X4_pointAt : GoodIn wsX4_subscribe (wsV RX4 42 RX4 yX4_pointAt wsX4_pointAt) := goodIn_app (goodIn_of _ (by decide +kernel)) ggX4_subscribe_X4_pointAt
set_option maxRecDepth 20000 in
theorem ggX4_subscribe_X4_requireWithin : GoodIn wsX4_subscribe wsX4_requireWithin := goodIn_ca (goodIn_r _ [18, 19, 20] (by decide +kernel) (by decide +kernel)) (goodIn_sub (fun _ h => List.mem_cons_of_mem _ (List.mem_append_left _ (List.mem_append_right _ h))) (by decide +kernel))
set_option maxRecDepth 20000 in
theorem gX4_subscribe_X4_requireWithin : GoodIn wsX4_subscribe (va_wsS RX4 27 yX4_requireWithin wsX4_requireWithin) := goodIn_app (goodIn_of _ (by decide +kernel)) ggX4_subscribe_X4_requireWithin
set_option maxRecDepth 20000 in
theorem ggX4_subscribe_X4_requireRoom : GoodIn wsX4_subscribe wsX4_requireRoom := goodIn_ca (goodIn_r _ [23, 24, 25] (by decide +kernel) (by decide +kernel)) (goodIn_sub (fun _ h => List.mem_cons_of_mem _ (List.mem_append_right _ h)) (by decide +kernel))
set_option maxRecDepth 20000 in
theorem gX4_subscribe_X4_requireRoom : GoodIn wsX4_subscribe (va_wsS RX4 35 yX4_requireRoom wsX4_requireRoom) := goodIn_app (goodIn_of _ (by decide +kernel)) ggX4_subscribe_X4_requireRoom
set_option maxRecDepth 20000 in
theorem ggX4_subscribe_X3_init : GoodIn wsX4_subscribe wsX3_init := goodIn_r _ [28, 29, 30, 31, 32, 33, 34, 35, 36, 37, 38, 47, 48, 49, 50, 51, 52, 53, 54, 55, 56, 57, 58, 59, 60] (by decide +kernel) (by decide +kernel)
set_option maxRecDepth 20000 in
theorem gX4_subscribe_X3_init : GoodIn wsX4_subscribe (wsX3_init) := ggX4_subscribe_X3_init
set_option maxRecDepth 20000 in
theorem ggX4_end_X4_subscriptionAt : GoodIn wsX4_end wsX4_subscriptionAt := goodIn_ca (goodIn_r _ [8, 9, 10, 11, 18, 19, 20, 21, 22, 23, 24, 25] (by decide +kernel) (by decide +kernel)) (goodIn_sub (fun _ h => List.mem_cons_of_mem _ (List.mem_append_right _ h)) (by decide +kernel))
set_option maxRecDepth 20000 in
theorem gX4_end_X4_subscriptionAt : GoodIn wsX4_end (wsV RX4 91 RX4 yX4_subscriptionAt wsX4_subscriptionAt) := goodIn_app (goodIn_of _ (by decide +kernel)) ggX4_end_X4_subscriptionAt
set_option maxRecDepth 20000 in
theorem ggX4_goesOn_X4_subscriptionAt : GoodIn wsX4_goesOn wsX4_subscriptionAt := goodIn_ca (goodIn_r _ [6, 7, 8, 9, 16, 17, 18, 19, 20, 21, 22, 23] (by decide +kernel) (by decide +kernel)) (goodIn_sub (fun _ h => List.mem_cons_of_mem _ (List.mem_append_right _ h)) (by decide +kernel))
set_option maxRecDepth 20000 in
theorem gX4_goesOn_X4_subscriptionAt : GoodIn wsX4_goesOn (wsV RX4 91 RX4 yX4_subscriptionAt wsX4_subscriptionAt) := goodIn_app (goodIn_of _ (by decide +kernel)) ggX4_goesOn_X4_subscriptionAt
set_option maxRecDepth 20000 in
theorem ggX4_reports_X4_subscriptionAt : GoodIn wsX4_reports wsX4_subscriptionAt := goodIn_ca (goodIn_r _ [6, 7, 8, 9, 16, 17, 18, 19, 20, 21, 22, 23] (by decide +kernel) (by decide +kernel)) (goodIn_sub (fun _ h => List.mem_cons_of_mem _ (List.mem_append_right _ h)) (by decide +kernel))
set_option maxRecDepth 20000 in
theorem gX4_reports_X4_subscriptionAt : GoodIn wsX4_reports (wsV RX4 91 RX4 yX4_subscriptionAt wsX4_subscriptionAt) := goodIn_app (goodIn_of _ (by decide +kernel)) ggX4_reports_X4_subscriptionAt
set_option maxRecDepth 20000 in
theorem ggX4_reported_X4_subscriptionAt : GoodIn wsX4_reported wsX4_subscriptionAt := goodIn_ca (goodIn_r _ [6, 7, 8, 9, 16, 17, 18, 19, 20, 21, 22, 23] (by decide +kernel) (by decide +kernel)) (goodIn_sub (fun _ h => List.mem_cons_of_mem _ (List.mem_append_right _ h)) (by decide +kernel))
set_option maxRecDepth 20000 in
theorem gX4_reported_X4_subscriptionAt : GoodIn wsX4_reported (wsV RX4 91 RX4 yX4_subscriptionAt wsX4_subscriptionAt) := goodIn_app (goodIn_of _ (by decide +kernel)) ggX4_reported_X4_subscriptionAt
set_option maxRecDepth 20000 in
theorem ggX4_addSchedule_X4_pointAt : GoodIn wsX4_addSchedule wsX4_pointAt := goodIn_ca (goodIn_r _ [10, 11, 12, 13, 48, 49, 50, 51, 52, 53, 54, 55] (by decide +kernel) (by decide +kernel)) (goodIn_sub (fun _ h => List.mem_cons_of_mem _ (List.mem_append_left _ (List.mem_append_left _ (List.mem_append_right _ h)))) (by decide +kernel))
set_option maxRecDepth 20000 in
theorem gX4_addSchedule_X4_pointAt : GoodIn wsX4_addSchedule (wsV RX4 42 RX4 yX4_pointAt wsX4_pointAt) := goodIn_app (goodIn_of _ (by decide +kernel)) ggX4_addSchedule_X4_pointAt
set_option maxRecDepth 20000 in
theorem ggX4_addSchedule_X4_requireWithin : GoodIn wsX4_addSchedule wsX4_requireWithin := goodIn_ca (goodIn_r _ [16, 17, 18] (by decide +kernel) (by decide +kernel)) (goodIn_sub (fun _ h => List.mem_cons_of_mem _ (List.mem_append_left _ (List.mem_append_right _ h))) (by decide +kernel))
set_option maxRecDepth 20000 in
theorem gX4_addSchedule_X4_requireWithin : GoodIn wsX4_addSchedule (va_wsS RX4 27 yX4_requireWithin wsX4_requireWithin) := goodIn_app (goodIn_of _ (by decide +kernel)) ggX4_addSchedule_X4_requireWithin
set_option maxRecDepth 20000 in
theorem ggX4_addSchedule_X4_requireRoom : GoodIn wsX4_addSchedule wsX4_requireRoom := goodIn_ca (goodIn_r _ [21, 22, 23] (by decide +kernel) (by decide +kernel)) (goodIn_sub (fun _ h => List.mem_cons_of_mem _ (List.mem_append_right _ h)) (by decide +kernel))
set_option maxRecDepth 20000 in
theorem gX4_addSchedule_X4_requireRoom : GoodIn wsX4_addSchedule (va_wsS RX4 35 yX4_requireRoom wsX4_requireRoom) := goodIn_app (goodIn_of _ (by decide +kernel)) ggX4_addSchedule_X4_requireRoom
set_option maxRecDepth 20000 in
theorem ggX4_addSchedule_X2_init : GoodIn wsX4_addSchedule wsX2_init := goodIn_r _ [26, 27, 28, 29, 30, 31, 32, 33, 34, 35, 36, 37, 38, 39, 40, 41, 42, 43, 44, 45, 46, 47, 56, 57, 58, 59, 60, 61, 62, 63, 64] (by decide +kernel) (by decide +kernel)
set_option maxRecDepth 20000 in
theorem gX4_addSchedule_X2_init : GoodIn wsX4_addSchedule (wsX2_init) := ggX4_addSchedule_X2_init
set_option maxRecDepth 20000 in
theorem ggX4_weekly_X4_scheduleAt : GoodIn wsX4_weekly wsX4_scheduleAt := goodIn_ca (goodIn_r _ [7, 8, 9, 10, 126, 127, 128, 129, 130, 131, 132, 133] (by decide +kernel) (by decide +kernel)) (goodIn_sub (fun _ h => List.mem_cons_of_mem _ (List.mem_append_left _ (List.mem_append_left _ (List.mem_append_right _ h)))) (by decide +kernel))
set_option maxRecDepth 20000 in
theorem gX4_weekly_X4_scheduleAt : GoodIn wsX4_weekly (wsV RX4 112 RX4 yX4_scheduleAt wsX4_scheduleAt) := goodIn_app (goodIn_of _ (by decide +kernel)) ggX4_weekly_X4_scheduleAt
set_option maxRecDepth 20000 in
theorem ggX4_weekly_X4_requireWithin : GoodIn wsX4_weekly wsX4_requireWithin := goodIn_ca (goodIn_r _ [13, 14, 15] (by decide +kernel) (by decide +kernel)) (goodIn_sub (fun _ h => List.mem_cons_of_mem _ (List.mem_append_left _ (List.mem_append_right _ h))) (by decide +kernel))
set_option maxRecDepth 20000 in
theorem gX4_weekly_X4_requireWithin : GoodIn wsX4_weekly (va_wsS RX4 27 yX4_requireWithin wsX4_requireWithin) := goodIn_app (goodIn_of _ (by decide +kernel)) ggX4_weekly_X4_requireWithin
set_option maxRecDepth 20000 in
theorem ggX4_weekly_X4_requireEntry : GoodIn wsX4_weekly wsX4_requireEntry := goodIn_ca (goodIn_ca (goodIn_r _ [18, 19, 11, 12, 6, 13, 14, 15, 20, 21, 22, 23, 24, 25, 26, 27, 28, 29, 30, 31, 32, 33, 34, 35, 36, 37, 38, 39, 40, 41, 42, 43, 121, 122, 123, 124, 125, 134, 135, 136, 137, 138, 139, 140, 141, 142, 143, 144, 145] (by decide +kernel) (by decide +kernel)) (goodIn_sub (fun _ h => List.mem_cons_of_mem _ (List.mem_append_left _ (List.mem_append_right _ h))) (by decide +kernel))) (goodIn_sub (fun _ h => List.mem_cons_of_mem _ (List.mem_append_right _ h)) (by decide +kernel))
set_option maxRecDepth 20000 in
theorem gX4_weekly_X4_requireEntry : GoodIn wsX4_weekly (va_wsS RX4 116 yX4_requireEntry wsX4_requireEntry) := goodIn_app (goodIn_of _ (by decide +kernel)) ggX4_weekly_X4_requireEntry
set_option maxRecDepth 20000 in
theorem ggX4_weekly_X0_add : GoodIn wsX4_weekly wsX0_add := goodIn_r _ [48, 49, 50, 51, 52, 142, 143, 144, 145] (by decide +kernel) (by decide +kernel)
set_option maxRecDepth 20000 in
theorem gX4_weekly_X0_add : GoodIn wsX4_weekly (wsV RX4 124 RX0 yX0_add wsX0_add) := goodIn_app (goodIn_of _ (by decide +kernel)) ggX4_weekly_X0_add
set_option maxRecDepth 20000 in
theorem ggX4_weekly_X4_follow : GoodIn wsX4_weekly wsX4_follow := goodIn_r _ [56, 57, 2, 19, 58, 59, 60, 61, 34, 62, 38, 36, 63, 64, 65, 47, 66, 49, 50, 67, 68, 69, 70, 71, 51, 52, 72, 73, 74, 6, 75, 76, 77, 78, 79, 80, 27, 81, 82, 83, 84, 85, 86, 87, 88, 89, 90, 91, 92, 93, 94, 95, 96, 97, 98, 99, 100, 101, 102, 103, 104, 105, 106, 107, 108, 109, 110, 111, 112, 113, 114, 115, 116, 117, 118, 119, 120, 126, 127, 128, 129, 130, 131, 132, 133, 121, 122, 123, 124, 125, 142, 143, 144, 145, 134, 135, 136, 137, 138, 139, 140, 141, 146, 147, 148, 149, 150, 151] (by decide +kernel) (by decide +kernel)
set_option maxRecDepth 20000 in
theorem gX4_weekly_X4_follow : GoodIn wsX4_weekly (wsV RX4 129 RX4 yX4_follow wsX4_follow) := goodIn_app (goodIn_of _ (by decide +kernel)) ggX4_weekly_X4_follow
set_option maxRecDepth 20000 in
theorem ggX4_once_X4_scheduleAt : GoodIn wsX4_once wsX4_scheduleAt := goodIn_ca (goodIn_r _ [7, 8, 9, 10, 126, 127, 128, 129, 130, 131, 132, 133] (by decide +kernel) (by decide +kernel)) (goodIn_sub (fun _ h => List.mem_cons_of_mem _ (List.mem_append_left _ (List.mem_append_left _ (List.mem_append_right _ h)))) (by decide +kernel))
set_option maxRecDepth 20000 in
theorem gX4_once_X4_scheduleAt : GoodIn wsX4_once (wsV RX4 112 RX4 yX4_scheduleAt wsX4_scheduleAt) := goodIn_app (goodIn_of _ (by decide +kernel)) ggX4_once_X4_scheduleAt
set_option maxRecDepth 20000 in
theorem ggX4_once_X4_requireWithin : GoodIn wsX4_once wsX4_requireWithin := goodIn_ca (goodIn_r _ [13, 14, 15] (by decide +kernel) (by decide +kernel)) (goodIn_sub (fun _ h => List.mem_cons_of_mem _ (List.mem_append_left _ (List.mem_append_right _ h))) (by decide +kernel))
set_option maxRecDepth 20000 in
theorem gX4_once_X4_requireWithin : GoodIn wsX4_once (va_wsS RX4 27 yX4_requireWithin wsX4_requireWithin) := goodIn_app (goodIn_of _ (by decide +kernel)) ggX4_once_X4_requireWithin
set_option maxRecDepth 20000 in
theorem ggX4_once_X4_requireEntry : GoodIn wsX4_once wsX4_requireEntry := goodIn_ca (goodIn_ca (goodIn_r _ [18, 19, 11, 12, 6, 13, 14, 15, 20, 21, 22, 23, 24, 25, 26, 27, 28, 29, 30, 31, 32, 33, 34, 35, 36, 37, 38, 39, 40, 41, 42, 43, 121, 122, 123, 124, 125, 134, 135, 136, 137, 138, 139, 140, 141, 142, 143, 144, 145] (by decide +kernel) (by decide +kernel)) (goodIn_sub (fun _ h => List.mem_cons_of_mem _ (List.mem_append_left _ (List.mem_append_right _ h))) (by decide +kernel))) (goodIn_sub (fun _ h => List.mem_cons_of_mem _ (List.mem_append_right _ h)) (by decide +kernel))
set_option maxRecDepth 20000 in
theorem gX4_once_X4_requireEntry : GoodIn wsX4_once (va_wsS RX4 116 yX4_requireEntry wsX4_requireEntry) := goodIn_app (goodIn_of _ (by decide +kernel)) ggX4_once_X4_requireEntry
set_option maxRecDepth 20000 in
theorem ggX4_once_X0_add : GoodIn wsX4_once wsX0_add := goodIn_r _ [48, 49, 50, 51, 52, 142, 143, 144, 145] (by decide +kernel) (by decide +kernel)
set_option maxRecDepth 20000 in
theorem gX4_once_X0_add : GoodIn wsX4_once (wsV RX4 124 RX0 yX0_add wsX0_add) := goodIn_app (goodIn_of _ (by decide +kernel)) ggX4_once_X0_add
set_option maxRecDepth 20000 in
theorem ggX4_once_X4_follow : GoodIn wsX4_once wsX4_follow := goodIn_r _ [56, 57, 2, 19, 58, 59, 60, 61, 34, 62, 38, 36, 63, 64, 65, 47, 66, 49, 50, 67, 68, 69, 70, 71, 51, 52, 72, 73, 74, 6, 75, 76, 77, 78, 79, 80, 27, 81, 82, 83, 84, 85, 86, 87, 88, 89, 90, 91, 92, 93, 94, 95, 96, 97, 98, 99, 100, 101, 102, 103, 104, 105, 106, 107, 108, 109, 110, 111, 112, 113, 114, 115, 116, 117, 118, 119, 120, 126, 127, 128, 129, 130, 131, 132, 133, 121, 122, 123, 124, 125, 142, 143, 144, 145, 134, 135, 136, 137, 138, 139, 140, 141, 146, 147, 148, 149, 150, 151] (by decide +kernel) (by decide +kernel)
set_option maxRecDepth 20000 in
theorem gX4_once_X4_follow : GoodIn wsX4_once (wsV RX4 129 RX4 yX4_follow wsX4_follow) := goodIn_app (goodIn_of _ (by decide +kernel)) ggX4_once_X4_follow
set_option maxRecDepth 20000 in
theorem ggX4_tells_X4_scheduleAt : GoodIn wsX4_tells wsX4_scheduleAt := goodIn_ca (goodIn_r _ [6, 7, 8, 9, 36, 37, 38, 39, 40, 41, 42, 43] (by decide +kernel) (by decide +kernel)) (goodIn_sub (fun _ h => List.mem_cons_of_mem _ (List.mem_append_left _ (List.mem_append_right _ h))) (by decide +kernel))
set_option maxRecDepth 20000 in
theorem gX4_tells_X4_scheduleAt : GoodIn wsX4_tells (wsV RX4 112 RX4 yX4_scheduleAt wsX4_scheduleAt) := goodIn_app (goodIn_of _ (by decide +kernel)) ggX4_tells_X4_scheduleAt
set_option maxRecDepth 20000 in
theorem ggX4_tells_X4_requireWithin : GoodIn wsX4_tells wsX4_requireWithin := goodIn_ca (goodIn_r _ [12, 13, 14] (by decide +kernel) (by decide +kernel)) (goodIn_sub (fun _ h => List.mem_cons_of_mem _ (List.mem_append_right _ h)) (by decide +kernel))
set_option maxRecDepth 20000 in
theorem gX4_tells_X4_requireWithin : GoodIn wsX4_tells (va_wsS RX4 27 yX4_requireWithin wsX4_requireWithin) := goodIn_app (goodIn_of _ (by decide +kernel)) ggX4_tells_X4_requireWithin
set_option maxRecDepth 20000 in
theorem ggX4_tells_X2_toldAt : GoodIn wsX4_tells wsX2_toldAt := goodIn_r _ [19, 20, 21, 22, 23, 24, 25, 26, 27, 28, 29, 30, 31, 32, 33, 34, 35, 44, 45, 46, 47, 48, 49, 50, 51, 52] (by decide +kernel) (by decide +kernel)
set_option maxRecDepth 20000 in
theorem gX4_tells_X2_toldAt : GoodIn wsX4_tells (wsV RX4 140 RX2 yX2_toldAt wsX2_toldAt) := goodIn_app (goodIn_of _ (by decide +kernel)) ggX4_tells_X2_toldAt
set_option maxRecDepth 20000 in
theorem ggX4_pass_X4_requireWithin : GoodIn wsX4_pass wsX4_requireWithin := goodIn_ca (goodIn_r _ [9, 10, 11] (by decide +kernel) (by decide +kernel)) (goodIn_sub (fun _ h => List.mem_cons_of_mem _ (List.mem_append_right _ h)) (by decide +kernel))
set_option maxRecDepth 20000 in
theorem gX4_pass_X4_requireWithin : GoodIn wsX4_pass (va_wsS RX4 27 yX4_requireWithin wsX4_requireWithin) := goodIn_app (goodIn_of _ (by decide +kernel)) ggX4_pass_X4_requireWithin
set_option maxRecDepth 20000 in
theorem ggX4_pass_X4_passMinute : GoodIn wsX4_pass wsX4_passMinute := goodIn_r _ [15, 4, 16, 17, 18, 8, 19, 20, 21, 22, 23, 24, 25, 26, 27, 28, 29, 30, 31, 32, 33, 34, 35, 36, 37, 38, 39, 40, 41, 42, 43, 44, 45, 46, 47, 48, 49, 50, 51, 52, 53, 54, 55, 56, 57, 58, 59, 5, 60, 61, 62, 63, 64, 65, 66, 67, 68, 69, 70, 71, 72, 73, 74, 75, 76, 77, 78, 79, 80, 81, 82, 83, 84, 85, 86, 87, 88, 89, 90, 91, 92, 93, 94, 95, 96, 97, 98, 99, 100, 101, 102, 103, 104, 105, 106, 107, 108, 109, 110, 111, 112, 113, 114, 115, 116, 117, 118, 119, 120, 121, 122, 123, 124, 125, 126, 127, 128, 129, 130, 131, 132, 133, 134, 135, 136, 137, 138, 139, 140, 141, 142, 143, 144] (by decide +kernel) (by decide +kernel)
set_option maxRecDepth 20000 in
theorem gX4_pass_X4_passMinute : GoodIn wsX4_pass (wsV RX4 149 RX4 yX4_passMinute wsX4_passMinute) := goodIn_app (goodIn_of _ (by decide +kernel)) ggX4_pass_X4_passMinute
set_option maxRecDepth 20000 in
theorem ggX4_requireCommand_X1_canHave : GoodIn wsX4_requireCommand wsX1_canHave := goodIn_r _ [8, 9, 10, 11, 12, 13, 14, 15, 16, 17, 18] (by decide +kernel) (by decide +kernel)
set_option maxRecDepth 20000 in
theorem gX4_requireCommand_X1_canHave : GoodIn wsX4_requireCommand (wsV RX4 158 RX1 yX1_canHave wsX1_canHave) := goodIn_app (goodIn_of _ (by decide +kernel)) ggX4_requireCommand_X1_canHave
set_option maxRecDepth 20000 in
theorem ggX4_requireEntry_X4_requireWithin : GoodIn wsX4_requireEntry wsX4_requireWithin := goodIn_ca (goodIn_r _ [5, 6, 7] (by decide +kernel) (by decide +kernel)) (goodIn_sub (fun _ h => List.mem_cons_of_mem _ (List.mem_append_left _ (List.mem_append_right _ h))) (by decide +kernel))
set_option maxRecDepth 20000 in
theorem gX4_requireEntry_X4_requireWithin : GoodIn wsX4_requireEntry (va_wsS RX4 27 yX4_requireWithin wsX4_requireWithin) := goodIn_app (goodIn_of _ (by decide +kernel)) ggX4_requireEntry_X4_requireWithin
set_option maxRecDepth 20000 in
theorem ggX4_requireEntry_X4_requireCommand : GoodIn wsX4_requireEntry wsX4_requireCommand := goodIn_ca (goodIn_r _ [10, 6, 7, 11, 12, 13, 14, 15, 16, 17, 18, 37, 38, 39, 40, 41, 42, 43, 44] (by decide +kernel) (by decide +kernel)) (goodIn_sub (fun _ h => List.mem_cons_of_mem _ (List.mem_append_left _ (List.mem_append_right _ h))) (by decide +kernel))
set_option maxRecDepth 20000 in
theorem gX4_requireEntry_X4_requireCommand : GoodIn wsX4_requireEntry (va_wsS RX4 46 yX4_requireCommand wsX4_requireCommand) := goodIn_app (goodIn_of _ (by decide +kernel)) ggX4_requireEntry_X4_requireCommand
set_option maxRecDepth 20000 in
theorem ggX4_requireEntry_X2_entryCount : GoodIn wsX4_requireEntry wsX2_entryCount := goodIn_r _ [23, 24, 25, 26, 32, 33, 34, 35, 36, 45, 46, 47, 48] (by decide +kernel) (by decide +kernel)
set_option maxRecDepth 20000 in
theorem gX4_requireEntry_X2_entryCount : GoodIn wsX4_requireEntry (wsV RX4 170 RX2 yX2_entryCount wsX2_entryCount) := goodIn_app (goodIn_of _ (by decide +kernel)) ggX4_requireEntry_X2_entryCount
set_option maxRecDepth 20000 in
theorem ggX4_requireEntry_X4_requireRoom : GoodIn wsX4_requireEntry wsX4_requireRoom := goodIn_ca (goodIn_r _ [29, 30, 31] (by decide +kernel) (by decide +kernel)) (goodIn_sub (fun _ h => List.mem_cons_of_mem _ (List.mem_append_right _ h)) (by decide +kernel))
set_option maxRecDepth 20000 in
theorem gX4_requireEntry_X4_requireRoom : GoodIn wsX4_requireEntry (va_wsS RX4 35 yX4_requireRoom wsX4_requireRoom) := goodIn_app (goodIn_of _ (by decide +kernel)) ggX4_requireEntry_X4_requireRoom
set_option maxRecDepth 20000 in
theorem ggX4_put_X1_dueValue : GoodIn wsX4_put wsX1_dueValue := goodIn_r _ [8, 9, 10, 11, 12, 13, 7, 14, 15, 49, 50, 51, 52, 53, 54, 55, 56] (by decide +kernel) (by decide +kernel)
set_option maxRecDepth 20000 in
theorem gX4_put_X1_dueValue : GoodIn wsX4_put (wsV RX4 182 RX1 yX1_dueValue wsX1_dueValue) := goodIn_app (goodIn_of _ (by decide +kernel)) ggX4_put_X1_dueValue
set_option maxRecDepth 20000 in
theorem ggX4_put_X1_change : GoodIn wsX4_put wsX1_change := goodIn_r _ [19, 20, 21, 22, 9, 23, 49, 50, 51, 52, 53, 54, 55, 56] (by decide +kernel) (by decide +kernel)
set_option maxRecDepth 20000 in
theorem gX4_put_X1_change : GoodIn wsX4_put (wsV RX4 185 RX1 yX1_change wsX1_change) := goodIn_app (goodIn_of _ (by decide +kernel)) ggX4_put_X1_change
set_option maxRecDepth 20000 in
theorem ggX4_put_X4_reportChange : GoodIn wsX4_put wsX4_reportChange := goodIn_r _ [28, 29, 30, 31, 2, 32, 33, 34, 35, 36, 37, 38, 39, 40, 41, 42, 43, 44, 45, 46, 47, 48, 57, 58, 59, 60, 61, 62, 63, 64, 65, 66, 67, 68, 69, 70, 49, 50, 51, 52, 53, 54, 55, 56] (by decide +kernel) (by decide +kernel)
set_option maxRecDepth 20000 in
theorem gX4_put_X4_reportChange : GoodIn wsX4_put (wsV RX4 188 RX4 yX4_reportChange wsX4_reportChange) := goodIn_app (goodIn_of _ (by decide +kernel)) ggX4_put_X4_reportChange
set_option maxRecDepth 20000 in
theorem ggX4_reportChange_X3_isFarFrom : GoodIn wsX4_reportChange wsX3_isFarFrom := goodIn_r _ [10, 11, 12, 13, 14, 15, 16, 30, 31, 32, 33, 34, 35] (by decide +kernel) (by decide +kernel)
set_option maxRecDepth 20000 in
theorem gX4_reportChange_X3_isFarFrom : GoodIn wsX4_reportChange (wsV RX4 193 RX3 yX3_isFarFrom wsX3_isFarFrom) := goodIn_app (goodIn_of _ (by decide +kernel)) ggX4_reportChange_X3_isFarFrom
set_option maxRecDepth 20000 in
theorem ggX4_reportChange_X3_report : GoodIn wsX4_reportChange wsX3_report := goodIn_r _ [20, 11, 21, 30, 31, 32, 33, 34, 35] (by decide +kernel) (by decide +kernel)
set_option maxRecDepth 20000 in
theorem gX4_reportChange_X3_report : GoodIn wsX4_reportChange (wsV RX4 196 RX3 yX3_report wsX3_report) := goodIn_app (goodIn_of _ (by decide +kernel)) ggX4_reportChange_X3_report
set_option maxRecDepth 20000 in
theorem ggX4_follow_X2_toldAt : GoodIn wsX4_follow wsX2_toldAt := goodIn_r _ [9, 10, 11, 12, 13, 14, 15, 16, 17, 18, 19, 20, 21, 22, 23, 24, 25, 85, 86, 87, 88, 89, 90, 91, 92, 93] (by decide +kernel) (by decide +kernel)
set_option maxRecDepth 20000 in
theorem gX4_follow_X2_toldAt : GoodIn wsX4_follow (wsV RX4 140 RX2 yX2_toldAt wsX2_toldAt) := goodIn_app (goodIn_of _ (by decide +kernel)) ggX4_follow_X2_toldAt
set_option maxRecDepth 20000 in
theorem ggX4_follow_X4_put : GoodIn wsX4_follow wsX4_put := goodIn_r _ [30, 31, 32, 1, 33, 34, 35, 36, 37, 38, 39, 40, 41, 42, 43, 44, 45, 46, 47, 48, 49, 50, 51, 52, 53, 54, 55, 29, 56, 57, 58, 59, 60, 61, 62, 63, 64, 65, 66, 67, 68, 69, 70, 71, 72, 73, 74, 75, 76, 94, 95, 96, 97, 98, 99, 100, 101, 77, 78, 79, 80, 81, 82, 83, 84, 102, 103, 104, 105, 106, 107] (by decide +kernel) (by decide +kernel)
set_option maxRecDepth 20000 in
theorem gX4_follow_X4_put : GoodIn wsX4_follow (wsV RX4 61 RX4 yX4_put wsX4_put) := goodIn_app (goodIn_of _ (by decide +kernel)) ggX4_follow_X4_put
set_option maxRecDepth 20000 in
theorem ggX4_passMinute_X4_releaseHeldCommands : GoodIn wsX4_passMinute wsX4_releaseHeldCommands := goodIn_r _ [6, 7, 8, 1, 9, 10, 11, 12, 13, 14, 15, 16, 17, 18, 5, 19, 20, 21, 22, 23, 24, 25, 26, 27, 28, 29, 30, 31, 32, 33, 34, 35, 36, 37, 38, 39, 40, 41, 42, 43, 44, 45, 46, 47, 48, 49, 50, 51, 52, 53, 54, 55, 56, 57, 58, 59, 60, 61, 62, 63, 102, 103, 104, 105, 106, 107, 108, 109, 110, 111, 112, 113, 114, 115, 116, 117, 118, 119, 120, 121, 122, 123] (by decide +kernel) (by decide +kernel)
set_option maxRecDepth 20000 in
theorem gX4_passMinute_X4_releaseHeldCommands : GoodIn wsX4_passMinute (wsV RX4 203 RX4 yX4_releaseHeldCommands wsX4_releaseHeldCommands) := goodIn_app (goodIn_of _ (by decide +kernel)) ggX4_passMinute_X4_releaseHeldCommands
set_option maxRecDepth 20000 in
theorem ggX4_passMinute_X4_endOldSubscriptions : GoodIn wsX4_passMinute wsX4_endOldSubscriptions := goodIn_r _ [67, 44, 68, 1, 45, 102, 103, 104, 105, 106, 107, 108, 109, 118, 119, 120, 121, 122, 123] (by decide +kernel) (by decide +kernel)
set_option maxRecDepth 20000 in
theorem gX4_passMinute_X4_endOldSubscriptions : GoodIn wsX4_passMinute (wsV RX4 206 RX4 yX4_endOldSubscriptions wsX4_endOldSubscriptions) := goodIn_app (goodIn_of _ (by decide +kernel)) ggX4_passMinute_X4_endOldSubscriptions
set_option maxRecDepth 20000 in
theorem ggX4_passMinute_X4_followSchedules : GoodIn wsX4_passMinute wsX4_followSchedules := goodIn_r _ [72, 73, 74, 75, 76, 5, 77, 1, 78, 79, 80, 81, 82, 83, 84, 85, 86, 87, 88, 89, 90, 91, 92, 93, 94, 95, 96, 97, 98, 99, 100, 101, 16, 17, 18, 19, 20, 21, 22, 23, 24, 13, 25, 26, 27, 28, 29, 30, 31, 32, 33, 34, 35, 36, 37, 38, 39, 15, 40, 41, 42, 43, 44, 45, 46, 47, 48, 49, 50, 51, 52, 53, 54, 55, 56, 57, 58, 59, 60, 61, 62, 63, 102, 103, 104, 105, 106, 107, 108, 109, 124, 125, 126, 127, 128, 129, 130, 131, 132, 110, 111, 112, 113, 114, 115, 116, 117, 118, 119, 120, 121, 122, 123] (by decide +kernel) (by decide +kernel)
set_option maxRecDepth 20000 in
theorem gX4_passMinute_X4_followSchedules : GoodIn wsX4_passMinute (wsV RX4 209 RX4 yX4_followSchedules wsX4_followSchedules) := goodIn_app (goodIn_of _ (by decide +kernel)) ggX4_passMinute_X4_followSchedules
set_option maxRecDepth 20000 in
theorem ggX4_releaseHeldCommands_X1_isHeld : GoodIn wsX4_releaseHeldCommands wsX1_isHeld := goodIn_r _ [9, 10, 68, 69, 70, 71, 72, 73, 74, 75] (by decide +kernel) (by decide +kernel)
set_option maxRecDepth 20000 in
theorem gX4_releaseHeldCommands_X1_isHeld : GoodIn wsX4_releaseHeldCommands (wsV RX4 50 RX1 yX1_isHeld wsX1_isHeld) := goodIn_app (goodIn_of _ (by decide +kernel)) ggX4_releaseHeldCommands_X1_isHeld
set_option maxRecDepth 20000 in
theorem ggX4_releaseHeldCommands_X4_put : GoodIn wsX4_releaseHeldCommands wsX4_put := goodIn_r _ [15, 16, 17, 3, 18, 19, 20, 8, 21, 22, 23, 24, 25, 26, 27, 28, 29, 30, 31, 32, 33, 34, 35, 10, 36, 37, 38, 14, 39, 40, 41, 42, 43, 44, 45, 46, 47, 48, 49, 50, 51, 52, 53, 54, 55, 56, 57, 58, 59, 68, 69, 70, 71, 72, 73, 74, 75, 60, 61, 62, 63, 64, 65, 66, 67, 76, 77, 78, 79, 80, 81] (by decide +kernel) (by decide +kernel)
set_option maxRecDepth 20000 in
theorem gX4_releaseHeldCommands_X4_put : GoodIn wsX4_releaseHeldCommands (wsV RX4 61 RX4 yX4_put wsX4_put) := goodIn_app (goodIn_of _ (by decide +kernel)) ggX4_releaseHeldCommands_X4_put
set_option maxRecDepth 20000 in
theorem ggX4_followSchedules_X4_follow : GoodIn wsX4_followSchedules wsX4_follow := goodIn_r _ [6, 7, 8, 9, 10, 11, 12, 13, 14, 15, 16, 17, 18, 19, 20, 21, 22, 23, 24, 25, 26, 27, 28, 29, 30, 31, 32, 33, 34, 5, 35, 36, 37, 38, 39, 40, 41, 42, 43, 44, 45, 46, 47, 48, 49, 50, 51, 52, 53, 54, 55, 56, 57, 58, 59, 60, 61, 62, 63, 64, 65, 66, 67, 68, 69, 70, 71, 72, 73, 74, 75, 76, 77, 78, 79, 80, 81, 82, 83, 84, 85, 86, 87, 88, 89, 90, 91, 92, 93, 94, 95, 96, 97, 98, 99, 100, 101, 102, 103, 104, 105, 106, 107, 108, 109, 110, 111, 112] (by decide +kernel) (by decide +kernel)
set_option maxRecDepth 20000 in
theorem gX4_followSchedules_X4_follow : GoodIn wsX4_followSchedules (wsV RX4 129 RX4 yX4_follow wsX4_follow) := goodIn_app (goodIn_of _ (by decide +kernel)) ggX4_followSchedules_X4_follow
set_option maxRecDepth 20000 in
theorem ggX5_isPoint_X5_in : GoodIn wsX5_isPoint wsX5_in := goodIn_r _ [5] (by decide +kernel) (by decide +kernel)
set_option maxRecDepth 20000 in
theorem gX5_isPoint_X5_in : GoodIn wsX5_isPoint (va_wsS RX5 75 yX5_in wsX5_in) := goodIn_app (goodIn_of _ (by decide +kernel)) ggX5_isPoint_X5_in
set_option maxRecDepth 20000 in
theorem ggX5_canHave_X5_in : GoodIn wsX5_canHave wsX5_in := goodIn_r _ [6] (by decide +kernel) (by decide +kernel)
set_option maxRecDepth 20000 in
theorem gX5_canHave_X5_in : GoodIn wsX5_canHave (va_wsS RX5 75 yX5_in wsX5_in) := goodIn_app (goodIn_of _ (by decide +kernel)) ggX5_canHave_X5_in
set_option maxRecDepth 20000 in
theorem ggX5_addMeasure_X5_in : GoodIn wsX5_addMeasure wsX5_in := goodIn_r _ [5] (by decide +kernel) (by decide +kernel)
set_option maxRecDepth 20000 in
theorem gX5_addMeasure_X5_in : GoodIn wsX5_addMeasure (va_wsS RX5 75 yX5_in wsX5_in) := goodIn_app (goodIn_of _ (by decide +kernel)) ggX5_addMeasure_X5_in
set_option maxRecDepth 20000 in
theorem ggX5_addMeasure_X5_goes : GoodIn wsX5_addMeasure wsX5_goes := goodIn_r _ [9, 10, 20, 21, 22, 23, 24, 25, 26, 27, 28, 29, 30, 31, 32, 33, 34, 35, 36, 37, 38, 39, 40, 41, 42, 43, 44] (by decide +kernel) (by decide +kernel)
set_option maxRecDepth 20000 in
theorem gX5_addMeasure_X5_goes : GoodIn wsX5_addMeasure (wsV RX5 80 RX5 yX5_goes wsX5_goes) := goodIn_app (goodIn_of _ (by decide +kernel)) ggX5_addMeasure_X5_goes
set_option maxRecDepth 20000 in
theorem ggX5_addMeasure_X5_adds : GoodIn wsX5_addMeasure wsX5_adds := goodIn_r _ [14, 15, 1, 16, 17, 18, 19, 20, 21, 22, 23, 24, 25, 26, 27, 28, 29, 30, 31, 32, 33, 34, 35, 36, 37, 38, 39, 40, 41, 42, 43, 44] (by decide +kernel) (by decide +kernel)
set_option maxRecDepth 20000 in
theorem gX5_addMeasure_X5_adds : GoodIn wsX5_addMeasure (wsV RX5 84 RX5 yX5_adds wsX5_adds) := goodIn_app (goodIn_of _ (by decide +kernel)) ggX5_addMeasure_X5_adds
set_option maxRecDepth 20000 in
theorem ggX5_addSwitch_X5_in : GoodIn wsX5_addSwitch wsX5_in := goodIn_r _ [5] (by decide +kernel) (by decide +kernel)
set_option maxRecDepth 20000 in
theorem gX5_addSwitch_X5_in : GoodIn wsX5_addSwitch (va_wsS RX5 75 yX5_in wsX5_in) := goodIn_app (goodIn_of _ (by decide +kernel)) ggX5_addSwitch_X5_in
set_option maxRecDepth 20000 in
theorem ggX5_addSwitch_X5_goes : GoodIn wsX5_addSwitch wsX5_goes := goodIn_r _ [9, 10, 20, 21, 22, 23, 24, 25, 26, 27, 28, 29, 30, 31, 32, 33, 34, 35, 36, 37, 38, 39, 40, 41, 42, 43, 44] (by decide +kernel) (by decide +kernel)
set_option maxRecDepth 20000 in
theorem gX5_addSwitch_X5_goes : GoodIn wsX5_addSwitch (wsV RX5 80 RX5 yX5_goes wsX5_goes) := goodIn_app (goodIn_of _ (by decide +kernel)) ggX5_addSwitch_X5_goes
set_option maxRecDepth 20000 in
theorem ggX5_addSwitch_X5_adds : GoodIn wsX5_addSwitch wsX5_adds := goodIn_r _ [14, 15, 1, 16, 17, 18, 19, 20, 21, 22, 23, 24, 25, 26, 27, 28, 29, 30, 31, 32, 33, 34, 35, 36, 37, 38, 39, 40, 41, 42, 43, 44] (by decide +kernel) (by decide +kernel)
set_option maxRecDepth 20000 in
theorem gX5_addSwitch_X5_adds : GoodIn wsX5_addSwitch (wsV RX5 84 RX5 yX5_adds wsX5_adds) := goodIn_app (goodIn_of _ (by decide +kernel)) ggX5_addSwitch_X5_adds
set_option maxRecDepth 20000 in
theorem ggX5_valueOf_X5_standingOf : GoodIn wsX5_valueOf wsX5_standingOf := goodIn_r _ [7, 2, 8, 9, 10, 11, 12, 13, 14, 15, 16, 17, 18, 19, 20, 21, 22, 23, 24, 25, 26, 27, 28, 29, 30, 31, 32, 33] (by decide +kernel) (by decide +kernel)
set_option maxRecDepth 20000 in
theorem gX5_valueOf_X5_standingOf : GoodIn wsX5_valueOf (wsV RX5 88 RX5 yX5_standingOf wsX5_standingOf) := goodIn_app (goodIn_of _ (by decide +kernel)) ggX5_valueOf_X5_standingOf
set_option maxRecDepth 20000 in
theorem ggX5_sets_X5_valueOf : GoodIn wsX5_sets wsX5_valueOf := goodIn_r _ [10, 11, 1, 12, 13, 14, 9, 15, 16, 28, 29, 30, 31, 32, 33, 34, 35, 36, 37, 38, 39, 40, 41, 42, 43, 44, 45, 46, 47, 48, 49, 50, 51, 52] (by decide +kernel) (by decide +kernel)
set_option maxRecDepth 20000 in
theorem gX5_sets_X5_valueOf : GoodIn wsX5_sets (wsV RX5 98 RX5 yX5_valueOf wsX5_valueOf) := goodIn_app (goodIn_of _ (by decide +kernel)) ggX5_sets_X5_valueOf
set_option maxRecDepth 20000 in
theorem ggX5_sets_X5_informs : GoodIn wsX5_sets wsX5_informs := goodIn_r _ [20, 21, 22, 23, 24, 25, 26, 27, 28, 29, 30, 31, 32, 33, 34, 35, 36, 37, 38, 39, 40, 41, 42, 43, 44, 45, 46, 47, 48, 49, 50, 51, 52] (by decide +kernel) (by decide +kernel)
set_option maxRecDepth 20000 in
theorem gX5_sets_X5_informs : GoodIn wsX5_sets (wsV RX5 104 RX5 yX5_informs wsX5_informs) := goodIn_app (goodIn_of _ (by decide +kernel)) ggX5_sets_X5_informs
set_option maxRecDepth 20000 in
theorem ggX5_write_X5_isPoint : GoodIn wsX5_write wsX5_isPoint := goodIn_r _ [6, 7, 8, 9, 5, 10, 50, 51, 52, 53, 54, 55, 56, 57, 58, 59, 60, 61, 62, 63, 64, 65, 66, 67, 68, 69, 70, 71, 72, 73, 74] (by decide +kernel) (by decide +kernel)
set_option maxRecDepth 20000 in
theorem gX5_write_X5_isPoint : GoodIn wsX5_write (wsV RX5 108 RX5 yX5_isPoint wsX5_isPoint) := goodIn_app (goodIn_of _ (by decide +kernel)) ggX5_write_X5_isPoint
set_option maxRecDepth 20000 in
theorem ggX5_write_X5_in : GoodIn wsX5_write wsX5_in := goodIn_r _ [10] (by decide +kernel) (by decide +kernel)
set_option maxRecDepth 20000 in
theorem gX5_write_X5_in : GoodIn wsX5_write (va_wsS RX5 75 yX5_in wsX5_in) := goodIn_app (goodIn_of _ (by decide +kernel)) ggX5_write_X5_in
set_option maxRecDepth 20000 in
theorem ggX5_write_X5_canHave : GoodIn wsX5_write wsX5_canHave := goodIn_r _ [14, 15, 16, 8, 9, 5, 10, 50, 51, 52, 53, 54, 55, 56, 57, 58, 59, 60, 61, 62, 63, 64, 65, 66, 67, 68, 69, 70, 71, 72, 73, 74] (by decide +kernel) (by decide +kernel)
set_option maxRecDepth 20000 in
theorem gX5_write_X5_canHave : GoodIn wsX5_write (wsV RX5 112 RX5 yX5_canHave wsX5_canHave) := goodIn_app (goodIn_of _ (by decide +kernel)) ggX5_write_X5_canHave
set_option maxRecDepth 20000 in
theorem ggX5_write_X5_goes : GoodIn wsX5_write wsX5_goes := goodIn_r _ [20, 21, 50, 51, 52, 53, 54, 55, 56, 57, 58, 59, 60, 61, 62, 63, 64, 65, 66, 67, 68, 69, 70, 71, 72, 73, 74] (by decide +kernel) (by decide +kernel)
set_option maxRecDepth 20000 in
theorem gX5_write_X5_goes : GoodIn wsX5_write (wsV RX5 80 RX5 yX5_goes wsX5_goes) := goodIn_app (goodIn_of _ (by decide +kernel)) ggX5_write_X5_goes
set_option maxRecDepth 20000 in
theorem ggX5_write_X5_sets : GoodIn wsX5_write wsX5_sets := goodIn_r _ [25, 26, 27, 28, 1, 29, 30, 31, 32, 5, 33, 34, 35, 36, 37, 38, 15, 39, 40, 41, 42, 43, 44, 45, 46, 47, 48, 49, 50, 51, 52, 53, 54, 55, 56, 57, 58, 59, 60, 61, 62, 63, 64, 65, 66, 67, 68, 69, 70, 71, 72, 73, 74] (by decide +kernel) (by decide +kernel)
set_option maxRecDepth 20000 in
theorem gX5_write_X5_sets : GoodIn wsX5_write (wsV RX5 116 RX5 yX5_sets wsX5_sets) := goodIn_app (goodIn_of _ (by decide +kernel)) ggX5_write_X5_sets
set_option maxRecDepth 20000 in
theorem ggX5_write_X5_valueOf : GoodIn wsX5_write wsX5_valueOf := goodIn_r _ [33, 34, 26, 35, 36, 37, 5, 38, 15, 50, 51, 52, 53, 54, 55, 56, 57, 58, 59, 60, 61, 62, 63, 64, 65, 66, 67, 68, 69, 70, 71, 72, 73, 74] (by decide +kernel) (by decide +kernel)
set_option maxRecDepth 20000 in
theorem gX5_write_X5_valueOf : GoodIn wsX5_write (wsV RX5 98 RX5 yX5_valueOf wsX5_valueOf) := goodIn_app (goodIn_of _ (by decide +kernel)) ggX5_write_X5_valueOf
set_option maxRecDepth 20000 in
theorem ggX5_value_X5_isPoint : GoodIn wsX5_value wsX5_isPoint := goodIn_r _ [5, 6, 7, 8, 4, 9, 26, 27, 28, 29, 30, 31, 32, 33, 34, 35, 36, 37, 38, 39, 40, 41, 42, 43, 44, 45, 46, 47, 48, 49, 50] (by decide +kernel) (by decide +kernel)
set_option maxRecDepth 20000 in
theorem gX5_value_X5_isPoint : GoodIn wsX5_value (wsV RX5 108 RX5 yX5_isPoint wsX5_isPoint) := goodIn_app (goodIn_of _ (by decide +kernel)) ggX5_value_X5_isPoint
set_option maxRecDepth 20000 in
theorem ggX5_value_X5_goes : GoodIn wsX5_value wsX5_goes := goodIn_r _ [13, 14, 26, 27, 28, 29, 30, 31, 32, 33, 34, 35, 36, 37, 38, 39, 40, 41, 42, 43, 44, 45, 46, 47, 48, 49, 50] (by decide +kernel) (by decide +kernel)
set_option maxRecDepth 20000 in
theorem gX5_value_X5_goes : GoodIn wsX5_value (wsV RX5 80 RX5 yX5_goes wsX5_goes) := goodIn_app (goodIn_of _ (by decide +kernel)) ggX5_value_X5_goes
set_option maxRecDepth 20000 in
theorem ggX5_value_X5_valueOf : GoodIn wsX5_value wsX5_valueOf := goodIn_r _ [18, 19, 20, 21, 22, 23, 4, 24, 25, 26, 27, 28, 29, 30, 31, 32, 33, 34, 35, 36, 37, 38, 39, 40, 41, 42, 43, 44, 45, 46, 47, 48, 49, 50] (by decide +kernel) (by decide +kernel)
set_option maxRecDepth 20000 in
theorem gX5_value_X5_valueOf : GoodIn wsX5_value (wsV RX5 98 RX5 yX5_valueOf wsX5_valueOf) := goodIn_app (goodIn_of _ (by decide +kernel)) ggX5_value_X5_valueOf
set_option maxRecDepth 20000 in
theorem ggX5_command_X5_isPoint : GoodIn wsX5_command wsX5_isPoint := goodIn_r _ [6, 7, 8, 9, 5, 10, 16, 17, 18, 19, 20, 21, 22, 23, 24, 25, 26, 27, 28, 29, 30, 31, 32, 33, 34, 35, 36, 37, 38, 39, 40] (by decide +kernel) (by decide +kernel)
set_option maxRecDepth 20000 in
theorem gX5_command_X5_isPoint : GoodIn wsX5_command (wsV RX5 108 RX5 yX5_isPoint wsX5_isPoint) := goodIn_app (goodIn_of _ (by decide +kernel)) ggX5_command_X5_isPoint
set_option maxRecDepth 20000 in
theorem ggX5_command_X5_in : GoodIn wsX5_command wsX5_in := goodIn_r _ [10] (by decide +kernel) (by decide +kernel)
set_option maxRecDepth 20000 in
theorem gX5_command_X5_in : GoodIn wsX5_command (va_wsS RX5 75 yX5_in wsX5_in) := goodIn_app (goodIn_of _ (by decide +kernel)) ggX5_command_X5_in
set_option maxRecDepth 20000 in
theorem ggX5_command_X5_goes : GoodIn wsX5_command wsX5_goes := goodIn_r _ [14, 15, 16, 17, 18, 19, 20, 21, 22, 23, 24, 25, 26, 27, 28, 29, 30, 31, 32, 33, 34, 35, 36, 37, 38, 39, 40] (by decide +kernel) (by decide +kernel)
set_option maxRecDepth 20000 in
theorem gX5_command_X5_goes : GoodIn wsX5_command (wsV RX5 80 RX5 yX5_goes wsX5_goes) := goodIn_app (goodIn_of _ (by decide +kernel)) ggX5_command_X5_goes
set_option maxRecDepth 20000 in
theorem ggX5_standing_X5_isPoint : GoodIn wsX5_standing wsX5_isPoint := goodIn_r _ [5, 6, 7, 8, 4, 9, 21, 22, 23, 24, 25, 26, 27, 28, 29, 30, 31, 32, 33, 34, 35, 36, 37, 38, 39, 40, 41, 42, 43, 44, 45] (by decide +kernel) (by decide +kernel)
set_option maxRecDepth 20000 in
theorem gX5_standing_X5_isPoint : GoodIn wsX5_standing (wsV RX5 108 RX5 yX5_isPoint wsX5_isPoint) := goodIn_app (goodIn_of _ (by decide +kernel)) ggX5_standing_X5_isPoint
set_option maxRecDepth 20000 in
theorem ggX5_standing_X5_goes : GoodIn wsX5_standing wsX5_goes := goodIn_r _ [13, 14, 21, 22, 23, 24, 25, 26, 27, 28, 29, 30, 31, 32, 33, 34, 35, 36, 37, 38, 39, 40, 41, 42, 43, 44, 45] (by decide +kernel) (by decide +kernel)
set_option maxRecDepth 20000 in
theorem gX5_standing_X5_goes : GoodIn wsX5_standing (wsV RX5 80 RX5 yX5_goes wsX5_goes) := goodIn_app (goodIn_of _ (by decide +kernel)) ggX5_standing_X5_goes
set_option maxRecDepth 20000 in
theorem ggX5_standing_X5_standingOf : GoodIn wsX5_standing wsX5_standingOf := goodIn_r _ [18, 19, 20, 21, 22, 23, 24, 25, 26, 27, 28, 29, 30, 31, 32, 33, 34, 35, 36, 37, 38, 39, 40, 41, 42, 43, 44, 45] (by decide +kernel) (by decide +kernel)
set_option maxRecDepth 20000 in
theorem gX5_standing_X5_standingOf : GoodIn wsX5_standing (wsV RX5 88 RX5 yX5_standingOf wsX5_standingOf) := goodIn_app (goodIn_of _ (by decide +kernel)) ggX5_standing_X5_standingOf
set_option maxRecDepth 20000 in
theorem ggX5_held_X5_isPoint : GoodIn wsX5_held wsX5_isPoint := goodIn_r _ [7, 8, 9, 10, 6, 11, 17, 18, 19, 20, 21, 22, 23, 24, 25, 26, 27, 28, 29, 30, 31, 32, 33, 34, 35, 36, 37, 38, 39, 40, 41] (by decide +kernel) (by decide +kernel)
set_option maxRecDepth 20000 in
theorem gX5_held_X5_isPoint : GoodIn wsX5_held (wsV RX5 108 RX5 yX5_isPoint wsX5_isPoint) := goodIn_app (goodIn_of _ (by decide +kernel)) ggX5_held_X5_isPoint
set_option maxRecDepth 20000 in
theorem ggX5_held_X5_goes : GoodIn wsX5_held wsX5_goes := goodIn_r _ [15, 16, 17, 18, 19, 20, 21, 22, 23, 24, 25, 26, 27, 28, 29, 30, 31, 32, 33, 34, 35, 36, 37, 38, 39, 40, 41] (by decide +kernel) (by decide +kernel)
set_option maxRecDepth 20000 in
theorem gX5_held_X5_goes : GoodIn wsX5_held (wsV RX5 80 RX5 yX5_goes wsX5_goes) := goodIn_app (goodIn_of _ (by decide +kernel)) ggX5_held_X5_goes
set_option maxRecDepth 20000 in
theorem ggX5_changes_X5_isPoint : GoodIn wsX5_changes wsX5_isPoint := goodIn_r _ [6, 7, 8, 9, 5, 10, 16, 17, 18, 19, 20, 21, 22, 23, 24, 25, 26, 27, 28, 29, 30, 31, 32, 33, 34, 35, 36, 37, 38, 39, 40] (by decide +kernel) (by decide +kernel)
set_option maxRecDepth 20000 in
theorem gX5_changes_X5_isPoint : GoodIn wsX5_changes (wsV RX5 108 RX5 yX5_isPoint wsX5_isPoint) := goodIn_app (goodIn_of _ (by decide +kernel)) ggX5_changes_X5_isPoint
set_option maxRecDepth 20000 in
theorem ggX5_changes_X5_goes : GoodIn wsX5_changes wsX5_goes := goodIn_r _ [14, 15, 16, 17, 18, 19, 20, 21, 22, 23, 24, 25, 26, 27, 28, 29, 30, 31, 32, 33, 34, 35, 36, 37, 38, 39, 40] (by decide +kernel) (by decide +kernel)
set_option maxRecDepth 20000 in
theorem gX5_changes_X5_goes : GoodIn wsX5_changes (wsV RX5 80 RX5 yX5_goes wsX5_goes) := goodIn_app (goodIn_of _ (by decide +kernel)) ggX5_changes_X5_goes
set_option maxRecDepth 20000 in
theorem ggX5_subscribe_X5_isPoint : GoodIn wsX5_subscribe wsX5_isPoint := goodIn_r _ [12, 13, 14, 15, 11, 16, 33, 34, 35, 36, 37, 38, 39, 40, 41, 42, 43, 44, 45, 46, 47, 48, 49, 50, 51, 52, 53, 54, 55, 56, 57] (by decide +kernel) (by decide +kernel)
set_option maxRecDepth 20000 in
theorem gX5_subscribe_X5_isPoint : GoodIn wsX5_subscribe (wsV RX5 108 RX5 yX5_isPoint wsX5_isPoint) := goodIn_app (goodIn_of _ (by decide +kernel)) ggX5_subscribe_X5_isPoint
set_option maxRecDepth 20000 in
theorem ggX5_subscribe_X5_in : GoodIn wsX5_subscribe wsX5_in := goodIn_r _ [16] (by decide +kernel) (by decide +kernel)
set_option maxRecDepth 20000 in
theorem gX5_subscribe_X5_in : GoodIn wsX5_subscribe (va_wsS RX5 75 yX5_in wsX5_in) := goodIn_app (goodIn_of _ (by decide +kernel)) ggX5_subscribe_X5_in
set_option maxRecDepth 20000 in
theorem ggX5_subscribe_X5_goes : GoodIn wsX5_subscribe wsX5_goes := goodIn_r _ [20, 21, 33, 34, 35, 36, 37, 38, 39, 40, 41, 42, 43, 44, 45, 46, 47, 48, 49, 50, 51, 52, 53, 54, 55, 56, 57] (by decide +kernel) (by decide +kernel)
set_option maxRecDepth 20000 in
theorem gX5_subscribe_X5_goes : GoodIn wsX5_subscribe (wsV RX5 80 RX5 yX5_goes wsX5_goes) := goodIn_app (goodIn_of _ (by decide +kernel)) ggX5_subscribe_X5_goes
set_option maxRecDepth 20000 in
theorem ggX5_subscribe_X5_valueOf : GoodIn wsX5_subscribe wsX5_valueOf := goodIn_r _ [25, 26, 27, 28, 29, 30, 11, 31, 32, 33, 34, 35, 36, 37, 38, 39, 40, 41, 42, 43, 44, 45, 46, 47, 48, 49, 50, 51, 52, 53, 54, 55, 56, 57] (by decide +kernel) (by decide +kernel)
set_option maxRecDepth 20000 in
theorem gX5_subscribe_X5_valueOf : GoodIn wsX5_subscribe (wsV RX5 98 RX5 yX5_valueOf wsX5_valueOf) := goodIn_app (goodIn_of _ (by decide +kernel)) ggX5_subscribe_X5_valueOf
set_option maxRecDepth 20000 in
theorem ggX5_isSubscription_X5_in : GoodIn wsX5_isSubscription wsX5_in := goodIn_r _ [5] (by decide +kernel) (by decide +kernel)
set_option maxRecDepth 20000 in
theorem gX5_isSubscription_X5_in : GoodIn wsX5_isSubscription (va_wsS RX5 75 yX5_in wsX5_in) := goodIn_app (goodIn_of _ (by decide +kernel)) ggX5_isSubscription_X5_in
set_option maxRecDepth 20000 in
theorem ggX5_end_X5_isSubscription : GoodIn wsX5_end wsX5_isSubscription := goodIn_r _ [6, 7, 8, 9, 5, 10, 16, 17, 18, 19, 20, 21, 22, 23, 24, 25, 26, 27, 28, 29, 30, 31, 32, 33, 34, 35, 36, 37, 38, 39, 40] (by decide +kernel) (by decide +kernel)
set_option maxRecDepth 20000 in
theorem gX5_end_X5_isSubscription : GoodIn wsX5_end (wsV RX5 121 RX5 yX5_isSubscription wsX5_isSubscription) := goodIn_app (goodIn_of _ (by decide +kernel)) ggX5_end_X5_isSubscription
set_option maxRecDepth 20000 in
theorem ggX5_end_X5_goes : GoodIn wsX5_end wsX5_goes := goodIn_r _ [14, 15, 16, 17, 18, 19, 20, 21, 22, 23, 24, 25, 26, 27, 28, 29, 30, 31, 32, 33, 34, 35, 36, 37, 38, 39, 40] (by decide +kernel) (by decide +kernel)
set_option maxRecDepth 20000 in
theorem gX5_end_X5_goes : GoodIn wsX5_end (wsV RX5 80 RX5 yX5_goes wsX5_goes) := goodIn_app (goodIn_of _ (by decide +kernel)) ggX5_end_X5_goes
set_option maxRecDepth 20000 in
theorem ggX5_goesOn_X5_isSubscription : GoodIn wsX5_goesOn wsX5_isSubscription := goodIn_r _ [6, 7, 8, 9, 5, 10, 16, 17, 18, 19, 20, 21, 22, 23, 24, 25, 26, 27, 28, 29, 30, 31, 32, 33, 34, 35, 36, 37, 38, 39, 40] (by decide +kernel) (by decide +kernel)
set_option maxRecDepth 20000 in
theorem gX5_goesOn_X5_isSubscription : GoodIn wsX5_goesOn (wsV RX5 121 RX5 yX5_isSubscription wsX5_isSubscription) := goodIn_app (goodIn_of _ (by decide +kernel)) ggX5_goesOn_X5_isSubscription
set_option maxRecDepth 20000 in
theorem ggX5_goesOn_X5_goes : GoodIn wsX5_goesOn wsX5_goes := goodIn_r _ [14, 15, 16, 17, 18, 19, 20, 21, 22, 23, 24, 25, 26, 27, 28, 29, 30, 31, 32, 33, 34, 35, 36, 37, 38, 39, 40] (by decide +kernel) (by decide +kernel)
set_option maxRecDepth 20000 in
theorem gX5_goesOn_X5_goes : GoodIn wsX5_goesOn (wsV RX5 80 RX5 yX5_goes wsX5_goes) := goodIn_app (goodIn_of _ (by decide +kernel)) ggX5_goesOn_X5_goes
set_option maxRecDepth 20000 in
theorem ggX5_reports_X5_isSubscription : GoodIn wsX5_reports wsX5_isSubscription := goodIn_r _ [6, 7, 8, 9, 5, 10, 16, 17, 18, 19, 20, 21, 22, 23, 24, 25, 26, 27, 28, 29, 30, 31, 32, 33, 34, 35, 36, 37, 38, 39, 40] (by decide +kernel) (by decide +kernel)
set_option maxRecDepth 20000 in
theorem gX5_reports_X5_isSubscription : GoodIn wsX5_reports (wsV RX5 121 RX5 yX5_isSubscription wsX5_isSubscription) := goodIn_app (goodIn_of _ (by decide +kernel)) ggX5_reports_X5_isSubscription
set_option maxRecDepth 20000 in
theorem ggX5_reports_X5_goes : GoodIn wsX5_reports wsX5_goes := goodIn_r _ [14, 15, 16, 17, 18, 19, 20, 21, 22, 23, 24, 25, 26, 27, 28, 29, 30, 31, 32, 33, 34, 35, 36, 37, 38, 39, 40] (by decide +kernel) (by decide +kernel)
set_option maxRecDepth 20000 in
theorem gX5_reports_X5_goes : GoodIn wsX5_reports (wsV RX5 80 RX5 yX5_goes wsX5_goes) := goodIn_app (goodIn_of _ (by decide +kernel)) ggX5_reports_X5_goes
set_option maxRecDepth 20000 in
theorem ggX5_reported_X5_isSubscription : GoodIn wsX5_reported wsX5_isSubscription := goodIn_r _ [6, 7, 8, 9, 5, 10, 16, 17, 18, 19, 20, 21, 22, 23, 24, 25, 26, 27, 28, 29, 30, 31, 32, 33, 34, 35, 36, 37, 38, 39, 40] (by decide +kernel) (by decide +kernel)
set_option maxRecDepth 20000 in
theorem gX5_reported_X5_isSubscription : GoodIn wsX5_reported (wsV RX5 121 RX5 yX5_isSubscription wsX5_isSubscription) := goodIn_app (goodIn_of _ (by decide +kernel)) ggX5_reported_X5_isSubscription
set_option maxRecDepth 20000 in
theorem ggX5_reported_X5_goes : GoodIn wsX5_reported wsX5_goes := goodIn_r _ [14, 15, 16, 17, 18, 19, 20, 21, 22, 23, 24, 25, 26, 27, 28, 29, 30, 31, 32, 33, 34, 35, 36, 37, 38, 39, 40] (by decide +kernel) (by decide +kernel)
set_option maxRecDepth 20000 in
theorem gX5_reported_X5_goes : GoodIn wsX5_reported (wsV RX5 80 RX5 yX5_goes wsX5_goes) := goodIn_app (goodIn_of _ (by decide +kernel)) ggX5_reported_X5_goes
set_option maxRecDepth 20000 in
theorem ggX5_isSchedule_X5_in : GoodIn wsX5_isSchedule wsX5_in := goodIn_r _ [5] (by decide +kernel) (by decide +kernel)
set_option maxRecDepth 20000 in
theorem gX5_isSchedule_X5_in : GoodIn wsX5_isSchedule (va_wsS RX5 75 yX5_in wsX5_in) := goodIn_app (goodIn_of _ (by decide +kernel)) ggX5_isSchedule_X5_in
set_option maxRecDepth 20000 in
theorem ggX5_addSchedule_X5_isPoint : GoodIn wsX5_addSchedule wsX5_isPoint := goodIn_r _ [10, 11, 12, 13, 9, 14, 20, 21, 22, 23, 24, 25, 26, 27, 28, 29, 30, 31, 32, 33, 34, 35, 36, 37, 38, 39, 40, 41, 42, 43, 44] (by decide +kernel) (by decide +kernel)
set_option maxRecDepth 20000 in
theorem gX5_addSchedule_X5_isPoint : GoodIn wsX5_addSchedule (wsV RX5 108 RX5 yX5_isPoint wsX5_isPoint) := goodIn_app (goodIn_of _ (by decide +kernel)) ggX5_addSchedule_X5_isPoint
set_option maxRecDepth 20000 in
theorem ggX5_addSchedule_X5_in : GoodIn wsX5_addSchedule wsX5_in := goodIn_r _ [14] (by decide +kernel) (by decide +kernel)
set_option maxRecDepth 20000 in
theorem gX5_addSchedule_X5_in : GoodIn wsX5_addSchedule (va_wsS RX5 75 yX5_in wsX5_in) := goodIn_app (goodIn_of _ (by decide +kernel)) ggX5_addSchedule_X5_in
set_option maxRecDepth 20000 in
theorem ggX5_addSchedule_X5_goes : GoodIn wsX5_addSchedule wsX5_goes := goodIn_r _ [18, 19, 20, 21, 22, 23, 24, 25, 26, 27, 28, 29, 30, 31, 32, 33, 34, 35, 36, 37, 38, 39, 40, 41, 42, 43, 44] (by decide +kernel) (by decide +kernel)
set_option maxRecDepth 20000 in
theorem gX5_addSchedule_X5_goes : GoodIn wsX5_addSchedule (wsV RX5 80 RX5 yX5_goes wsX5_goes) := goodIn_app (goodIn_of _ (by decide +kernel)) ggX5_addSchedule_X5_goes
set_option maxRecDepth 20000 in
theorem ggX5_obeys_X5_toldBy : GoodIn wsX5_obeys wsX5_toldBy := goodIn_r _ [9, 10, 11, 12, 13, 14, 43, 44, 45, 46, 47, 48, 49, 50, 51, 52, 53, 54, 55, 56, 57, 58, 59, 60, 61, 62, 63, 64, 65, 66, 67] (by decide +kernel) (by decide +kernel)
set_option maxRecDepth 20000 in
theorem gX5_obeys_X5_toldBy : GoodIn wsX5_obeys (wsV RX5 127 RX5 yX5_toldBy wsX5_toldBy) := goodIn_app (goodIn_of _ (by decide +kernel)) ggX5_obeys_X5_toldBy
set_option maxRecDepth 20000 in
theorem ggX5_obeys_X5_sets : GoodIn wsX5_obeys wsX5_sets := goodIn_r _ [18, 19, 20, 21, 22, 1, 23, 24, 25, 8, 26, 27, 28, 29, 30, 31, 12, 32, 33, 34, 35, 36, 37, 38, 39, 40, 41, 42, 43, 44, 45, 46, 47, 48, 49, 50, 51, 52, 53, 54, 55, 56, 57, 58, 59, 60, 61, 62, 63, 64, 65, 66, 67] (by decide +kernel) (by decide +kernel)
set_option maxRecDepth 20000 in
theorem gX5_obeys_X5_sets : GoodIn wsX5_obeys (wsV RX5 116 RX5 yX5_sets wsX5_sets) := goodIn_app (goodIn_of _ (by decide +kernel)) ggX5_obeys_X5_sets
set_option maxRecDepth 20000 in
theorem ggX5_enters_X5_obeys : GoodIn wsX5_enters wsX5_obeys := goodIn_r _ [10, 11, 5, 12, 13, 14, 15, 16, 9, 17, 1, 2, 18, 3, 4, 19, 20, 21, 22, 23, 24, 25, 26, 27, 28, 29, 30, 31, 32, 33, 34, 35, 36, 37, 38, 39, 40, 41, 42, 43, 44, 45, 46, 47, 48, 49, 50, 51, 52, 53, 54, 55, 56, 57, 58, 59, 60, 61, 62, 63, 64, 65, 66, 67, 68, 69, 70, 71] (by decide +kernel) (by decide +kernel)
set_option maxRecDepth 20000 in
theorem gX5_enters_X5_obeys : GoodIn wsX5_enters (wsV RX5 131 RX5 yX5_obeys wsX5_obeys) := goodIn_app (goodIn_of _ (by decide +kernel)) ggX5_enters_X5_obeys
set_option maxRecDepth 20000 in
theorem ggX5_weekly_X5_isSchedule : GoodIn wsX5_weekly wsX5_isSchedule := goodIn_r _ [7, 8, 9, 10, 6, 11, 69, 70, 71, 72, 73, 74, 75, 76, 77, 78, 79, 80, 81, 82, 83, 84, 85, 86, 87, 88, 89, 90, 91, 92, 93] (by decide +kernel) (by decide +kernel)
set_option maxRecDepth 20000 in
theorem gX5_weekly_X5_isSchedule : GoodIn wsX5_weekly (wsV RX5 135 RX5 yX5_isSchedule wsX5_isSchedule) := goodIn_app (goodIn_of _ (by decide +kernel)) ggX5_weekly_X5_isSchedule
set_option maxRecDepth 20000 in
theorem ggX5_weekly_X5_in : GoodIn wsX5_weekly wsX5_in := goodIn_r _ [11] (by decide +kernel) (by decide +kernel)
set_option maxRecDepth 20000 in
theorem gX5_weekly_X5_in : GoodIn wsX5_weekly (va_wsS RX5 75 yX5_in wsX5_in) := goodIn_app (goodIn_of _ (by decide +kernel)) ggX5_weekly_X5_in
set_option maxRecDepth 20000 in
theorem ggX5_weekly_X5_canHave : GoodIn wsX5_weekly wsX5_canHave := goodIn_r _ [15, 16, 17, 9, 10, 6, 11, 69, 70, 71, 72, 73, 74, 75, 76, 77, 78, 79, 80, 81, 82, 83, 84, 85, 86, 87, 88, 89, 90, 91, 92, 93] (by decide +kernel) (by decide +kernel)
set_option maxRecDepth 20000 in
theorem gX5_weekly_X5_canHave : GoodIn wsX5_weekly (wsV RX5 112 RX5 yX5_canHave wsX5_canHave) := goodIn_app (goodIn_of _ (by decide +kernel)) ggX5_weekly_X5_canHave
set_option maxRecDepth 20000 in
theorem ggX5_weekly_X5_goes : GoodIn wsX5_weekly wsX5_goes := goodIn_r _ [21, 22, 69, 70, 71, 72, 73, 74, 75, 76, 77, 78, 79, 80, 81, 82, 83, 84, 85, 86, 87, 88, 89, 90, 91, 92, 93] (by decide +kernel) (by decide +kernel)
set_option maxRecDepth 20000 in
theorem gX5_weekly_X5_goes : GoodIn wsX5_weekly (wsV RX5 80 RX5 yX5_goes wsX5_goes) := goodIn_app (goodIn_of _ (by decide +kernel)) ggX5_weekly_X5_goes
set_option maxRecDepth 20000 in
theorem ggX5_weekly_X5_enters : GoodIn wsX5_weekly wsX5_enters := goodIn_r _ [26, 2, 27, 28, 29, 30, 31, 32, 33, 6, 34, 35, 1, 36, 37, 38, 39, 40, 16, 41, 42, 43, 44, 45, 46, 47, 48, 49, 50, 51, 52, 53, 54, 55, 56, 57, 58, 59, 60, 61, 62, 63, 64, 65, 66, 67, 68, 69, 70, 71, 72, 73, 74, 75, 76, 77, 78, 79, 80, 81, 82, 83, 84, 85, 86, 87, 88, 89, 90, 91, 92, 93] (by decide +kernel) (by decide +kernel)
set_option maxRecDepth 20000 in
theorem gX5_weekly_X5_enters : GoodIn wsX5_weekly (wsV RX5 138 RX5 yX5_enters wsX5_enters) := goodIn_app (goodIn_of _ (by decide +kernel)) ggX5_weekly_X5_enters
set_option maxRecDepth 20000 in
theorem ggX5_once_X5_isSchedule : GoodIn wsX5_once wsX5_isSchedule := goodIn_r _ [7, 8, 9, 10, 6, 11, 69, 70, 71, 72, 73, 74, 75, 76, 77, 78, 79, 80, 81, 82, 83, 84, 85, 86, 87, 88, 89, 90, 91, 92, 93] (by decide +kernel) (by decide +kernel)
set_option maxRecDepth 20000 in
theorem gX5_once_X5_isSchedule : GoodIn wsX5_once (wsV RX5 135 RX5 yX5_isSchedule wsX5_isSchedule) := goodIn_app (goodIn_of _ (by decide +kernel)) ggX5_once_X5_isSchedule
set_option maxRecDepth 20000 in
theorem ggX5_once_X5_in : GoodIn wsX5_once wsX5_in := goodIn_r _ [11] (by decide +kernel) (by decide +kernel)
set_option maxRecDepth 20000 in
theorem gX5_once_X5_in : GoodIn wsX5_once (va_wsS RX5 75 yX5_in wsX5_in) := goodIn_app (goodIn_of _ (by decide +kernel)) ggX5_once_X5_in
set_option maxRecDepth 20000 in
theorem ggX5_once_X5_canHave : GoodIn wsX5_once wsX5_canHave := goodIn_r _ [15, 16, 17, 9, 10, 6, 11, 69, 70, 71, 72, 73, 74, 75, 76, 77, 78, 79, 80, 81, 82, 83, 84, 85, 86, 87, 88, 89, 90, 91, 92, 93] (by decide +kernel) (by decide +kernel)
set_option maxRecDepth 20000 in
theorem gX5_once_X5_canHave : GoodIn wsX5_once (wsV RX5 112 RX5 yX5_canHave wsX5_canHave) := goodIn_app (goodIn_of _ (by decide +kernel)) ggX5_once_X5_canHave
set_option maxRecDepth 20000 in
theorem ggX5_once_X5_goes : GoodIn wsX5_once wsX5_goes := goodIn_r _ [21, 22, 69, 70, 71, 72, 73, 74, 75, 76, 77, 78, 79, 80, 81, 82, 83, 84, 85, 86, 87, 88, 89, 90, 91, 92, 93] (by decide +kernel) (by decide +kernel)
set_option maxRecDepth 20000 in
theorem gX5_once_X5_goes : GoodIn wsX5_once (wsV RX5 80 RX5 yX5_goes wsX5_goes) := goodIn_app (goodIn_of _ (by decide +kernel)) ggX5_once_X5_goes
set_option maxRecDepth 20000 in
theorem ggX5_once_X5_enters : GoodIn wsX5_once wsX5_enters := goodIn_r _ [26, 2, 27, 28, 29, 30, 31, 32, 33, 6, 34, 35, 1, 36, 37, 38, 39, 40, 16, 41, 42, 43, 44, 45, 46, 47, 48, 49, 50, 51, 52, 53, 54, 55, 56, 57, 58, 59, 60, 61, 62, 63, 64, 65, 66, 67, 68, 69, 70, 71, 72, 73, 74, 75, 76, 77, 78, 79, 80, 81, 82, 83, 84, 85, 86, 87, 88, 89, 90, 91, 92, 93] (by decide +kernel) (by decide +kernel)
set_option maxRecDepth 20000 in
theorem gX5_once_X5_enters : GoodIn wsX5_once (wsV RX5 138 RX5 yX5_enters wsX5_enters) := goodIn_app (goodIn_of _ (by decide +kernel)) ggX5_once_X5_enters
set_option maxRecDepth 20000 in
theorem ggX5_tells_X5_isSchedule : GoodIn wsX5_tells wsX5_isSchedule := goodIn_r _ [6, 7, 8, 9, 5, 10, 25, 26, 27, 28, 29, 30, 31, 32, 33, 34, 35, 36, 37, 38, 39, 40, 41, 42, 43, 44, 45, 46, 47, 48, 49] (by decide +kernel) (by decide +kernel)
set_option maxRecDepth 20000 in
theorem gX5_tells_X5_isSchedule : GoodIn wsX5_tells (wsV RX5 135 RX5 yX5_isSchedule wsX5_isSchedule) := goodIn_app (goodIn_of _ (by decide +kernel)) ggX5_tells_X5_isSchedule
set_option maxRecDepth 20000 in
theorem ggX5_tells_X5_in : GoodIn wsX5_tells wsX5_in := goodIn_r _ [10] (by decide +kernel) (by decide +kernel)
set_option maxRecDepth 20000 in
theorem gX5_tells_X5_in : GoodIn wsX5_tells (va_wsS RX5 75 yX5_in wsX5_in) := goodIn_app (goodIn_of _ (by decide +kernel)) ggX5_tells_X5_in
set_option maxRecDepth 20000 in
theorem ggX5_tells_X5_goes : GoodIn wsX5_tells wsX5_goes := goodIn_r _ [14, 15, 25, 26, 27, 28, 29, 30, 31, 32, 33, 34, 35, 36, 37, 38, 39, 40, 41, 42, 43, 44, 45, 46, 47, 48, 49] (by decide +kernel) (by decide +kernel)
set_option maxRecDepth 20000 in
theorem gX5_tells_X5_goes : GoodIn wsX5_tells (wsV RX5 80 RX5 yX5_goes wsX5_goes) := goodIn_app (goodIn_of _ (by decide +kernel)) ggX5_tells_X5_goes
set_option maxRecDepth 20000 in
theorem ggX5_tells_X5_toldBy : GoodIn wsX5_tells wsX5_toldBy := goodIn_r _ [19, 20, 21, 22, 23, 24, 25, 26, 27, 28, 29, 30, 31, 32, 33, 34, 35, 36, 37, 38, 39, 40, 41, 42, 43, 44, 45, 46, 47, 48, 49] (by decide +kernel) (by decide +kernel)
set_option maxRecDepth 20000 in
theorem gX5_tells_X5_toldBy : GoodIn wsX5_tells (wsV RX5 127 RX5 yX5_toldBy wsX5_toldBy) := goodIn_app (goodIn_of _ (by decide +kernel)) ggX5_tells_X5_toldBy
set_option maxRecDepth 20000 in
theorem ggX5_minutes_X5_sets : GoodIn wsX5_minutes wsX5_sets := goodIn_r _ [13, 14, 15, 16, 3, 1, 17, 18, 19, 12, 20, 21, 22, 23, 24, 25, 4, 26, 27, 28, 29, 5, 30, 31, 6, 32, 33, 34, 50, 51, 52, 53, 54, 55, 56, 57, 58, 59, 60, 61, 62, 63, 64, 65, 66, 67, 68, 69, 70, 71, 72, 73, 74] (by decide +kernel) (by decide +kernel)
set_option maxRecDepth 20000 in
theorem gX5_minutes_X5_sets : GoodIn wsX5_minutes (wsV RX5 116 RX5 yX5_sets wsX5_sets) := goodIn_app (goodIn_of _ (by decide +kernel)) ggX5_minutes_X5_sets
set_option maxRecDepth 20000 in
theorem ggX5_minutes_X5_obeys : GoodIn wsX5_minutes wsX5_obeys := goodIn_r _ [38, 1, 39, 40, 41, 42, 43, 44, 12, 45, 46, 47, 4, 48, 49, 9, 10, 11, 13, 14, 15, 16, 3, 17, 18, 19, 20, 21, 22, 23, 24, 25, 26, 27, 28, 29, 5, 30, 31, 6, 32, 33, 34, 50, 51, 52, 53, 54, 55, 56, 57, 58, 59, 60, 61, 62, 63, 64, 65, 66, 67, 68, 69, 70, 71, 72, 73, 74] (by decide +kernel) (by decide +kernel)
set_option maxRecDepth 20000 in
theorem gX5_minutes_X5_obeys : GoodIn wsX5_minutes (wsV RX5 131 RX5 yX5_obeys wsX5_obeys) := goodIn_app (goodIn_of _ (by decide +kernel)) ggX5_minutes_X5_obeys
set_option maxRecDepth 20000 in
theorem ggX5_pass_X5_in : GoodIn wsX5_pass wsX5_in := goodIn_r _ [7] (by decide +kernel) (by decide +kernel)
set_option maxRecDepth 20000 in
theorem gX5_pass_X5_in : GoodIn wsX5_pass (va_wsS RX5 75 yX5_in wsX5_in) := goodIn_app (goodIn_of _ (by decide +kernel)) ggX5_pass_X5_in
set_option maxRecDepth 20000 in
theorem ggX5_pass_X5_goes : GoodIn wsX5_pass wsX5_goes := goodIn_r _ [11, 12, 63, 64, 65, 66, 67, 68, 69, 70, 71, 72, 73, 74, 75, 76, 77, 78, 79, 80, 81, 82, 83, 84, 85, 86, 87] (by decide +kernel) (by decide +kernel)
set_option maxRecDepth 20000 in
theorem gX5_pass_X5_goes : GoodIn wsX5_pass (wsV RX5 80 RX5 yX5_goes wsX5_goes) := goodIn_app (goodIn_of _ (by decide +kernel)) ggX5_pass_X5_goes
set_option maxRecDepth 20000 in
theorem ggX5_pass_X5_minutes : GoodIn wsX5_pass wsX5_minutes := goodIn_r _ [16, 1, 17, 18, 19, 20, 21, 22, 23, 24, 25, 26, 6, 27, 28, 29, 30, 31, 32, 33, 34, 35, 36, 37, 38, 39, 40, 41, 42, 43, 44, 45, 46, 47, 3, 48, 49, 50, 51, 52, 53, 54, 55, 56, 57, 58, 59, 60, 61, 62, 63, 64, 65, 66, 67, 68, 69, 70, 71, 72, 73, 74, 75, 76, 77, 78, 79, 80, 81, 82, 83, 84, 85, 86, 87] (by decide +kernel) (by decide +kernel)
set_option maxRecDepth 20000 in
theorem gX5_pass_X5_minutes : GoodIn wsX5_pass (wsV RX5 143 RX5 yX5_minutes wsX5_minutes) := goodIn_app (goodIn_of _ (by decide +kernel)) ggX5_pass_X5_minutes
set_option maxRecDepth 20000 in
theorem ggL_addMeasure_X4_addMeasure : GoodIn wsL_addMeasure wsX4_addMeasure := goodIn_ca (goodIn_ca (goodIn_r _ [7, 8, 9, 10, 11, 12, 13, 14, 6, 15, 16, 17, 18, 19, 20, 21, 22, 23, 24, 25, 26, 27, 28, 29, 30, 31, 32, 33, 34, 35, 36, 37, 38, 39, 40, 41, 42, 43, 44, 45, 46, 47, 48, 49, 50, 51, 52, 53, 54, 55, 56, 57, 58] (by decide +kernel) (by decide +kernel)) (goodIn_sub (fun _ h => List.mem_cons_of_mem _ (List.mem_append_left _ (List.mem_append_right _ h))) (by decide +kernel))) (goodIn_sub (fun _ h => List.mem_cons_of_mem _ (List.mem_append_right _ h)) (by decide +kernel))
set_option maxRecDepth 20000 in
theorem gL_addMeasure_X4_addMeasure : GoodIn wsL_addMeasure (wsV RL 7 RX4 yX4_addMeasure wsX4_addMeasure) := goodIn_app (goodIn_of _ (by decide +kernel)) ggL_addMeasure_X4_addMeasure
set_option maxRecDepth 20000 in
theorem ggL_addSwitch_X4_addSwitch : GoodIn wsL_addSwitch wsX4_addSwitch := goodIn_ca (goodIn_ca (goodIn_r _ [7, 8, 9, 10, 11, 12, 13, 14, 6, 15, 16, 17, 18, 19, 20, 21, 22, 23, 24, 25, 26, 27, 28, 29, 30, 31, 32, 33, 34, 35, 36, 37, 38, 39, 40, 41, 42, 43, 44, 45, 46, 47, 48, 49, 50, 51, 52, 53, 54, 55, 56, 57, 58] (by decide +kernel) (by decide +kernel)) (goodIn_sub (fun _ h => List.mem_cons_of_mem _ (List.mem_append_left _ (List.mem_append_right _ h))) (by decide +kernel))) (goodIn_sub (fun _ h => List.mem_cons_of_mem _ (List.mem_append_right _ h)) (by decide +kernel))
set_option maxRecDepth 20000 in
theorem gL_addSwitch_X4_addSwitch : GoodIn wsL_addSwitch (wsV RL 17 RX4 yX4_addSwitch wsX4_addSwitch) := goodIn_app (goodIn_of _ (by decide +kernel)) ggL_addSwitch_X4_addSwitch
set_option maxRecDepth 20000 in
theorem ggL_write_X4_write : GoodIn wsL_write wsX4_write := goodIn_ca (goodIn_ca (goodIn_ca (goodIn_r _ [8, 9, 10, 11, 12, 13, 14, 7, 15, 16, 17, 18, 19, 20, 21, 22, 23, 24, 25, 26, 27, 28, 29, 30, 31, 32, 33, 34, 35, 36, 37, 38, 39, 40, 41, 42, 43, 44, 45, 46, 47, 48, 49, 50, 51, 52, 53, 54, 55, 56, 57, 58, 59, 60, 61, 62, 63, 64, 65, 66, 67, 68, 69, 70, 71, 72, 73, 74, 75, 76, 77, 78, 79, 80, 81, 82, 83, 84, 85, 86, 87, 88, 89, 90, 91, 92, 93, 94, 95, 96, 97, 98, 99, 100, 101, 102, 103, 104, 105, 106, 107, 108, 109] (by decide +kernel) (by decide +kernel)) (goodIn_sub (fun _ h => List.mem_cons_of_mem _ (List.mem_append_left _ (List.mem_append_left _ (List.mem_append_right _ h)))) (by decide +kernel))) (goodIn_sub (fun _ h => List.mem_cons_of_mem _ (List.mem_append_left _ (List.mem_append_right _ h))) (by decide +kernel))) (goodIn_sub (fun _ h => List.mem_cons_of_mem _ (List.mem_append_right _ h)) (by decide +kernel))
set_option maxRecDepth 20000 in
theorem gL_write_X4_write : GoodIn wsL_write (wsV RL 21 RX4 yX4_write wsX4_write) := goodIn_app (goodIn_of _ (by decide +kernel)) ggL_write_X4_write
set_option maxRecDepth 20000 in
theorem ggL_value_X4_value : GoodIn wsL_value wsX4_value := goodIn_ca (goodIn_r _ [6, 7, 8, 9, 10, 5, 11, 12, 13, 14, 15, 16, 17, 18, 19, 20, 21, 22, 23, 24, 25, 26, 27, 28, 29, 30] (by decide +kernel) (by decide +kernel)) (goodIn_sub (fun _ h => List.mem_cons_of_mem _ (List.mem_append_right _ h)) (by decide +kernel))
set_option maxRecDepth 20000 in
theorem gL_value_X4_value : GoodIn wsL_value (wsV RL 27 RX4 yX4_value wsX4_value) := goodIn_app (goodIn_of _ (by decide +kernel)) ggL_value_X4_value
set_option maxRecDepth 20000 in
theorem ggL_command_X4_command : GoodIn wsL_command wsX4_command := goodIn_ca (goodIn_ca (goodIn_r _ [7, 8, 9, 10, 11, 6, 12, 13, 14, 15, 16, 17, 18, 19, 20, 21, 22, 23, 24, 25, 26, 27, 28, 29, 30, 31, 32, 33, 34, 35, 36] (by decide +kernel) (by decide +kernel)) (goodIn_sub (fun _ h => List.mem_cons_of_mem _ (List.mem_append_left _ (List.mem_append_right _ h))) (by decide +kernel))) (goodIn_sub (fun _ h => List.mem_cons_of_mem _ (List.mem_append_right _ h)) (by decide +kernel))
set_option maxRecDepth 20000 in
theorem gL_command_X4_command : GoodIn wsL_command (wsV RL 30 RX4 yX4_command wsX4_command) := goodIn_app (goodIn_of _ (by decide +kernel)) ggL_command_X4_command
set_option maxRecDepth 20000 in
theorem ggL_standing_X4_standing : GoodIn wsL_standing wsX4_standing := goodIn_ca (goodIn_r _ [6, 7, 8, 9, 5, 10, 11, 12, 13, 14, 15, 16, 17, 18, 19, 20, 21, 22, 23, 24, 25, 26, 27, 28, 29, 30, 31, 32, 33, 34, 35, 36] (by decide +kernel) (by decide +kernel)) (goodIn_sub (fun _ h => List.mem_cons_of_mem _ (List.mem_append_right _ h)) (by decide +kernel))
set_option maxRecDepth 20000 in
theorem gL_standing_X4_standing : GoodIn wsL_standing (wsV RL 33 RX4 yX4_standing wsX4_standing) := goodIn_app (goodIn_of _ (by decide +kernel)) ggL_standing_X4_standing
set_option maxRecDepth 20000 in
theorem ggL_held_X4_held : GoodIn wsL_held wsX4_held := goodIn_ca (goodIn_r _ [6, 7, 8, 9, 10, 11, 5, 12, 13, 14, 15, 16, 17, 18, 19, 20, 21, 22, 23, 24, 25, 26, 27, 28, 29, 30, 31, 32, 33, 34, 35, 36, 37] (by decide +kernel) (by decide +kernel)) (goodIn_sub (fun _ h => List.mem_cons_of_mem _ (List.mem_append_right _ h)) (by decide +kernel))
set_option maxRecDepth 20000 in
theorem gL_held_X4_held : GoodIn wsL_held (wsV RL 36 RX4 yX4_held wsX4_held) := goodIn_app (goodIn_of _ (by decide +kernel)) ggL_held_X4_held
set_option maxRecDepth 20000 in
theorem ggL_changes_X4_changes : GoodIn wsL_changes wsX4_changes := goodIn_ca (goodIn_r _ [6, 7, 8, 9, 10, 5, 11, 12, 13, 14, 15, 16, 17, 18, 19, 20, 21, 22, 23, 24, 25, 26, 27, 28, 29, 30] (by decide +kernel) (by decide +kernel)) (goodIn_sub (fun _ h => List.mem_cons_of_mem _ (List.mem_append_right _ h)) (by decide +kernel))
set_option maxRecDepth 20000 in
theorem gL_changes_X4_changes : GoodIn wsL_changes (wsV RL 39 RX4 yX4_changes wsX4_changes) := goodIn_app (goodIn_of _ (by decide +kernel)) ggL_changes_X4_changes
set_option maxRecDepth 20000 in
theorem ggL_subscribe_X4_subscribe : GoodIn wsL_subscribe wsX4_subscribe := goodIn_ca (goodIn_ca (goodIn_ca (goodIn_r _ [8, 9, 10, 11, 12, 13, 14, 15, 16, 17, 18, 7, 19, 20, 21, 22, 23, 24, 25, 26, 27, 28, 29, 30, 31, 32, 33, 34, 35, 36, 37, 38, 39, 40, 41, 42, 43, 44, 45, 46, 47, 48, 49, 50, 51, 52, 53, 54, 55, 56, 57, 58, 59, 60, 61, 62, 63, 64, 65, 66, 67] (by decide +kernel) (by decide +kernel)) (goodIn_sub (fun _ h => List.mem_cons_of_mem _ (List.mem_append_left _ (List.mem_append_left _ (List.mem_append_right _ h)))) (by decide +kernel))) (goodIn_sub (fun _ h => List.mem_cons_of_mem _ (List.mem_append_left _ (List.mem_append_right _ h))) (by decide +kernel))) (goodIn_sub (fun _ h => List.mem_cons_of_mem _ (List.mem_append_right _ h)) (by decide +kernel))
set_option maxRecDepth 20000 in
theorem gL_subscribe_X4_subscribe : GoodIn wsL_subscribe (wsV RL 42 RX4 yX4_subscribe wsX4_subscribe) := goodIn_app (goodIn_of _ (by decide +kernel)) ggL_subscribe_X4_subscribe
set_option maxRecDepth 20000 in
theorem ggL_end_X4_end : GoodIn wsL_end wsX4_end := goodIn_ca (goodIn_ca (goodIn_r _ [7, 8, 9, 10, 11, 12, 13, 6, 14, 15, 16, 17, 18, 19, 20, 21, 22, 23, 24, 25, 26, 27, 28, 29, 30, 31] (by decide +kernel) (by decide +kernel)) (goodIn_sub (fun _ h => List.mem_cons_of_mem _ (List.mem_append_left _ (List.mem_append_right _ h))) (by decide +kernel))) (goodIn_sub (fun _ h => List.mem_cons_of_mem _ (List.mem_append_right _ h)) (by decide +kernel))
set_option maxRecDepth 20000 in
theorem gL_end_X4_end : GoodIn wsL_end (wsV RL 45 RX4 yX4_end wsX4_end) := goodIn_app (goodIn_of _ (by decide +kernel)) ggL_end_X4_end
set_option maxRecDepth 20000 in
theorem ggL_goesOn_X4_goesOn : GoodIn wsL_goesOn wsX4_goesOn := goodIn_ca (goodIn_r _ [6, 7, 8, 9, 10, 5, 11, 12, 13, 14, 15, 16, 17, 18, 19, 20, 21, 22, 23, 24, 25, 26, 27, 28] (by decide +kernel) (by decide +kernel)) (goodIn_sub (fun _ h => List.mem_cons_of_mem _ (List.mem_append_right _ h)) (by decide +kernel))
set_option maxRecDepth 20000 in
theorem gL_goesOn_X4_goesOn : GoodIn wsL_goesOn (wsV RL 49 RX4 yX4_goesOn wsX4_goesOn) := goodIn_app (goodIn_of _ (by decide +kernel)) ggL_goesOn_X4_goesOn
set_option maxRecDepth 20000 in
theorem ggL_reports_X4_reports : GoodIn wsL_reports wsX4_reports := goodIn_ca (goodIn_r _ [6, 7, 8, 9, 10, 5, 11, 12, 13, 14, 15, 16, 17, 18, 19, 20, 21, 22, 23, 24, 25, 26, 27, 28] (by decide +kernel) (by decide +kernel)) (goodIn_sub (fun _ h => List.mem_cons_of_mem _ (List.mem_append_right _ h)) (by decide +kernel))
set_option maxRecDepth 20000 in
theorem gL_reports_X4_reports : GoodIn wsL_reports (wsV RL 53 RX4 yX4_reports wsX4_reports) := goodIn_app (goodIn_of _ (by decide +kernel)) ggL_reports_X4_reports
set_option maxRecDepth 20000 in
theorem ggL_reported_X4_reported : GoodIn wsL_reported wsX4_reported := goodIn_ca (goodIn_r _ [6, 7, 8, 9, 10, 5, 11, 12, 13, 14, 15, 16, 17, 18, 19, 20, 21, 22, 23, 24, 25, 26, 27, 28] (by decide +kernel) (by decide +kernel)) (goodIn_sub (fun _ h => List.mem_cons_of_mem _ (List.mem_append_right _ h)) (by decide +kernel))
set_option maxRecDepth 20000 in
theorem gL_reported_X4_reported : GoodIn wsL_reported (wsV RL 56 RX4 yX4_reported wsX4_reported) := goodIn_app (goodIn_of _ (by decide +kernel)) ggL_reported_X4_reported
set_option maxRecDepth 20000 in
theorem ggL_addSchedule_X4_addSchedule : GoodIn wsL_addSchedule wsX4_addSchedule := goodIn_ca (goodIn_ca (goodIn_ca (goodIn_r _ [8, 9, 10, 11, 12, 13, 14, 15, 16, 7, 17, 18, 19, 20, 21, 22, 23, 24, 25, 26, 27, 28, 29, 30, 31, 32, 33, 34, 35, 36, 37, 38, 39, 40, 41, 42, 43, 44, 45, 46, 47, 48, 49, 50, 51, 52, 53, 54, 55, 56, 57, 58, 59, 60, 61, 62, 63, 64, 65, 66, 67, 68, 69, 70, 71] (by decide +kernel) (by decide +kernel)) (goodIn_sub (fun _ h => List.mem_cons_of_mem _ (List.mem_append_left _ (List.mem_append_left _ (List.mem_append_right _ h)))) (by decide +kernel))) (goodIn_sub (fun _ h => List.mem_cons_of_mem _ (List.mem_append_left _ (List.mem_append_right _ h))) (by decide +kernel))) (goodIn_sub (fun _ h => List.mem_cons_of_mem _ (List.mem_append_right _ h)) (by decide +kernel))
set_option maxRecDepth 20000 in
theorem gL_addSchedule_X4_addSchedule : GoodIn wsL_addSchedule (wsV RL 59 RX4 yX4_addSchedule wsX4_addSchedule) := goodIn_app (goodIn_of _ (by decide +kernel)) ggL_addSchedule_X4_addSchedule
set_option maxRecDepth 20000 in
theorem ggL_weekly_X4_weekly : GoodIn wsL_weekly wsX4_weekly := goodIn_ca (goodIn_ca (goodIn_ca (goodIn_r _ [8, 9, 10, 11, 12, 13, 7, 14, 15, 16, 17, 18, 19, 20, 21, 22, 23, 24, 25, 26, 27, 28, 29, 30, 31, 32, 33, 34, 35, 36, 37, 38, 39, 40, 41, 42, 43, 44, 45, 46, 47, 48, 49, 50, 51, 52, 53, 54, 55, 56, 57, 58, 59, 60, 61, 62, 63, 64, 65, 66, 67, 68, 69, 70, 71, 72, 73, 74, 75, 76, 77, 78, 79, 80, 81, 82, 83, 84, 85, 86, 87, 88, 89, 90, 91, 92, 93, 94, 95, 96, 97, 98, 99, 100, 101, 102, 103, 104, 105, 106, 107, 108, 109, 110, 111, 112, 113, 114, 115, 116, 117, 118, 119, 120, 121, 122, 123, 124, 125, 126, 127, 128, 129, 130, 131, 132, 133, 134, 135, 136, 137, 138, 139, 140, 141, 142, 143, 144, 145, 146, 147, 148, 149, 150, 151, 152, 153, 154, 155, 156, 157, 158] (by decide +kernel) (by decide +kernel)) (goodIn_sub (fun _ h => List.mem_cons_of_mem _ (List.mem_append_left _ (List.mem_append_left _ (List.mem_append_right _ h)))) (by decide +kernel))) (goodIn_sub (fun _ h => List.mem_cons_of_mem _ (List.mem_append_left _ (List.mem_append_right _ h))) (by decide +kernel))) (goodIn_sub (fun _ h => List.mem_cons_of_mem _ (List.mem_append_right _ h)) (by decide +kernel))
set_option maxRecDepth 20000 in
theorem gL_weekly_X4_weekly : GoodIn wsL_weekly (wsV RL 62 RX4 yX4_weekly wsX4_weekly) := goodIn_app (goodIn_of _ (by decide +kernel)) ggL_weekly_X4_weekly
set_option maxRecDepth 20000 in
theorem ggL_once_X4_once : GoodIn wsL_once wsX4_once := goodIn_ca (goodIn_ca (goodIn_ca (goodIn_r _ [8, 9, 10, 11, 12, 13, 7, 14, 15, 16, 17, 18, 19, 20, 21, 22, 23, 24, 25, 26, 27, 28, 29, 30, 31, 32, 33, 34, 35, 36, 37, 38, 39, 40, 41, 42, 43, 44, 45, 46, 47, 48, 49, 50, 51, 52, 53, 54, 55, 56, 57, 58, 59, 60, 61, 62, 63, 64, 65, 66, 67, 68, 69, 70, 71, 72, 73, 74, 75, 76, 77, 78, 79, 80, 81, 82, 83, 84, 85, 86, 87, 88, 89, 90, 91, 92, 93, 94, 95, 96, 97, 98, 99, 100, 101, 102, 103, 104, 105, 106, 107, 108, 109, 110, 111, 112, 113, 114, 115, 116, 117, 118, 119, 120, 121, 122, 123, 124, 125, 126, 127, 128, 129, 130, 131, 132, 133, 134, 135, 136, 137, 138, 139, 140, 141, 142, 143, 144, 145, 146, 147, 148, 149, 150, 151, 152, 153, 154, 155, 156, 157, 158] (by decide +kernel) (by decide +kernel)) (goodIn_sub (fun _ h => List.mem_cons_of_mem _ (List.mem_append_left _ (List.mem_append_left _ (List.mem_append_right _ h)))) (by decide +kernel))) (goodIn_sub (fun _ h => List.mem_cons_of_mem _ (List.mem_append_left _ (List.mem_append_right _ h))) (by decide +kernel))) (goodIn_sub (fun _ h => List.mem_cons_of_mem _ (List.mem_append_right _ h)) (by decide +kernel))
set_option maxRecDepth 20000 in
theorem gL_once_X4_once : GoodIn wsL_once (wsV RL 66 RX4 yX4_once wsX4_once) := goodIn_app (goodIn_of _ (by decide +kernel)) ggL_once_X4_once
set_option maxRecDepth 20000 in
theorem ggL_tells_X4_tells : GoodIn wsL_tells wsX4_tells := goodIn_ca (goodIn_ca (goodIn_r _ [7, 8, 9, 10, 11, 6, 12, 13, 14, 15, 16, 17, 18, 19, 20, 21, 22, 23, 24, 25, 26, 27, 28, 29, 30, 31, 32, 33, 34, 35, 36, 37, 38, 39, 40, 41, 42, 43, 44, 45, 46, 47, 48, 49, 50, 51, 52, 53, 54, 55, 56, 57, 58] (by decide +kernel) (by decide +kernel)) (goodIn_sub (fun _ h => List.mem_cons_of_mem _ (List.mem_append_left _ (List.mem_append_right _ h))) (by decide +kernel))) (goodIn_sub (fun _ h => List.mem_cons_of_mem _ (List.mem_append_right _ h)) (by decide +kernel))
set_option maxRecDepth 20000 in
theorem gL_tells_X4_tells : GoodIn wsL_tells (wsV RL 69 RX4 yX4_tells wsX4_tells) := goodIn_app (goodIn_of _ (by decide +kernel)) ggL_tells_X4_tells
set_option maxRecDepth 20000 in
theorem ggL_pass_X4_pass : GoodIn wsL_pass wsX4_pass := goodIn_ca (goodIn_ca (goodIn_r _ [7, 8, 9, 10, 11, 12, 13, 14, 6, 15, 16, 17, 18, 19, 20, 21, 22, 23, 24, 25, 26, 27, 28, 29, 30, 31, 32, 33, 34, 35, 36, 37, 38, 39, 40, 41, 42, 43, 44, 45, 46, 47, 48, 49, 50, 51, 52, 53, 54, 55, 56, 57, 58, 59, 60, 61, 62, 63, 64, 65, 66, 67, 68, 69, 70, 71, 72, 73, 74, 75, 76, 77, 78, 79, 80, 81, 82, 83, 84, 85, 86, 87, 88, 89, 90, 91, 92, 93, 94, 95, 96, 97, 98, 99, 100, 101, 102, 103, 104, 105, 106, 107, 108, 109, 110, 111, 112, 113, 114, 115, 116, 117, 118, 119, 120, 121, 122, 123, 124, 125, 126, 127, 128, 129, 130, 131, 132, 133, 134, 135, 136, 137, 138, 139, 140, 141, 142, 143, 144, 145, 146, 147, 148, 149, 150] (by decide +kernel) (by decide +kernel)) (goodIn_sub (fun _ h => List.mem_cons_of_mem _ (List.mem_append_left _ (List.mem_append_right _ h))) (by decide +kernel))) (goodIn_sub (fun _ h => List.mem_cons_of_mem _ (List.mem_append_right _ h)) (by decide +kernel))
set_option maxRecDepth 20000 in
theorem gL_pass_X4_pass : GoodIn wsL_pass (wsV RL 72 RX4 yX4_pass wsX4_pass) := goodIn_app (goodIn_of _ (by decide +kernel)) ggL_pass_X4_pass
set_option maxRecDepth 20000 in
theorem ggL_law_X4_init : GoodIn wsL_law wsX4_init := goodIn_r _ [9, 10, 11, 12, 13, 14, 15, 16, 17, 18, 516, 517, 518, 519, 520, 521, 522, 523] (by decide +kernel) (by decide +kernel)
set_option maxRecDepth 20000 in
theorem gL_law_X4_init : GoodIn wsL_law (wsX4_init) := ggL_law_X4_init
set_option maxRecDepth 20000 in
theorem ggL_law_X5_init : GoodIn wsL_law wsX5_init := goodIn_r _ [21, 22, 11, 12, 23, 24, 25, 26, 27, 28, 29, 30, 31, 32, 33, 34, 35, 36, 37, 38, 39, 40, 41, 42, 43, 524, 525, 526, 527, 528, 529, 530, 531, 532, 533, 534, 535, 536, 537, 538, 539, 540, 541, 542, 543, 544, 545, 546, 547, 548] (by decide +kernel) (by decide +kernel)
set_option maxRecDepth 20000 in
theorem gL_law_X5_init : GoodIn wsL_law (wsX5_init) := ggL_law_X5_init
set_option maxRecDepth 20000 in
theorem ggL_law_L_addMeasure : GoodIn wsL_law wsL_addMeasure := goodIn_ca (goodIn_ca (goodIn_r _ [47, 48, 49, 50, 51, 52, 2, 53, 54, 14, 13, 55, 56, 57, 58, 59, 60, 61, 62, 63, 64, 65, 66, 67, 68, 69, 70, 11, 12, 71, 72, 73, 74, 25, 75, 76, 77, 78, 79, 80, 81, 82, 83, 516, 517, 518, 519, 520, 521, 522, 523, 549, 550, 551, 552, 553, 554, 555, 556] (by decide +kernel) (by decide +kernel)) (goodIn_sub (fun _ h => List.mem_append_left _ (List.mem_append_left _ (List.mem_append_right _ h))) (by decide +kernel))) (goodIn_sub (fun _ h => List.mem_append_left _ (List.mem_append_right _ h)) (by decide +kernel))
set_option maxRecDepth 20000 in
theorem gL_law_L_addMeasure : GoodIn wsL_law (va_wsS RL 79 yL_addMeasure wsL_addMeasure) := goodIn_app (goodIn_of _ (by decide +kernel)) ggL_law_L_addMeasure
set_option maxRecDepth 20000 in
theorem ggL_law_X5_addMeasure : GoodIn wsL_law wsX5_addMeasure := goodIn_r _ [87, 88, 89, 90, 5, 91, 92, 93, 94, 95, 96, 97, 98, 99, 100, 26, 24, 27, 30, 101, 524, 525, 526, 527, 528, 529, 530, 531, 532, 533, 534, 535, 536, 537, 538, 539, 540, 541, 542, 543, 544, 545, 546, 547, 548] (by decide +kernel) (by decide +kernel)
set_option maxRecDepth 20000 in
theorem gL_law_X5_addMeasure : GoodIn wsL_law (wsV RL 84 RX5 yX5_addMeasure wsX5_addMeasure) := goodIn_app (goodIn_of _ (by decide +kernel)) ggL_law_X5_addMeasure
set_option maxRecDepth 20000 in
theorem ggL_law_X5_thrown : GoodIn wsL_law wsX5_thrown := goodIn_r _ [105, 96, 524, 525, 526, 527, 528, 529, 530, 531, 532, 533, 534, 535, 536, 537, 538, 539, 540, 541, 542, 543, 544, 545, 546, 547, 548] (by decide +kernel) (by decide +kernel)
set_option maxRecDepth 20000 in
theorem gL_law_X5_thrown : GoodIn wsL_law (wsV RL 85 RX5 yX5_thrown wsX5_thrown) := goodIn_app (goodIn_of _ (by decide +kernel)) ggL_law_X5_thrown
set_option maxRecDepth 20000 in
theorem ggL_law_L_addSwitch : GoodIn wsL_law wsL_addSwitch := goodIn_ca (goodIn_ca (goodIn_r _ [108, 48, 49, 109, 110, 111, 2, 112, 54, 14, 13, 55, 56, 57, 58, 59, 60, 61, 62, 63, 64, 65, 66, 67, 68, 69, 70, 11, 12, 71, 72, 73, 74, 25, 75, 76, 77, 78, 79, 80, 81, 82, 83, 516, 517, 518, 519, 520, 521, 522, 523, 549, 550, 551, 552, 553, 554, 555, 556] (by decide +kernel) (by decide +kernel)) (goodIn_sub (fun _ h => List.mem_append_left _ (List.mem_append_left _ (List.mem_append_right _ h))) (by decide +kernel))) (goodIn_sub (fun _ h => List.mem_append_left _ (List.mem_append_right _ h)) (by decide +kernel))
set_option maxRecDepth 20000 in
theorem gL_law_L_addSwitch : GoodIn wsL_law (va_wsS RL 89 yL_addSwitch wsL_addSwitch) := goodIn_app (goodIn_of _ (by decide +kernel)) ggL_law_L_addSwitch
set_option maxRecDepth 20000 in
theorem ggL_law_X5_addSwitch : GoodIn wsL_law wsX5_addSwitch := goodIn_r _ [116, 88, 89, 90, 5, 91, 92, 93, 94, 95, 96, 97, 98, 99, 100, 26, 24, 27, 30, 101, 524, 525, 526, 527, 528, 529, 530, 531, 532, 533, 534, 535, 536, 537, 538, 539, 540, 541, 542, 543, 544, 545, 546, 547, 548] (by decide +kernel) (by decide +kernel)
set_option maxRecDepth 20000 in
theorem gL_law_X5_addSwitch : GoodIn wsL_law (wsV RL 92 RX5 yX5_addSwitch wsX5_addSwitch) := goodIn_app (goodIn_of _ (by decide +kernel)) ggL_law_X5_addSwitch
set_option maxRecDepth 20000 in
theorem ggL_law_L_write : GoodIn wsL_law wsL_write := goodIn_ca (goodIn_ca (goodIn_ca (goodIn_r _ [119, 120, 48, 49, 121, 122, 123, 2, 124, 65, 66, 125, 126, 127, 128, 129, 130, 131, 14, 57, 58, 59, 60, 61, 132, 133, 134, 135, 136, 137, 138, 56, 139, 71, 72, 140, 141, 142, 143, 78, 144, 145, 146, 147, 148, 149, 150, 151, 152, 153, 75, 73, 154, 155, 156, 157, 76, 158, 159, 160, 161, 77, 79, 74, 162, 163, 164, 165, 16, 166, 167, 168, 169, 170, 171, 172, 173, 174, 175, 176, 177, 178, 179, 180, 181, 182, 183, 184, 549, 550, 551, 552, 553, 554, 555, 556, 516, 517, 518, 519, 520, 521, 522, 523, 557, 558, 559, 560, 561, 562] (by decide +kernel) (by decide +kernel)) (goodIn_sub (fun _ h => List.mem_append_left _ (List.mem_append_right _ h)) (by decide +kernel))) (goodIn_sub (fun _ h => List.mem_append_right _ h) (by decide +kernel))) (goodIn_sub (fun _ h => List.mem_append_left _ (List.mem_append_left _ (List.mem_append_right _ h))) (by decide +kernel))
set_option maxRecDepth 20000 in
theorem gL_law_L_write : GoodIn wsL_law (va_wsS RL 93 yL_write wsL_write) := goodIn_app (goodIn_of _ (by decide +kernel)) ggL_law_L_write
set_option maxRecDepth 20000 in
theorem ggL_law_X5_write : GoodIn wsL_law wsX5_write := goodIn_r _ [188, 28, 189, 190, 191, 5, 192, 88, 89, 90, 91, 193, 194, 195, 196, 101, 24, 92, 93, 94, 95, 96, 197, 198, 199, 200, 30, 29, 27, 201, 202, 203, 204, 205, 26, 206, 207, 208, 209, 210, 211, 212, 213, 214, 36, 31, 34, 32, 35, 215, 524, 525, 526, 527, 528, 529, 530, 531, 532, 533, 534, 535, 536, 537, 538, 539, 540, 541, 542, 543, 544, 545, 546, 547, 548] (by decide +kernel) (by decide +kernel)
set_option maxRecDepth 20000 in
theorem gL_law_X5_write : GoodIn wsL_law (wsV RL 96 RX5 yX5_write wsX5_write) := goodIn_app (goodIn_of _ (by decide +kernel)) ggL_law_X5_write
set_option maxRecDepth 20000 in
theorem ggL_law_L_value : GoodIn wsL_law wsL_value := goodIn_ca (goodIn_r _ [218, 120, 219, 220, 221, 2, 222, 125, 126, 127, 128, 129, 130, 131, 14, 549, 550, 551, 552, 553, 554, 555, 556, 516, 517, 518, 519, 520, 521, 522, 523] (by decide +kernel) (by decide +kernel)) (goodIn_sub (fun _ h => List.mem_append_right _ h) (by decide +kernel))
set_option maxRecDepth 20000 in
theorem gL_law_L_value : GoodIn wsL_law (va_wsS RL 97 yL_value wsL_value) := goodIn_app (goodIn_of _ (by decide +kernel)) ggL_law_L_value
set_option maxRecDepth 20000 in
theorem ggL_law_X5_value : GoodIn wsL_law wsX5_value := goodIn_r _ [226, 189, 190, 191, 5, 192, 88, 89, 90, 91, 92, 93, 94, 95, 96, 202, 203, 204, 205, 26, 30, 206, 207, 208, 209, 101, 524, 525, 526, 527, 528, 529, 530, 531, 532, 533, 534, 535, 536, 537, 538, 539, 540, 541, 542, 543, 544, 545, 546, 547, 548] (by decide +kernel) (by decide +kernel)
set_option maxRecDepth 20000 in
theorem gL_law_X5_value : GoodIn wsL_law (wsV RL 99 RX5 yX5_value wsX5_value) := goodIn_app (goodIn_of _ (by decide +kernel)) ggL_law_X5_value
set_option maxRecDepth 20000 in
theorem ggL_law_L_command : GoodIn wsL_law wsL_command := goodIn_ca (goodIn_ca (goodIn_r _ [229, 120, 48, 230, 231, 232, 2, 233, 148, 126, 127, 128, 129, 130, 131, 14, 57, 58, 59, 60, 61, 549, 550, 551, 552, 553, 554, 555, 556, 516, 517, 518, 519, 520, 521, 522, 523] (by decide +kernel) (by decide +kernel)) (goodIn_sub (fun _ h => List.mem_append_right _ h) (by decide +kernel))) (goodIn_sub (fun _ h => List.mem_append_left _ (List.mem_append_left _ (List.mem_append_right _ h))) (by decide +kernel))
set_option maxRecDepth 20000 in
theorem gL_law_L_command : GoodIn wsL_law (va_wsS RL 100 yL_command wsL_command) := goodIn_app (goodIn_of _ (by decide +kernel)) ggL_law_L_command
set_option maxRecDepth 20000 in
theorem ggL_law_X5_command : GoodIn wsL_law wsX5_command := goodIn_r _ [237, 30, 189, 190, 191, 5, 192, 88, 89, 90, 91, 92, 93, 94, 95, 96, 524, 525, 526, 527, 528, 529, 530, 531, 532, 533, 534, 535, 536, 537, 538, 539, 540, 541, 542, 543, 544, 545, 546, 547, 548] (by decide +kernel) (by decide +kernel)
set_option maxRecDepth 20000 in
theorem gL_law_X5_command : GoodIn wsL_law (wsV RL 102 RX5 yX5_command wsX5_command) := goodIn_app (goodIn_of _ (by decide +kernel)) ggL_law_X5_command
set_option maxRecDepth 20000 in
theorem ggL_law_L_standing : GoodIn wsL_law wsL_standing := goodIn_ca (goodIn_r _ [240, 120, 241, 242, 243, 2, 244, 126, 127, 128, 129, 130, 131, 14, 245, 155, 156, 56, 157, 75, 76, 516, 517, 518, 519, 520, 521, 522, 523, 549, 550, 551, 552, 553, 554, 555, 556] (by decide +kernel) (by decide +kernel)) (goodIn_sub (fun _ h => List.mem_append_right _ h) (by decide +kernel))
set_option maxRecDepth 20000 in
theorem gL_law_L_standing : GoodIn wsL_law (va_wsS RL 103 yL_standing wsL_standing) := goodIn_app (goodIn_of _ (by decide +kernel)) ggL_law_L_standing
set_option maxRecDepth 20000 in
theorem ggL_law_X5_standing : GoodIn wsL_law wsX5_standing := goodIn_r _ [249, 189, 190, 191, 5, 192, 88, 89, 90, 91, 92, 93, 94, 95, 96, 206, 207, 208, 209, 30, 101, 524, 525, 526, 527, 528, 529, 530, 531, 532, 533, 534, 535, 536, 537, 538, 539, 540, 541, 542, 543, 544, 545, 546, 547, 548] (by decide +kernel) (by decide +kernel)
set_option maxRecDepth 20000 in
theorem gL_law_X5_standing : GoodIn wsL_law (wsV RL 105 RX5 yX5_standing wsX5_standing) := goodIn_app (goodIn_of _ (by decide +kernel)) ggL_law_X5_standing
set_option maxRecDepth 20000 in
theorem ggL_law_L_held : GoodIn wsL_law wsL_held := goodIn_ca (goodIn_r _ [252, 120, 253, 254, 255, 2, 256, 257, 149, 126, 127, 128, 129, 130, 131, 14, 140, 141, 142, 56, 143, 78, 549, 550, 551, 552, 553, 554, 555, 556, 516, 517, 518, 519, 520, 521, 522, 523] (by decide +kernel) (by decide +kernel)) (goodIn_sub (fun _ h => List.mem_append_right _ h) (by decide +kernel))
set_option maxRecDepth 20000 in
theorem gL_law_L_held : GoodIn wsL_law (va_wsS RL 106 yL_held wsL_held) := goodIn_app (goodIn_of _ (by decide +kernel)) ggL_law_L_held
set_option maxRecDepth 20000 in
theorem ggL_law_X5_held : GoodIn wsL_law wsX5_held := goodIn_r _ [261, 28, 201, 189, 190, 191, 5, 192, 88, 89, 90, 91, 92, 93, 94, 95, 96, 524, 525, 526, 527, 528, 529, 530, 531, 532, 533, 534, 535, 536, 537, 538, 539, 540, 541, 542, 543, 544, 545, 546, 547, 548] (by decide +kernel) (by decide +kernel)
set_option maxRecDepth 20000 in
theorem gL_law_X5_held : GoodIn wsL_law (wsV RL 108 RX5 yX5_held wsX5_held) := goodIn_app (goodIn_of _ (by decide +kernel)) ggL_law_X5_held
set_option maxRecDepth 20000 in
theorem ggL_law_L_changes : GoodIn wsL_law wsL_changes := goodIn_ca (goodIn_r _ [264, 120, 265, 266, 267, 2, 268, 269, 126, 127, 128, 129, 130, 131, 14, 549, 550, 551, 552, 553, 554, 555, 556, 516, 517, 518, 519, 520, 521, 522, 523] (by decide +kernel) (by decide +kernel)) (goodIn_sub (fun _ h => List.mem_append_right _ h) (by decide +kernel))
set_option maxRecDepth 20000 in
theorem gL_law_L_changes : GoodIn wsL_law (va_wsS RL 109 yL_changes wsL_changes) := goodIn_app (goodIn_of _ (by decide +kernel)) ggL_law_L_changes
set_option maxRecDepth 20000 in
theorem ggL_law_X5_changes : GoodIn wsL_law wsX5_changes := goodIn_r _ [273, 29, 189, 190, 191, 5, 192, 88, 89, 90, 91, 92, 93, 94, 95, 96, 524, 525, 526, 527, 528, 529, 530, 531, 532, 533, 534, 535, 536, 537, 538, 539, 540, 541, 542, 543, 544, 545, 546, 547, 548] (by decide +kernel) (by decide +kernel)
set_option maxRecDepth 20000 in
theorem gL_law_X5_changes : GoodIn wsL_law (wsV RL 111 RX5 yX5_changes wsX5_changes) := goodIn_app (goodIn_of _ (by decide +kernel)) ggL_law_X5_changes
set_option maxRecDepth 20000 in
theorem ggL_law_L_subscribe : GoodIn wsL_law wsL_subscribe := goodIn_ca (goodIn_ca (goodIn_ca (goodIn_r _ [276, 120, 48, 49, 277, 278, 279, 2, 280, 281, 282, 16, 15, 283, 172, 149, 126, 127, 128, 129, 130, 131, 14, 57, 58, 59, 60, 61, 62, 63, 64, 65, 66, 284, 285, 286, 287, 11, 12, 288, 179, 289, 290, 174, 184, 291, 516, 517, 518, 519, 520, 521, 522, 523, 557, 558, 559, 560, 561, 562, 549, 550, 551, 552, 553, 554, 555, 556] (by decide +kernel) (by decide +kernel)) (goodIn_sub (fun _ h => List.mem_append_right _ h) (by decide +kernel))) (goodIn_sub (fun _ h => List.mem_append_left _ (List.mem_append_left _ (List.mem_append_right _ h))) (by decide +kernel))) (goodIn_sub (fun _ h => List.mem_append_left _ (List.mem_append_right _ h)) (by decide +kernel))
set_option maxRecDepth 20000 in
theorem gL_law_L_subscribe : GoodIn wsL_law (va_wsS RL 112 yL_subscribe wsL_subscribe) := goodIn_app (goodIn_of _ (by decide +kernel)) ggL_law_L_subscribe
set_option maxRecDepth 20000 in
theorem ggL_law_X5_subscribe : GoodIn wsL_law wsX5_subscribe := goodIn_r _ [295, 296, 214, 31, 32, 33, 201, 36, 189, 190, 191, 5, 192, 88, 89, 90, 91, 92, 93, 94, 95, 96, 202, 203, 204, 205, 26, 30, 206, 207, 208, 209, 101, 524, 525, 526, 527, 528, 529, 530, 531, 532, 533, 534, 535, 536, 537, 538, 539, 540, 541, 542, 543, 544, 545, 546, 547, 548] (by decide +kernel) (by decide +kernel)
set_option maxRecDepth 20000 in
theorem gL_law_X5_subscribe : GoodIn wsL_law (wsV RL 114 RX5 yX5_subscribe wsX5_subscribe) := goodIn_app (goodIn_of _ (by decide +kernel)) ggL_law_X5_subscribe
set_option maxRecDepth 20000 in
theorem ggL_law_L_end : GoodIn wsL_law wsL_end := goodIn_ca (goodIn_ca (goodIn_r _ [299, 120, 49, 300, 301, 302, 2, 303, 65, 66, 166, 304, 305, 306, 307, 130, 131, 16, 557, 558, 559, 560, 561, 562, 516, 517, 518, 519, 520, 521, 522, 523] (by decide +kernel) (by decide +kernel)) (goodIn_sub (fun _ h => List.mem_append_left _ (List.mem_append_right _ h)) (by decide +kernel))) (goodIn_sub (fun _ h => List.mem_append_right _ h) (by decide +kernel))
set_option maxRecDepth 20000 in
theorem gL_law_L_end : GoodIn wsL_law (va_wsS RL 115 yL_end wsL_end) := goodIn_app (goodIn_of _ (by decide +kernel)) ggL_law_L_end
set_option maxRecDepth 20000 in
theorem ggL_law_X5_end : GoodIn wsL_law wsX5_end := goodIn_r _ [311, 34, 312, 313, 314, 5, 315, 214, 89, 90, 91, 92, 93, 94, 95, 96, 524, 525, 526, 527, 528, 529, 530, 531, 532, 533, 534, 535, 536, 537, 538, 539, 540, 541, 542, 543, 544, 545, 546, 547, 548] (by decide +kernel) (by decide +kernel)
set_option maxRecDepth 20000 in
theorem gL_law_X5_end : GoodIn wsL_law (wsV RL 118 RX5 yX5_end wsX5_end) := goodIn_app (goodIn_of _ (by decide +kernel)) ggL_law_X5_end
set_option maxRecDepth 20000 in
theorem ggL_law_L_goesOn : GoodIn wsL_law wsL_goesOn := goodIn_ca (goodIn_r _ [318, 120, 319, 320, 321, 2, 322, 166, 304, 305, 306, 307, 130, 131, 16, 557, 558, 559, 560, 561, 562, 516, 517, 518, 519, 520, 521, 522, 523] (by decide +kernel) (by decide +kernel)) (goodIn_sub (fun _ h => List.mem_append_right _ h) (by decide +kernel))
set_option maxRecDepth 20000 in
theorem gL_law_L_goesOn : GoodIn wsL_law (va_wsS RL 119 yL_goesOn wsL_goesOn) := goodIn_app (goodIn_of _ (by decide +kernel)) ggL_law_L_goesOn
set_option maxRecDepth 20000 in
theorem ggL_law_X5_goesOn : GoodIn wsL_law wsX5_goesOn := goodIn_r _ [326, 34, 312, 313, 314, 5, 315, 214, 89, 90, 91, 92, 93, 94, 95, 96, 524, 525, 526, 527, 528, 529, 530, 531, 532, 533, 534, 535, 536, 537, 538, 539, 540, 541, 542, 543, 544, 545, 546, 547, 548] (by decide +kernel) (by decide +kernel)
set_option maxRecDepth 20000 in
theorem gL_law_X5_goesOn : GoodIn wsL_law (wsV RL 121 RX5 yX5_goesOn wsX5_goesOn) := goodIn_app (goodIn_of _ (by decide +kernel)) ggL_law_X5_goesOn
set_option maxRecDepth 20000 in
theorem ggL_law_L_reports : GoodIn wsL_law wsL_reports := goodIn_ca (goodIn_r _ [329, 120, 330, 331, 332, 2, 333, 334, 304, 305, 306, 307, 130, 131, 16, 557, 558, 559, 560, 561, 562, 516, 517, 518, 519, 520, 521, 522, 523] (by decide +kernel) (by decide +kernel)) (goodIn_sub (fun _ h => List.mem_append_right _ h) (by decide +kernel))
set_option maxRecDepth 20000 in
theorem gL_law_L_reports : GoodIn wsL_law (va_wsS RL 122 yL_reports wsL_reports) := goodIn_app (goodIn_of _ (by decide +kernel)) ggL_law_L_reports
set_option maxRecDepth 20000 in
theorem ggL_law_X5_reports : GoodIn wsL_law wsX5_reports := goodIn_r _ [338, 35, 312, 313, 314, 5, 315, 214, 89, 90, 91, 92, 93, 94, 95, 96, 524, 525, 526, 527, 528, 529, 530, 531, 532, 533, 534, 535, 536, 537, 538, 539, 540, 541, 542, 543, 544, 545, 546, 547, 548] (by decide +kernel) (by decide +kernel)
set_option maxRecDepth 20000 in
theorem gL_law_X5_reports : GoodIn wsL_law (wsV RL 124 RX5 yX5_reports wsX5_reports) := goodIn_app (goodIn_of _ (by decide +kernel)) ggL_law_X5_reports
set_option maxRecDepth 20000 in
theorem ggL_law_L_reported : GoodIn wsL_law wsL_reported := goodIn_ca (goodIn_r _ [341, 120, 342, 343, 344, 2, 345, 346, 304, 305, 306, 307, 130, 131, 16, 557, 558, 559, 560, 561, 562, 516, 517, 518, 519, 520, 521, 522, 523] (by decide +kernel) (by decide +kernel)) (goodIn_sub (fun _ h => List.mem_append_right _ h) (by decide +kernel))
set_option maxRecDepth 20000 in
theorem gL_law_L_reported : GoodIn wsL_law (va_wsS RL 125 yL_reported wsL_reported) := goodIn_app (goodIn_of _ (by decide +kernel)) ggL_law_L_reported
set_option maxRecDepth 20000 in
theorem ggL_law_X5_reported : GoodIn wsL_law wsX5_reported := goodIn_r _ [350, 36, 312, 313, 314, 5, 315, 214, 89, 90, 91, 92, 93, 94, 95, 96, 524, 525, 526, 527, 528, 529, 530, 531, 532, 533, 534, 535, 536, 537, 538, 539, 540, 541, 542, 543, 544, 545, 546, 547, 548] (by decide +kernel) (by decide +kernel)
set_option maxRecDepth 20000 in
theorem gL_law_X5_reported : GoodIn wsL_law (wsV RL 127 RX5 yX5_reported wsX5_reported) := goodIn_app (goodIn_of _ (by decide +kernel)) ggL_law_X5_reported
set_option maxRecDepth 20000 in
theorem ggL_law_L_addSchedule : GoodIn wsL_law wsL_addSchedule := goodIn_ca (goodIn_ca (goodIn_ca (goodIn_r _ [353, 120, 48, 49, 354, 355, 356, 2, 357, 358, 18, 17, 359, 360, 126, 127, 128, 129, 130, 131, 14, 57, 58, 59, 60, 61, 62, 63, 64, 65, 66, 361, 362, 363, 364, 11, 12, 365, 366, 367, 368, 369, 370, 371, 372, 373, 374, 375, 376, 377, 25, 378, 379, 380, 381, 516, 517, 518, 519, 520, 521, 522, 523, 563, 564, 565, 566, 567, 568, 569, 570, 571] (by decide +kernel) (by decide +kernel)) (goodIn_sub (fun _ h => List.mem_append_right _ h) (by decide +kernel))) (goodIn_sub (fun _ h => List.mem_append_left _ (List.mem_append_left _ (List.mem_append_right _ h))) (by decide +kernel))) (goodIn_sub (fun _ h => List.mem_append_left _ (List.mem_append_right _ h)) (by decide +kernel))
set_option maxRecDepth 20000 in
theorem gL_law_L_addSchedule : GoodIn wsL_law (va_wsS RL 128 yL_addSchedule wsL_addSchedule) := goodIn_app (goodIn_of _ (by decide +kernel)) ggL_law_L_addSchedule
set_option maxRecDepth 20000 in
theorem ggL_law_X5_addSchedule : GoodIn wsL_law wsX5_addSchedule := goodIn_r _ [385, 386, 37, 38, 39, 101, 189, 190, 191, 5, 192, 88, 89, 90, 91, 92, 93, 94, 95, 96, 524, 525, 526, 527, 528, 529, 530, 531, 532, 533, 534, 535, 536, 537, 538, 539, 540, 541, 542, 543, 544, 545, 546, 547, 548] (by decide +kernel) (by decide +kernel)
set_option maxRecDepth 20000 in
theorem gL_law_X5_addSchedule : GoodIn wsL_law (wsV RL 130 RX5 yX5_addSchedule wsX5_addSchedule) := goodIn_app (goodIn_of _ (by decide +kernel)) ggL_law_X5_addSchedule
set_option maxRecDepth 20000 in
theorem ggL_law_L_weekly : GoodIn wsL_law wsL_weekly := goodIn_ca (goodIn_ca (goodIn_ca (goodIn_r _ [389, 120, 48, 49, 390, 391, 392, 2, 393, 394, 395, 396, 397, 398, 399, 130, 131, 18, 57, 58, 59, 60, 61, 400, 401, 402, 403, 132, 133, 134, 135, 136, 137, 138, 56, 139, 71, 72, 404, 405, 406, 360, 407, 370, 408, 371, 62, 63, 64, 65, 66, 409, 410, 411, 369, 412, 381, 378, 379, 380, 413, 414, 415, 416, 149, 417, 418, 419, 420, 421, 422, 423, 424, 425, 426, 427, 428, 429, 430, 144, 145, 146, 147, 148, 125, 150, 151, 152, 153, 75, 73, 154, 155, 156, 157, 76, 158, 159, 160, 161, 77, 79, 74, 78, 162, 163, 164, 165, 16, 166, 167, 168, 169, 170, 171, 172, 173, 174, 175, 176, 177, 178, 179, 180, 181, 182, 183, 184, 563, 564, 565, 566, 567, 516, 517, 518, 519, 520, 521, 522, 523, 549, 550, 551, 552, 553, 554, 555, 556, 568, 569, 570, 571, 557, 558, 559, 560, 561, 562] (by decide +kernel) (by decide +kernel)) (goodIn_sub (fun _ h => List.mem_append_right _ h) (by decide +kernel))) (goodIn_sub (fun _ h => List.mem_append_left _ (List.mem_append_left _ (List.mem_append_right _ h))) (by decide +kernel))) (goodIn_sub (fun _ h => List.mem_append_left _ (List.mem_append_right _ h)) (by decide +kernel))
set_option maxRecDepth 20000 in
theorem gL_law_L_weekly : GoodIn wsL_law (va_wsS RL 131 yL_weekly wsL_weekly) := goodIn_app (goodIn_of _ (by decide +kernel)) ggL_law_L_weekly
set_option maxRecDepth 20000 in
theorem ggL_law_X5_weekly : GoodIn wsL_law wsX5_weekly := goodIn_r _ [434, 37, 40, 435, 436, 437, 5, 438, 386, 89, 90, 91, 193, 194, 195, 196, 101, 24, 92, 93, 94, 95, 96, 439, 440, 441, 442, 41, 42, 43, 39, 443, 444, 445, 446, 201, 38, 447, 448, 449, 450, 197, 198, 199, 200, 30, 29, 27, 28, 202, 203, 204, 205, 26, 206, 207, 208, 209, 210, 211, 212, 213, 214, 36, 31, 34, 32, 35, 215, 524, 525, 526, 527, 528, 529, 530, 531, 532, 533, 534, 535, 536, 537, 538, 539, 540, 541, 542, 543, 544, 545, 546, 547, 548] (by decide +kernel) (by decide +kernel)
set_option maxRecDepth 20000 in
theorem gL_law_X5_weekly : GoodIn wsL_law (wsV RL 134 RX5 yX5_weekly wsX5_weekly) := goodIn_app (goodIn_of _ (by decide +kernel)) ggL_law_X5_weekly
set_option maxRecDepth 20000 in
theorem ggL_law_L_once : GoodIn wsL_law wsL_once := goodIn_ca (goodIn_ca (goodIn_ca (goodIn_r _ [453, 120, 48, 49, 454, 455, 456, 2, 457, 458, 395, 396, 397, 398, 399, 130, 131, 18, 57, 58, 59, 60, 61, 400, 401, 402, 403, 132, 133, 134, 135, 136, 137, 138, 56, 139, 71, 72, 404, 405, 406, 360, 407, 370, 408, 371, 62, 63, 64, 65, 66, 409, 410, 411, 369, 412, 381, 378, 379, 380, 413, 414, 415, 416, 149, 417, 418, 419, 420, 421, 422, 423, 424, 425, 426, 427, 428, 429, 430, 144, 145, 146, 147, 148, 125, 150, 151, 152, 153, 75, 73, 154, 155, 156, 157, 76, 158, 159, 160, 161, 77, 79, 74, 78, 162, 163, 164, 165, 16, 166, 167, 168, 169, 170, 171, 172, 173, 174, 175, 176, 177, 178, 179, 180, 181, 182, 183, 184, 563, 564, 565, 566, 567, 516, 517, 518, 519, 520, 521, 522, 523, 549, 550, 551, 552, 553, 554, 555, 556, 568, 569, 570, 571, 557, 558, 559, 560, 561, 562] (by decide +kernel) (by decide +kernel)) (goodIn_sub (fun _ h => List.mem_append_right _ h) (by decide +kernel))) (goodIn_sub (fun _ h => List.mem_append_left _ (List.mem_append_left _ (List.mem_append_right _ h))) (by decide +kernel))) (goodIn_sub (fun _ h => List.mem_append_left _ (List.mem_append_right _ h)) (by decide +kernel))
set_option maxRecDepth 20000 in
theorem gL_law_L_once : GoodIn wsL_law (va_wsS RL 135 yL_once wsL_once) := goodIn_app (goodIn_of _ (by decide +kernel)) ggL_law_L_once
set_option maxRecDepth 20000 in
theorem ggL_law_X5_once : GoodIn wsL_law wsX5_once := goodIn_r _ [462, 37, 40, 435, 436, 437, 5, 438, 386, 89, 90, 91, 193, 194, 195, 196, 101, 24, 92, 93, 94, 95, 96, 439, 440, 441, 442, 41, 42, 43, 39, 443, 444, 445, 446, 201, 38, 447, 448, 449, 450, 197, 198, 199, 200, 30, 29, 27, 28, 202, 203, 204, 205, 26, 206, 207, 208, 209, 210, 211, 212, 213, 214, 36, 31, 34, 32, 35, 215, 524, 525, 526, 527, 528, 529, 530, 531, 532, 533, 534, 535, 536, 537, 538, 539, 540, 541, 542, 543, 544, 545, 546, 547, 548] (by decide +kernel) (by decide +kernel)
set_option maxRecDepth 20000 in
theorem gL_law_X5_once : GoodIn wsL_law (wsV RL 137 RX5 yX5_once wsX5_once) := goodIn_app (goodIn_of _ (by decide +kernel)) ggL_law_X5_once
set_option maxRecDepth 20000 in
theorem ggL_law_L_tells : GoodIn wsL_law wsL_tells := goodIn_ca (goodIn_ca (goodIn_r _ [465, 120, 48, 466, 467, 468, 2, 469, 470, 396, 397, 398, 399, 130, 131, 18, 57, 58, 59, 60, 61, 418, 419, 420, 360, 421, 371, 370, 422, 423, 424, 369, 425, 381, 378, 426, 427, 428, 429, 430, 379, 380, 516, 517, 518, 519, 520, 521, 522, 523, 563, 564, 565, 566, 567, 568, 569, 570, 571] (by decide +kernel) (by decide +kernel)) (goodIn_sub (fun _ h => List.mem_append_right _ h) (by decide +kernel))) (goodIn_sub (fun _ h => List.mem_append_left _ (List.mem_append_left _ (List.mem_append_right _ h))) (by decide +kernel))
set_option maxRecDepth 20000 in
theorem gL_law_L_tells : GoodIn wsL_law (va_wsS RL 138 yL_tells wsL_tells) := goodIn_app (goodIn_of _ (by decide +kernel)) ggL_law_L_tells
set_option maxRecDepth 20000 in
theorem ggL_law_X5_tells : GoodIn wsL_law wsX5_tells := goodIn_r _ [474, 475, 435, 436, 437, 5, 438, 386, 89, 90, 91, 92, 93, 94, 95, 96, 447, 448, 449, 450, 40, 41, 101, 42, 43, 524, 525, 526, 527, 528, 529, 530, 531, 532, 533, 534, 535, 536, 537, 538, 539, 540, 541, 542, 543, 544, 545, 546, 547, 548] (by decide +kernel) (by decide +kernel)
set_option maxRecDepth 20000 in
theorem gL_law_X5_tells : GoodIn wsL_law (wsV RL 140 RX5 yX5_tells wsX5_tells) := goodIn_app (goodIn_of _ (by decide +kernel)) ggL_law_X5_tells
set_option maxRecDepth 20000 in
theorem ggL_law_L_pass : GoodIn wsL_law wsL_pass := goodIn_ca (goodIn_ca (goodIn_r _ [478, 48, 49, 479, 480, 481, 2, 482, 65, 66, 470, 149, 168, 57, 58, 59, 60, 61, 483, 484, 485, 486, 487, 488, 489, 490, 14, 257, 135, 140, 141, 142, 56, 143, 78, 144, 145, 146, 147, 148, 125, 150, 151, 152, 153, 75, 73, 154, 155, 156, 157, 76, 158, 159, 160, 161, 77, 79, 74, 162, 163, 164, 165, 16, 166, 167, 169, 170, 171, 172, 173, 174, 175, 176, 177, 178, 179, 180, 181, 182, 183, 184, 491, 492, 493, 494, 495, 496, 497, 498, 499, 18, 413, 414, 415, 416, 395, 403, 417, 418, 419, 420, 360, 421, 371, 370, 422, 423, 424, 369, 425, 381, 378, 426, 427, 428, 429, 430, 379, 380, 516, 517, 518, 519, 520, 521, 522, 523, 549, 550, 551, 552, 553, 554, 555, 556, 557, 558, 559, 560, 561, 562, 563, 564, 565, 566, 567, 568, 569, 570, 571] (by decide +kernel) (by decide +kernel)) (goodIn_sub (fun _ h => List.mem_append_left _ (List.mem_append_right _ h)) (by decide +kernel))) (goodIn_sub (fun _ h => List.mem_append_left _ (List.mem_append_left _ (List.mem_append_right _ h))) (by decide +kernel))
set_option maxRecDepth 20000 in
theorem gL_law_L_pass : GoodIn wsL_law (va_wsS RL 141 yL_pass wsL_pass) := goodIn_app (goodIn_of _ (by decide +kernel)) ggL_law_L_pass
set_option maxRecDepth 20000 in
theorem ggL_law_X5_pass : GoodIn wsL_law wsX5_pass := goodIn_r _ [503, 201, 475, 215, 89, 90, 5, 91, 92, 93, 94, 95, 96, 504, 505, 506, 507, 88, 28, 101, 214, 34, 33, 386, 197, 198, 199, 200, 30, 29, 27, 202, 203, 204, 205, 26, 206, 207, 208, 209, 210, 211, 212, 213, 36, 31, 32, 35, 443, 444, 445, 446, 39, 37, 38, 447, 448, 449, 450, 40, 41, 42, 43, 524, 525, 526, 527, 528, 529, 530, 531, 532, 533, 534, 535, 536, 537, 538, 539, 540, 541, 542, 543, 544, 545, 546, 547, 548] (by decide +kernel) (by decide +kernel)
set_option maxRecDepth 20000 in
theorem gL_law_X5_pass : GoodIn wsL_law (wsV RL 143 RX5 yX5_pass wsX5_pass) := goodIn_app (goodIn_of _ (by decide +kernel)) ggL_law_X5_pass
set_option maxRecDepth 20000 in
theorem ggL_law_X4_clock : GoodIn wsL_law wsX4_clock := goodIn_r _ [511, 149, 516, 517, 518, 519, 520, 521, 522, 523] (by decide +kernel) (by decide +kernel)
set_option maxRecDepth 20000 in
theorem gL_law_X4_clock : GoodIn wsL_law (wsV RL 144 RX4 yX4_clock wsX4_clock) := goodIn_app (goodIn_of _ (by decide +kernel)) ggL_law_X4_clock
set_option maxRecDepth 20000 in
theorem ggL_law_X5_clock : GoodIn wsL_law wsX5_clock := goodIn_r _ [515, 96, 201, 524, 525, 526, 527, 528, 529, 530, 531, 532, 533, 534, 535, 536, 537, 538, 539, 540, 541, 542, 543, 544, 545, 546, 547, 548] (by decide +kernel) (by decide +kernel)
set_option maxRecDepth 20000 in
theorem gL_law_X5_clock : GoodIn wsL_law (wsV RL 147 RX5 yX5_clock wsX5_clock) := goodIn_app (goodIn_of _ (by decide +kernel)) ggL_law_X5_clock
end
section
theorem dX0_init_0 : decode cX0_init 0 = .ok (.aload_n 0, 1) := by decide +kernel
theorem dX0_init_1 : decode cX0_init 1 = .ok (.invokespecial 3, 3) := by decide +kernel
theorem dX0_init_4 : decode cX0_init 4 = .ok (.aload_n 0, 1) := by decide +kernel
theorem dX0_init_5 : decode cX0_init 5 = .ok (.bipush 20, 2) := by decide +kernel
theorem dX0_init_7 : decode cX0_init 7 = .ok (.newarray .int, 2) := by decide +kernel
theorem dX0_init_9 : decode cX0_init 9 = .ok (.putfield 9, 3) := by decide +kernel
theorem dX0_init_12 : decode cX0_init 12 = .ok (.aload_n 0, 1) := by decide +kernel
theorem dX0_init_13 : decode cX0_init 13 = .ok (.bipush 20, 2) := by decide +kernel
theorem dX0_init_15 : decode cX0_init 15 = .ok (.newarray .int, 2) := by decide +kernel
theorem dX0_init_17 : decode cX0_init 17 = .ok (.putfield 15, 3) := by decide +kernel
theorem dX0_init_20 : decode cX0_init 20 = .ok (.aload_n 0, 1) := by decide +kernel
theorem dX0_init_21 : decode cX0_init 21 = .ok (.bipush 20, 2) := by decide +kernel
theorem dX0_init_23 : decode cX0_init 23 = .ok (.newarray .int, 2) := by decide +kernel
theorem dX0_init_25 : decode cX0_init 25 = .ok (.putfield 18, 3) := by decide +kernel
theorem dX0_init_28 : decode cX0_init 28 = .ok (.aload_n 0, 1) := by decide +kernel
theorem dX0_init_29 : decode cX0_init 29 = .ok (.iconst 0, 1) := by decide +kernel
theorem dX0_init_30 : decode cX0_init 30 = .ok (.putfield 21, 3) := by decide +kernel
theorem dX0_init_33 : decode cX0_init 33 = .ok (.return_, 1) := by decide +kernel
theorem dX0_add_0 : decode cX0_add 0 = .ok (.aload_n 0, 1) := by decide +kernel
theorem dX0_add_1 : decode cX0_add 1 = .ok (.getfield 21, 3) := by decide +kernel
theorem dX0_add_4 : decode cX0_add 4 = .ok (.bipush 20, 2) := by decide +kernel
theorem dX0_add_6 : decode cX0_add 6 = .ok (.if_icmp .ge 43, 3) := by decide +kernel
theorem dX0_add_9 : decode cX0_add 9 = .ok (.aload_n 0, 1) := by decide +kernel
theorem dX0_add_10 : decode cX0_add 10 = .ok (.getfield 9, 3) := by decide +kernel
theorem dX0_add_13 : decode cX0_add 13 = .ok (.aload_n 0, 1) := by decide +kernel
theorem dX0_add_14 : decode cX0_add 14 = .ok (.getfield 21, 3) := by decide +kernel
theorem dX0_add_17 : decode cX0_add 17 = .ok (.iload_n 1, 1) := by decide +kernel
theorem dX0_add_18 : decode cX0_add 18 = .ok (.iastore, 1) := by decide +kernel
theorem dX0_add_19 : decode cX0_add 19 = .ok (.aload_n 0, 1) := by decide +kernel
theorem dX0_add_20 : decode cX0_add 20 = .ok (.getfield 15, 3) := by decide +kernel
theorem dX0_add_23 : decode cX0_add 23 = .ok (.aload_n 0, 1) := by decide +kernel
theorem dX0_add_24 : decode cX0_add 24 = .ok (.getfield 21, 3) := by decide +kernel
theorem dX0_add_27 : decode cX0_add 27 = .ok (.iload_n 2, 1) := by decide +kernel
theorem dX0_add_28 : decode cX0_add 28 = .ok (.iastore, 1) := by decide +kernel
theorem dX0_add_29 : decode cX0_add 29 = .ok (.aload_n 0, 1) := by decide +kernel
theorem dX0_add_30 : decode cX0_add 30 = .ok (.getfield 18, 3) := by decide +kernel
theorem dX0_add_33 : decode cX0_add 33 = .ok (.aload_n 0, 1) := by decide +kernel
theorem dX0_add_34 : decode cX0_add 34 = .ok (.getfield 21, 3) := by decide +kernel
theorem dX0_add_37 : decode cX0_add 37 = .ok (.iload_n 3, 1) := by decide +kernel
theorem dX0_add_38 : decode cX0_add 38 = .ok (.iastore, 1) := by decide +kernel
theorem dX0_add_39 : decode cX0_add 39 = .ok (.aload_n 0, 1) := by decide +kernel
theorem dX0_add_40 : decode cX0_add 40 = .ok (.dup, 1) := by decide +kernel
theorem dX0_add_41 : decode cX0_add 41 = .ok (.getfield 21, 3) := by decide +kernel
theorem dX0_add_44 : decode cX0_add 44 = .ok (.iconst 1, 1) := by decide +kernel
theorem dX0_add_45 : decode cX0_add 45 = .ok (.iadd, 1) := by decide +kernel
theorem dX0_add_46 : decode cX0_add 46 = .ok (.putfield 21, 3) := by decide +kernel
theorem dX0_add_49 : decode cX0_add 49 = .ok (.return_, 1) := by decide +kernel
theorem dX0_hasDay_0 : decode cX0_hasDay 0 = .ok (.iconst 0, 1) := by decide +kernel
theorem dX0_hasDay_1 : decode cX0_hasDay 1 = .ok (.istore_n 2, 1) := by decide +kernel
theorem dX0_hasDay_2 : decode cX0_hasDay 2 = .ok (.iload_n 2, 1) := by decide +kernel
theorem dX0_hasDay_3 : decode cX0_hasDay 3 = .ok (.aload_n 0, 1) := by decide +kernel
theorem dX0_hasDay_4 : decode cX0_hasDay 4 = .ok (.getfield 21, 3) := by decide +kernel
theorem dX0_hasDay_7 : decode cX0_hasDay 7 = .ok (.if_icmp .ge 21, 3) := by decide +kernel
theorem dX0_hasDay_10 : decode cX0_hasDay 10 = .ok (.aload_n 0, 1) := by decide +kernel
theorem dX0_hasDay_11 : decode cX0_hasDay 11 = .ok (.getfield 9, 3) := by decide +kernel
theorem dX0_hasDay_14 : decode cX0_hasDay 14 = .ok (.iload_n 2, 1) := by decide +kernel
theorem dX0_hasDay_15 : decode cX0_hasDay 15 = .ok (.iaload, 1) := by decide +kernel
theorem dX0_hasDay_16 : decode cX0_hasDay 16 = .ok (.iload_n 1, 1) := by decide +kernel
theorem dX0_hasDay_17 : decode cX0_hasDay 17 = .ok (.if_icmp .ne 5, 3) := by decide +kernel
theorem dX0_hasDay_20 : decode cX0_hasDay 20 = .ok (.iconst 1, 1) := by decide +kernel
theorem dX0_hasDay_21 : decode cX0_hasDay 21 = .ok (.ireturn, 1) := by decide +kernel
theorem dX0_hasDay_22 : decode cX0_hasDay 22 = .ok (.iinc 2 1, 3) := by decide +kernel
theorem dX0_hasDay_25 : decode cX0_hasDay 25 = .ok (.goto (-23), 3) := by decide +kernel
theorem dX0_hasDay_28 : decode cX0_hasDay 28 = .ok (.iconst 0, 1) := by decide +kernel
theorem dX0_hasDay_29 : decode cX0_hasDay 29 = .ok (.ireturn, 1) := by decide +kernel
theorem dX0_latest_0 : decode cX0_latest 0 = .ok (.iconst (-1), 1) := by decide +kernel
theorem dX0_latest_1 : decode cX0_latest 1 = .ok (.istore_n 3, 1) := by decide +kernel
theorem dX0_latest_2 : decode cX0_latest 2 = .ok (.ldc 25, 2) := by decide +kernel
theorem dX0_latest_4 : decode cX0_latest 4 = .ok (.istore 4, 2) := by decide +kernel
theorem dX0_latest_6 : decode cX0_latest 6 = .ok (.iconst 0, 1) := by decide +kernel
theorem dX0_latest_7 : decode cX0_latest 7 = .ok (.istore 5, 2) := by decide +kernel
theorem dX0_latest_9 : decode cX0_latest 9 = .ok (.iload 5, 2) := by decide +kernel
theorem dX0_latest_11 : decode cX0_latest 11 = .ok (.aload_n 0, 1) := by decide +kernel
theorem dX0_latest_12 : decode cX0_latest 12 = .ok (.getfield 21, 3) := by decide +kernel
theorem dX0_latest_15 : decode cX0_latest 15 = .ok (.if_icmp .ge 59, 3) := by decide +kernel
theorem dX0_latest_18 : decode cX0_latest 18 = .ok (.aload_n 0, 1) := by decide +kernel
theorem dX0_latest_19 : decode cX0_latest 19 = .ok (.getfield 9, 3) := by decide +kernel
theorem dX0_latest_22 : decode cX0_latest 22 = .ok (.iload 5, 2) := by decide +kernel
theorem dX0_latest_24 : decode cX0_latest 24 = .ok (.iaload, 1) := by decide +kernel
theorem dX0_latest_25 : decode cX0_latest 25 = .ok (.iload_n 1, 1) := by decide +kernel
theorem dX0_latest_26 : decode cX0_latest 26 = .ok (.if_icmp .ne 42, 3) := by decide +kernel
theorem dX0_latest_29 : decode cX0_latest 29 = .ok (.aload_n 0, 1) := by decide +kernel
theorem dX0_latest_30 : decode cX0_latest 30 = .ok (.getfield 15, 3) := by decide +kernel
theorem dX0_latest_33 : decode cX0_latest 33 = .ok (.iload 5, 2) := by decide +kernel
theorem dX0_latest_35 : decode cX0_latest 35 = .ok (.iaload, 1) := by decide +kernel
theorem dX0_latest_36 : decode cX0_latest 36 = .ok (.iload_n 2, 1) := by decide +kernel
theorem dX0_latest_37 : decode cX0_latest 37 = .ok (.if_icmp .gt 31, 3) := by decide +kernel
theorem dX0_latest_40 : decode cX0_latest 40 = .ok (.aload_n 0, 1) := by decide +kernel
theorem dX0_latest_41 : decode cX0_latest 41 = .ok (.getfield 15, 3) := by decide +kernel
theorem dX0_latest_44 : decode cX0_latest 44 = .ok (.iload 5, 2) := by decide +kernel
theorem dX0_latest_46 : decode cX0_latest 46 = .ok (.iaload, 1) := by decide +kernel
theorem dX0_latest_47 : decode cX0_latest 47 = .ok (.iload_n 3, 1) := by decide +kernel
theorem dX0_latest_48 : decode cX0_latest 48 = .ok (.if_icmp .lt 20, 3) := by decide +kernel
theorem dX0_latest_51 : decode cX0_latest 51 = .ok (.aload_n 0, 1) := by decide +kernel
theorem dX0_latest_52 : decode cX0_latest 52 = .ok (.getfield 15, 3) := by decide +kernel
theorem dX0_latest_55 : decode cX0_latest 55 = .ok (.iload 5, 2) := by decide +kernel
theorem dX0_latest_57 : decode cX0_latest 57 = .ok (.iaload, 1) := by decide +kernel
theorem dX0_latest_58 : decode cX0_latest 58 = .ok (.istore_n 3, 1) := by decide +kernel
theorem dX0_latest_59 : decode cX0_latest 59 = .ok (.aload_n 0, 1) := by decide +kernel
theorem dX0_latest_60 : decode cX0_latest 60 = .ok (.getfield 18, 3) := by decide +kernel
theorem dX0_latest_63 : decode cX0_latest 63 = .ok (.iload 5, 2) := by decide +kernel
theorem dX0_latest_65 : decode cX0_latest 65 = .ok (.iaload, 1) := by decide +kernel
theorem dX0_latest_66 : decode cX0_latest 66 = .ok (.istore 4, 2) := by decide +kernel
theorem dX0_latest_68 : decode cX0_latest 68 = .ok (.iinc 5 1, 3) := by decide +kernel
theorem dX0_latest_71 : decode cX0_latest 71 = .ok (.goto (-62), 3) := by decide +kernel
theorem dX0_latest_74 : decode cX0_latest 74 = .ok (.iload 4, 2) := by decide +kernel
theorem dX0_latest_76 : decode cX0_latest 76 = .ok (.ireturn, 1) := by decide +kernel
theorem dX1_init_0 : decode cX1_init 0 = .ok (.aload_n 0, 1) := by decide +kernel
theorem dX1_init_1 : decode cX1_init 1 = .ok (.invokespecial 3, 3) := by decide +kernel
theorem dX1_init_4 : decode cX1_init 4 = .ok (.aload_n 0, 1) := by decide +kernel
theorem dX1_init_5 : decode cX1_init 5 = .ok (.iload_n 1, 1) := by decide +kernel
theorem dX1_init_6 : decode cX1_init 6 = .ok (.putfield 9, 3) := by decide +kernel
theorem dX1_init_9 : decode cX1_init 9 = .ok (.aload_n 0, 1) := by decide +kernel
theorem dX1_init_10 : decode cX1_init 10 = .ok (.iload_n 2, 1) := by decide +kernel
theorem dX1_init_11 : decode cX1_init 11 = .ok (.putfield 15, 3) := by decide +kernel
theorem dX1_init_14 : decode cX1_init 14 = .ok (.aload_n 0, 1) := by decide +kernel
theorem dX1_init_15 : decode cX1_init 15 = .ok (.iload_n 3, 1) := by decide +kernel
theorem dX1_init_16 : decode cX1_init 16 = .ok (.putfield 18, 3) := by decide +kernel
theorem dX1_init_19 : decode cX1_init 19 = .ok (.aload_n 0, 1) := by decide +kernel
theorem dX1_init_20 : decode cX1_init 20 = .ok (.iload 4, 2) := by decide +kernel
theorem dX1_init_22 : decode cX1_init 22 = .ok (.putfield 21, 3) := by decide +kernel
theorem dX1_init_25 : decode cX1_init 25 = .ok (.aload_n 0, 1) := by decide +kernel
theorem dX1_init_26 : decode cX1_init 26 = .ok (.bipush 17, 2) := by decide +kernel
theorem dX1_init_28 : decode cX1_init 28 = .ok (.newarray .int, 2) := by decide +kernel
theorem dX1_init_30 : decode cX1_init 30 = .ok (.putfield 24, 3) := by decide +kernel
theorem dX1_init_33 : decode cX1_init 33 = .ok (.aload_n 0, 1) := by decide +kernel
theorem dX1_init_34 : decode cX1_init 34 = .ok (.getfield 24, 3) := by decide +kernel
theorem dX1_init_37 : decode cX1_init 37 = .ok (.ldc 28, 2) := by decide +kernel
theorem dX1_init_39 : decode cX1_init 39 = .ok (.invokestatic 29, 3) := by decide +kernel
theorem dX1_init_42 : decode cX1_init 42 = .ok (.aload_n 0, 1) := by decide +kernel
theorem dX1_init_43 : decode cX1_init 43 = .ok (.iload_n 3, 1) := by decide +kernel
theorem dX1_init_44 : decode cX1_init 44 = .ok (.putfield 35, 3) := by decide +kernel
theorem dX1_init_47 : decode cX1_init 47 = .ok (.aload_n 0, 1) := by decide +kernel
theorem dX1_init_48 : decode cX1_init 48 = .ok (.iconst 0, 1) := by decide +kernel
theorem dX1_init_49 : decode cX1_init 49 = .ok (.putfield 38, 3) := by decide +kernel
theorem dX1_init_52 : decode cX1_init 52 = .ok (.aload_n 0, 1) := by decide +kernel
theorem dX1_init_53 : decode cX1_init 53 = .ok (.iconst 0, 1) := by decide +kernel
theorem dX1_init_54 : decode cX1_init 54 = .ok (.putfield 41, 3) := by decide +kernel
theorem dX1_init_57 : decode cX1_init 57 = .ok (.return_, 1) := by decide +kernel
theorem dX1_canHave_0 : decode cX1_canHave 0 = .ok (.iload_n 1, 1) := by decide +kernel
theorem dX1_canHave_1 : decode cX1_canHave 1 = .ok (.aload_n 0, 1) := by decide +kernel
theorem dX1_canHave_2 : decode cX1_canHave 2 = .ok (.getfield 9, 3) := by decide +kernel
theorem dX1_canHave_5 : decode cX1_canHave 5 = .ok (.if_icmp .lt 15, 3) := by decide +kernel
theorem dX1_canHave_8 : decode cX1_canHave 8 = .ok (.iload_n 1, 1) := by decide +kernel
theorem dX1_canHave_9 : decode cX1_canHave 9 = .ok (.aload_n 0, 1) := by decide +kernel
theorem dX1_canHave_10 : decode cX1_canHave 10 = .ok (.getfield 15, 3) := by decide +kernel
theorem dX1_canHave_13 : decode cX1_canHave 13 = .ok (.if_icmp .gt 7, 3) := by decide +kernel
theorem dX1_canHave_16 : decode cX1_canHave 16 = .ok (.iconst 1, 1) := by decide +kernel
theorem dX1_canHave_17 : decode cX1_canHave 17 = .ok (.goto 4, 3) := by decide +kernel
theorem dX1_canHave_20 : decode cX1_canHave 20 = .ok (.iconst 0, 1) := by decide +kernel
theorem dX1_canHave_21 : decode cX1_canHave 21 = .ok (.ireturn, 1) := by decide +kernel
theorem dX1_isHeld_0 : decode cX1_isHeld 0 = .ok (.aload_n 0, 1) := by decide +kernel
theorem dX1_isHeld_1 : decode cX1_isHeld 1 = .ok (.getfield 38, 3) := by decide +kernel
theorem dX1_isHeld_4 : decode cX1_isHeld 4 = .ok (.ifCond .eq 7, 3) := by decide +kernel
theorem dX1_isHeld_7 : decode cX1_isHeld 7 = .ok (.iconst 1, 1) := by decide +kernel
theorem dX1_isHeld_8 : decode cX1_isHeld 8 = .ok (.goto 4, 3) := by decide +kernel
theorem dX1_isHeld_11 : decode cX1_isHeld 11 = .ok (.iconst 0, 1) := by decide +kernel
theorem dX1_isHeld_12 : decode cX1_isHeld 12 = .ok (.ireturn, 1) := by decide +kernel
theorem dX1_lowestCommanded_0 : decode cX1_lowestCommanded 0 = .ok (.iconst 1, 1) := by decide +kernel
theorem dX1_lowestCommanded_1 : decode cX1_lowestCommanded 1 = .ok (.istore_n 1, 1) := by decide +kernel
theorem dX1_lowestCommanded_2 : decode cX1_lowestCommanded 2 = .ok (.iload_n 1, 1) := by decide +kernel
theorem dX1_lowestCommanded_3 : decode cX1_lowestCommanded 3 = .ok (.aload_n 0, 1) := by decide +kernel
theorem dX1_lowestCommanded_4 : decode cX1_lowestCommanded 4 = .ok (.getfield 24, 3) := by decide +kernel
theorem dX1_lowestCommanded_7 : decode cX1_lowestCommanded 7 = .ok (.arraylength, 1) := by decide +kernel
theorem dX1_lowestCommanded_8 : decode cX1_lowestCommanded 8 = .ok (.if_icmp .ge 22, 3) := by decide +kernel
theorem dX1_lowestCommanded_11 : decode cX1_lowestCommanded 11 = .ok (.aload_n 0, 1) := by decide +kernel
theorem dX1_lowestCommanded_12 : decode cX1_lowestCommanded 12 = .ok (.getfield 24, 3) := by decide +kernel
theorem dX1_lowestCommanded_15 : decode cX1_lowestCommanded 15 = .ok (.iload_n 1, 1) := by decide +kernel
theorem dX1_lowestCommanded_16 : decode cX1_lowestCommanded 16 = .ok (.iaload, 1) := by decide +kernel
theorem dX1_lowestCommanded_17 : decode cX1_lowestCommanded 17 = .ok (.ldc 28, 2) := by decide +kernel
theorem dX1_lowestCommanded_19 : decode cX1_lowestCommanded 19 = .ok (.if_icmp .eq 5, 3) := by decide +kernel
theorem dX1_lowestCommanded_22 : decode cX1_lowestCommanded 22 = .ok (.iload_n 1, 1) := by decide +kernel
theorem dX1_lowestCommanded_23 : decode cX1_lowestCommanded 23 = .ok (.ireturn, 1) := by decide +kernel
theorem dX1_lowestCommanded_24 : decode cX1_lowestCommanded 24 = .ok (.iinc 1 1, 3) := by decide +kernel
theorem dX1_lowestCommanded_27 : decode cX1_lowestCommanded 27 = .ok (.goto (-25), 3) := by decide +kernel
theorem dX1_lowestCommanded_30 : decode cX1_lowestCommanded 30 = .ok (.bipush 17, 2) := by decide +kernel
theorem dX1_lowestCommanded_32 : decode cX1_lowestCommanded 32 = .ok (.ireturn, 1) := by decide +kernel
theorem dX1_dueValue_0 : decode cX1_dueValue 0 = .ok (.aload_n 0, 1) := by decide +kernel
theorem dX1_dueValue_1 : decode cX1_dueValue 1 = .ok (.invokevirtual 44, 3) := by decide +kernel
theorem dX1_dueValue_4 : decode cX1_dueValue 4 = .ok (.istore_n 1, 1) := by decide +kernel
theorem dX1_dueValue_5 : decode cX1_dueValue 5 = .ok (.iload_n 1, 1) := by decide +kernel
theorem dX1_dueValue_6 : decode cX1_dueValue 6 = .ok (.aload_n 0, 1) := by decide +kernel
theorem dX1_dueValue_7 : decode cX1_dueValue 7 = .ok (.getfield 24, 3) := by decide +kernel
theorem dX1_dueValue_10 : decode cX1_dueValue 10 = .ok (.arraylength, 1) := by decide +kernel
theorem dX1_dueValue_11 : decode cX1_dueValue 11 = .ok (.if_icmp .ge 12, 3) := by decide +kernel
theorem dX1_dueValue_14 : decode cX1_dueValue 14 = .ok (.aload_n 0, 1) := by decide +kernel
theorem dX1_dueValue_15 : decode cX1_dueValue 15 = .ok (.getfield 24, 3) := by decide +kernel
theorem dX1_dueValue_18 : decode cX1_dueValue 18 = .ok (.iload_n 1, 1) := by decide +kernel
theorem dX1_dueValue_19 : decode cX1_dueValue 19 = .ok (.iaload, 1) := by decide +kernel
theorem dX1_dueValue_20 : decode cX1_dueValue 20 = .ok (.goto 7, 3) := by decide +kernel
theorem dX1_dueValue_23 : decode cX1_dueValue 23 = .ok (.aload_n 0, 1) := by decide +kernel
theorem dX1_dueValue_24 : decode cX1_dueValue 24 = .ok (.getfield 18, 3) := by decide +kernel
theorem dX1_dueValue_27 : decode cX1_dueValue 27 = .ok (.ireturn, 1) := by decide +kernel
theorem dX1_change_0 : decode cX1_change 0 = .ok (.aload_n 0, 1) := by decide +kernel
theorem dX1_change_1 : decode cX1_change 1 = .ok (.iload_n 1, 1) := by decide +kernel
theorem dX1_change_2 : decode cX1_change 2 = .ok (.putfield 35, 3) := by decide +kernel
theorem dX1_change_5 : decode cX1_change 5 = .ok (.aload_n 0, 1) := by decide +kernel
theorem dX1_change_6 : decode cX1_change 6 = .ok (.dup, 1) := by decide +kernel
theorem dX1_change_7 : decode cX1_change 7 = .ok (.getfield 41, 3) := by decide +kernel
theorem dX1_change_10 : decode cX1_change 10 = .ok (.iconst 1, 1) := by decide +kernel
theorem dX1_change_11 : decode cX1_change 11 = .ok (.iadd, 1) := by decide +kernel
theorem dX1_change_12 : decode cX1_change 12 = .ok (.putfield 41, 3) := by decide +kernel
theorem dX1_change_15 : decode cX1_change 15 = .ok (.aload_n 0, 1) := by decide +kernel
theorem dX1_change_16 : decode cX1_change 16 = .ok (.getfield 21, 3) := by decide +kernel
theorem dX1_change_19 : decode cX1_change 19 = .ok (.ifCond .le 21, 3) := by decide +kernel
theorem dX1_change_22 : decode cX1_change 22 = .ok (.aload_n 0, 1) := by decide +kernel
theorem dX1_change_23 : decode cX1_change 23 = .ok (.getfield 24, 3) := by decide +kernel
theorem dX1_change_26 : decode cX1_change 26 = .ok (.bipush 6, 2) := by decide +kernel
theorem dX1_change_28 : decode cX1_change 28 = .ok (.iload_n 1, 1) := by decide +kernel
theorem dX1_change_29 : decode cX1_change 29 = .ok (.iastore, 1) := by decide +kernel
theorem dX1_change_30 : decode cX1_change 30 = .ok (.aload_n 0, 1) := by decide +kernel
theorem dX1_change_31 : decode cX1_change 31 = .ok (.iload_n 2, 1) := by decide +kernel
theorem dX1_change_32 : decode cX1_change 32 = .ok (.aload_n 0, 1) := by decide +kernel
theorem dX1_change_33 : decode cX1_change 33 = .ok (.getfield 21, 3) := by decide +kernel
theorem dX1_change_36 : decode cX1_change 36 = .ok (.iadd, 1) := by decide +kernel
theorem dX1_change_37 : decode cX1_change 37 = .ok (.putfield 38, 3) := by decide +kernel
theorem dX1_change_40 : decode cX1_change 40 = .ok (.return_, 1) := by decide +kernel
theorem dX2_init_0 : decode cX2_init 0 = .ok (.aload_n 0, 1) := by decide +kernel
theorem dX2_init_1 : decode cX2_init 1 = .ok (.invokespecial 3, 3) := by decide +kernel
theorem dX2_init_4 : decode cX2_init 4 = .ok (.aload_n 0, 1) := by decide +kernel
theorem dX2_init_5 : decode cX2_init 5 = .ok (.aload_n 1, 1) := by decide +kernel
theorem dX2_init_6 : decode cX2_init 6 = .ok (.putfield 9, 3) := by decide +kernel
theorem dX2_init_9 : decode cX2_init 9 = .ok (.aload_n 0, 1) := by decide +kernel
theorem dX2_init_10 : decode cX2_init 10 = .ok (.iload_n 2, 1) := by decide +kernel
theorem dX2_init_11 : decode cX2_init 11 = .ok (.putfield 15, 3) := by decide +kernel
theorem dX2_init_14 : decode cX2_init 14 = .ok (.aload_n 0, 1) := by decide +kernel
theorem dX2_init_15 : decode cX2_init 15 = .ok (.new 19, 3) := by decide +kernel
theorem dX2_init_18 : decode cX2_init 18 = .ok (.dup, 1) := by decide +kernel
theorem dX2_init_19 : decode cX2_init 19 = .ok (.invokespecial 21, 3) := by decide +kernel
theorem dX2_init_22 : decode cX2_init 22 = .ok (.putfield 22, 3) := by decide +kernel
theorem dX2_init_25 : decode cX2_init 25 = .ok (.aload_n 0, 1) := by decide +kernel
theorem dX2_init_26 : decode cX2_init 26 = .ok (.new 19, 3) := by decide +kernel
theorem dX2_init_29 : decode cX2_init 29 = .ok (.dup, 1) := by decide +kernel
theorem dX2_init_30 : decode cX2_init 30 = .ok (.invokespecial 21, 3) := by decide +kernel
theorem dX2_init_33 : decode cX2_init 33 = .ok (.putfield 26, 3) := by decide +kernel
theorem dX2_init_36 : decode cX2_init 36 = .ok (.aload_n 0, 1) := by decide +kernel
theorem dX2_init_37 : decode cX2_init 37 = .ok (.ldc 29, 2) := by decide +kernel
theorem dX2_init_39 : decode cX2_init 39 = .ok (.putfield 30, 3) := by decide +kernel
theorem dX2_init_42 : decode cX2_init 42 = .ok (.return_, 1) := by decide +kernel
theorem dX2_entryCount_0 : decode cX2_entryCount 0 = .ok (.aload_n 0, 1) := by decide +kernel
theorem dX2_entryCount_1 : decode cX2_entryCount 1 = .ok (.getfield 22, 3) := by decide +kernel
theorem dX2_entryCount_4 : decode cX2_entryCount 4 = .ok (.getfield 33, 3) := by decide +kernel
theorem dX2_entryCount_7 : decode cX2_entryCount 7 = .ok (.aload_n 0, 1) := by decide +kernel
theorem dX2_entryCount_8 : decode cX2_entryCount 8 = .ok (.getfield 26, 3) := by decide +kernel
theorem dX2_entryCount_11 : decode cX2_entryCount 11 = .ok (.getfield 33, 3) := by decide +kernel
theorem dX2_entryCount_14 : decode cX2_entryCount 14 = .ok (.iadd, 1) := by decide +kernel
theorem dX2_entryCount_15 : decode cX2_entryCount 15 = .ok (.ireturn, 1) := by decide +kernel
theorem dX2_toldAt_0 : decode cX2_toldAt 0 = .ok (.iload_n 1, 1) := by decide +kernel
theorem dX2_toldAt_1 : decode cX2_toldAt 1 = .ok (.sipush 1440, 3) := by decide +kernel
theorem dX2_toldAt_4 : decode cX2_toldAt 4 = .ok (.idiv, 1) := by decide +kernel
theorem dX2_toldAt_5 : decode cX2_toldAt 5 = .ok (.istore_n 2, 1) := by decide +kernel
theorem dX2_toldAt_6 : decode cX2_toldAt 6 = .ok (.iload_n 1, 1) := by decide +kernel
theorem dX2_toldAt_7 : decode cX2_toldAt 7 = .ok (.sipush 1440, 3) := by decide +kernel
theorem dX2_toldAt_10 : decode cX2_toldAt 10 = .ok (.irem, 1) := by decide +kernel
theorem dX2_toldAt_11 : decode cX2_toldAt 11 = .ok (.istore_n 3, 1) := by decide +kernel
theorem dX2_toldAt_12 : decode cX2_toldAt 12 = .ok (.aload_n 0, 1) := by decide +kernel
theorem dX2_toldAt_13 : decode cX2_toldAt 13 = .ok (.getfield 26, 3) := by decide +kernel
theorem dX2_toldAt_16 : decode cX2_toldAt 16 = .ok (.iload_n 2, 1) := by decide +kernel
theorem dX2_toldAt_17 : decode cX2_toldAt 17 = .ok (.invokevirtual 36, 3) := by decide +kernel
theorem dX2_toldAt_20 : decode cX2_toldAt 20 = .ok (.ifCond .eq 13, 3) := by decide +kernel
theorem dX2_toldAt_23 : decode cX2_toldAt 23 = .ok (.aload_n 0, 1) := by decide +kernel
theorem dX2_toldAt_24 : decode cX2_toldAt 24 = .ok (.getfield 26, 3) := by decide +kernel
theorem dX2_toldAt_27 : decode cX2_toldAt 27 = .ok (.iload_n 2, 1) := by decide +kernel
theorem dX2_toldAt_28 : decode cX2_toldAt 28 = .ok (.iload_n 3, 1) := by decide +kernel
theorem dX2_toldAt_29 : decode cX2_toldAt 29 = .ok (.invokevirtual 40, 3) := by decide +kernel
theorem dX2_toldAt_32 : decode cX2_toldAt 32 = .ok (.ireturn, 1) := by decide +kernel
theorem dX2_toldAt_33 : decode cX2_toldAt 33 = .ok (.aload_n 0, 1) := by decide +kernel
theorem dX2_toldAt_34 : decode cX2_toldAt 34 = .ok (.getfield 22, 3) := by decide +kernel
theorem dX2_toldAt_37 : decode cX2_toldAt 37 = .ok (.iload_n 2, 1) := by decide +kernel
theorem dX2_toldAt_38 : decode cX2_toldAt 38 = .ok (.bipush 7, 2) := by decide +kernel
theorem dX2_toldAt_40 : decode cX2_toldAt 40 = .ok (.irem, 1) := by decide +kernel
theorem dX2_toldAt_41 : decode cX2_toldAt 41 = .ok (.iload_n 3, 1) := by decide +kernel
theorem dX2_toldAt_42 : decode cX2_toldAt 42 = .ok (.invokevirtual 40, 3) := by decide +kernel
theorem dX2_toldAt_45 : decode cX2_toldAt 45 = .ok (.ireturn, 1) := by decide +kernel
theorem dX3_init_0 : decode cX3_init 0 = .ok (.aload_n 0, 1) := by decide +kernel
theorem dX3_init_1 : decode cX3_init 1 = .ok (.invokespecial 1, 3) := by decide +kernel
theorem dX3_init_4 : decode cX3_init 4 = .ok (.aload_n 0, 1) := by decide +kernel
theorem dX3_init_5 : decode cX3_init 5 = .ok (.aload_n 1, 1) := by decide +kernel
theorem dX3_init_6 : decode cX3_init 6 = .ok (.putfield 7, 3) := by decide +kernel
theorem dX3_init_9 : decode cX3_init 9 = .ok (.aload_n 0, 1) := by decide +kernel
theorem dX3_init_10 : decode cX3_init 10 = .ok (.iload_n 2, 1) := by decide +kernel
theorem dX3_init_11 : decode cX3_init 11 = .ok (.putfield 13, 3) := by decide +kernel
theorem dX3_init_14 : decode cX3_init 14 = .ok (.aload_n 0, 1) := by decide +kernel
theorem dX3_init_15 : decode cX3_init 15 = .ok (.iload_n 3, 1) := by decide +kernel
theorem dX3_init_16 : decode cX3_init 16 = .ok (.putfield 17, 3) := by decide +kernel
theorem dX3_init_19 : decode cX3_init 19 = .ok (.aload_n 0, 1) := by decide +kernel
theorem dX3_init_20 : decode cX3_init 20 = .ok (.aload_n 1, 1) := by decide +kernel
theorem dX3_init_21 : decode cX3_init 21 = .ok (.getfield 20, 3) := by decide +kernel
theorem dX3_init_24 : decode cX3_init 24 = .ok (.putfield 25, 3) := by decide +kernel
theorem dX3_init_27 : decode cX3_init 27 = .ok (.aload_n 0, 1) := by decide +kernel
theorem dX3_init_28 : decode cX3_init 28 = .ok (.iconst 0, 1) := by decide +kernel
theorem dX3_init_29 : decode cX3_init 29 = .ok (.putfield 28, 3) := by decide +kernel
theorem dX3_init_32 : decode cX3_init 32 = .ok (.aload_n 0, 1) := by decide +kernel
theorem dX3_init_33 : decode cX3_init 33 = .ok (.iconst 1, 1) := by decide +kernel
theorem dX3_init_34 : decode cX3_init 34 = .ok (.putfield 31, 3) := by decide +kernel
theorem dX3_init_37 : decode cX3_init 37 = .ok (.return_, 1) := by decide +kernel
theorem dX3_isFarFrom_0 : decode cX3_isFarFrom 0 = .ok (.iload_n 1, 1) := by decide +kernel
theorem dX3_isFarFrom_1 : decode cX3_isFarFrom 1 = .ok (.aload_n 0, 1) := by decide +kernel
theorem dX3_isFarFrom_2 : decode cX3_isFarFrom 2 = .ok (.getfield 25, 3) := by decide +kernel
theorem dX3_isFarFrom_5 : decode cX3_isFarFrom 5 = .ok (.isub, 1) := by decide +kernel
theorem dX3_isFarFrom_6 : decode cX3_isFarFrom 6 = .ok (.invokestatic 35, 3) := by decide +kernel
theorem dX3_isFarFrom_9 : decode cX3_isFarFrom 9 = .ok (.aload_n 0, 1) := by decide +kernel
theorem dX3_isFarFrom_10 : decode cX3_isFarFrom 10 = .ok (.getfield 13, 3) := by decide +kernel
theorem dX3_isFarFrom_13 : decode cX3_isFarFrom 13 = .ok (.if_icmp .lt 7, 3) := by decide +kernel
theorem dX3_isFarFrom_16 : decode cX3_isFarFrom 16 = .ok (.iconst 1, 1) := by decide +kernel
theorem dX3_isFarFrom_17 : decode cX3_isFarFrom 17 = .ok (.goto 4, 3) := by decide +kernel
theorem dX3_isFarFrom_20 : decode cX3_isFarFrom 20 = .ok (.iconst 0, 1) := by decide +kernel
theorem dX3_isFarFrom_21 : decode cX3_isFarFrom 21 = .ok (.ireturn, 1) := by decide +kernel
theorem dX3_report_0 : decode cX3_report 0 = .ok (.aload_n 0, 1) := by decide +kernel
theorem dX3_report_1 : decode cX3_report 1 = .ok (.iload_n 1, 1) := by decide +kernel
theorem dX3_report_2 : decode cX3_report 2 = .ok (.putfield 25, 3) := by decide +kernel
theorem dX3_report_5 : decode cX3_report 5 = .ok (.aload_n 0, 1) := by decide +kernel
theorem dX3_report_6 : decode cX3_report 6 = .ok (.dup, 1) := by decide +kernel
theorem dX3_report_7 : decode cX3_report 7 = .ok (.getfield 28, 3) := by decide +kernel
theorem dX3_report_10 : decode cX3_report 10 = .ok (.iconst 1, 1) := by decide +kernel
theorem dX3_report_11 : decode cX3_report 11 = .ok (.iadd, 1) := by decide +kernel
theorem dX3_report_12 : decode cX3_report 12 = .ok (.putfield 28, 3) := by decide +kernel
theorem dX3_report_15 : decode cX3_report 15 = .ok (.return_, 1) := by decide +kernel
theorem dX4_init_0 : decode cX4_init 0 = .ok (.aload_n 0, 1) := by decide +kernel
theorem dX4_init_1 : decode cX4_init 1 = .ok (.invokespecial 1, 3) := by decide +kernel
theorem dX4_init_4 : decode cX4_init 4 = .ok (.aload_n 0, 1) := by decide +kernel
theorem dX4_init_5 : decode cX4_init 5 = .ok (.bipush 16, 2) := by decide +kernel
theorem dX4_init_7 : decode cX4_init 7 = .ok (.anewarray 9, 3) := by decide +kernel
theorem dX4_init_10 : decode cX4_init 10 = .ok (.putfield 11, 3) := by decide +kernel
theorem dX4_init_13 : decode cX4_init 13 = .ok (.aload_n 0, 1) := by decide +kernel
theorem dX4_init_14 : decode cX4_init 14 = .ok (.bipush 30, 2) := by decide +kernel
theorem dX4_init_16 : decode cX4_init 16 = .ok (.anewarray 15, 3) := by decide +kernel
theorem dX4_init_19 : decode cX4_init 19 = .ok (.putfield 17, 3) := by decide +kernel
theorem dX4_init_22 : decode cX4_init 22 = .ok (.aload_n 0, 1) := by decide +kernel
theorem dX4_init_23 : decode cX4_init 23 = .ok (.iconst 4, 1) := by decide +kernel
theorem dX4_init_24 : decode cX4_init 24 = .ok (.anewarray 21, 3) := by decide +kernel
theorem dX4_init_27 : decode cX4_init 27 = .ok (.putfield 23, 3) := by decide +kernel
theorem dX4_init_30 : decode cX4_init 30 = .ok (.return_, 1) := by decide +kernel
theorem dX4_addMeasure_0 : decode cX4_addMeasure 0 = .ok (.iload_n 1, 1) := by decide +kernel
theorem dX4_addMeasure_1 : decode cX4_addMeasure 1 = .ok (.sipush (-1000), 3) := by decide +kernel
theorem dX4_addMeasure_4 : decode cX4_addMeasure 4 = .ok (.sipush 1000, 3) := by decide +kernel
theorem dX4_addMeasure_7 : decode cX4_addMeasure 7 = .ok (.invokestatic 27, 3) := by decide +kernel
theorem dX4_addMeasure_10 : decode cX4_addMeasure 10 = .ok (.aload_n 0, 1) := by decide +kernel
theorem dX4_addMeasure_11 : decode cX4_addMeasure 11 = .ok (.getfield 31, 3) := by decide +kernel
theorem dX4_addMeasure_14 : decode cX4_addMeasure 14 = .ok (.aload_n 0, 1) := by decide +kernel
theorem dX4_addMeasure_15 : decode cX4_addMeasure 15 = .ok (.getfield 11, 3) := by decide +kernel
theorem dX4_addMeasure_18 : decode cX4_addMeasure 18 = .ok (.arraylength, 1) := by decide +kernel
theorem dX4_addMeasure_19 : decode cX4_addMeasure 19 = .ok (.invokestatic 35, 3) := by decide +kernel
theorem dX4_addMeasure_22 : decode cX4_addMeasure 22 = .ok (.aload_n 0, 1) := by decide +kernel
theorem dX4_addMeasure_23 : decode cX4_addMeasure 23 = .ok (.getfield 11, 3) := by decide +kernel
theorem dX4_addMeasure_26 : decode cX4_addMeasure 26 = .ok (.aload_n 0, 1) := by decide +kernel
theorem dX4_addMeasure_27 : decode cX4_addMeasure 27 = .ok (.getfield 31, 3) := by decide +kernel
theorem dX4_addMeasure_30 : decode cX4_addMeasure 30 = .ok (.new 9, 3) := by decide +kernel
theorem dX4_addMeasure_33 : decode cX4_addMeasure 33 = .ok (.dup, 1) := by decide +kernel
theorem dX4_addMeasure_34 : decode cX4_addMeasure 34 = .ok (.sipush (-1000), 3) := by decide +kernel
theorem dX4_addMeasure_37 : decode cX4_addMeasure 37 = .ok (.sipush 1000, 3) := by decide +kernel
theorem dX4_addMeasure_40 : decode cX4_addMeasure 40 = .ok (.iload_n 1, 1) := by decide +kernel
theorem dX4_addMeasure_41 : decode cX4_addMeasure 41 = .ok (.iconst 0, 1) := by decide +kernel
theorem dX4_addMeasure_42 : decode cX4_addMeasure 42 = .ok (.invokespecial 39, 3) := by decide +kernel
theorem dX4_addMeasure_45 : decode cX4_addMeasure 45 = .ok (.aastore, 1) := by decide +kernel
theorem dX4_addMeasure_46 : decode cX4_addMeasure 46 = .ok (.aload_n 0, 1) := by decide +kernel
theorem dX4_addMeasure_47 : decode cX4_addMeasure 47 = .ok (.dup, 1) := by decide +kernel
theorem dX4_addMeasure_48 : decode cX4_addMeasure 48 = .ok (.getfield 31, 3) := by decide +kernel
theorem dX4_addMeasure_51 : decode cX4_addMeasure 51 = .ok (.dup_x1, 1) := by decide +kernel
theorem dX4_addMeasure_52 : decode cX4_addMeasure 52 = .ok (.iconst 1, 1) := by decide +kernel
theorem dX4_addMeasure_53 : decode cX4_addMeasure 53 = .ok (.iadd, 1) := by decide +kernel
theorem dX4_addMeasure_54 : decode cX4_addMeasure 54 = .ok (.putfield 31, 3) := by decide +kernel
theorem dX4_addMeasure_57 : decode cX4_addMeasure 57 = .ok (.ireturn, 1) := by decide +kernel
theorem dX4_addSwitch_0 : decode cX4_addSwitch 0 = .ok (.iload_n 1, 1) := by decide +kernel
theorem dX4_addSwitch_1 : decode cX4_addSwitch 1 = .ok (.iconst 0, 1) := by decide +kernel
theorem dX4_addSwitch_2 : decode cX4_addSwitch 2 = .ok (.iconst 1, 1) := by decide +kernel
theorem dX4_addSwitch_3 : decode cX4_addSwitch 3 = .ok (.invokestatic 27, 3) := by decide +kernel
theorem dX4_addSwitch_6 : decode cX4_addSwitch 6 = .ok (.iload_n 2, 1) := by decide +kernel
theorem dX4_addSwitch_7 : decode cX4_addSwitch 7 = .ok (.iconst 0, 1) := by decide +kernel
theorem dX4_addSwitch_8 : decode cX4_addSwitch 8 = .ok (.sipush 1000, 3) := by decide +kernel
theorem dX4_addSwitch_11 : decode cX4_addSwitch 11 = .ok (.invokestatic 27, 3) := by decide +kernel
theorem dX4_addSwitch_14 : decode cX4_addSwitch 14 = .ok (.aload_n 0, 1) := by decide +kernel
theorem dX4_addSwitch_15 : decode cX4_addSwitch 15 = .ok (.getfield 31, 3) := by decide +kernel
theorem dX4_addSwitch_18 : decode cX4_addSwitch 18 = .ok (.aload_n 0, 1) := by decide +kernel
theorem dX4_addSwitch_19 : decode cX4_addSwitch 19 = .ok (.getfield 11, 3) := by decide +kernel
theorem dX4_addSwitch_22 : decode cX4_addSwitch 22 = .ok (.arraylength, 1) := by decide +kernel
theorem dX4_addSwitch_23 : decode cX4_addSwitch 23 = .ok (.invokestatic 35, 3) := by decide +kernel
theorem dX4_addSwitch_26 : decode cX4_addSwitch 26 = .ok (.aload_n 0, 1) := by decide +kernel
theorem dX4_addSwitch_27 : decode cX4_addSwitch 27 = .ok (.getfield 11, 3) := by decide +kernel
theorem dX4_addSwitch_30 : decode cX4_addSwitch 30 = .ok (.aload_n 0, 1) := by decide +kernel
theorem dX4_addSwitch_31 : decode cX4_addSwitch 31 = .ok (.getfield 31, 3) := by decide +kernel
theorem dX4_addSwitch_34 : decode cX4_addSwitch 34 = .ok (.new 9, 3) := by decide +kernel
theorem dX4_addSwitch_37 : decode cX4_addSwitch 37 = .ok (.dup, 1) := by decide +kernel
theorem dX4_addSwitch_38 : decode cX4_addSwitch 38 = .ok (.iconst 0, 1) := by decide +kernel
theorem dX4_addSwitch_39 : decode cX4_addSwitch 39 = .ok (.iconst 1, 1) := by decide +kernel
theorem dX4_addSwitch_40 : decode cX4_addSwitch 40 = .ok (.iload_n 1, 1) := by decide +kernel
theorem dX4_addSwitch_41 : decode cX4_addSwitch 41 = .ok (.iload_n 2, 1) := by decide +kernel
theorem dX4_addSwitch_42 : decode cX4_addSwitch 42 = .ok (.invokespecial 39, 3) := by decide +kernel
theorem dX4_addSwitch_45 : decode cX4_addSwitch 45 = .ok (.aastore, 1) := by decide +kernel
theorem dX4_addSwitch_46 : decode cX4_addSwitch 46 = .ok (.aload_n 0, 1) := by decide +kernel
theorem dX4_addSwitch_47 : decode cX4_addSwitch 47 = .ok (.dup, 1) := by decide +kernel
theorem dX4_addSwitch_48 : decode cX4_addSwitch 48 = .ok (.getfield 31, 3) := by decide +kernel
theorem dX4_addSwitch_51 : decode cX4_addSwitch 51 = .ok (.dup_x1, 1) := by decide +kernel
theorem dX4_addSwitch_52 : decode cX4_addSwitch 52 = .ok (.iconst 1, 1) := by decide +kernel
theorem dX4_addSwitch_53 : decode cX4_addSwitch 53 = .ok (.iadd, 1) := by decide +kernel
theorem dX4_addSwitch_54 : decode cX4_addSwitch 54 = .ok (.putfield 31, 3) := by decide +kernel
theorem dX4_addSwitch_57 : decode cX4_addSwitch 57 = .ok (.ireturn, 1) := by decide +kernel
theorem dX4_write_0 : decode cX4_write 0 = .ok (.aload_n 0, 1) := by decide +kernel
theorem dX4_write_1 : decode cX4_write 1 = .ok (.iload_n 1, 1) := by decide +kernel
theorem dX4_write_2 : decode cX4_write 2 = .ok (.invokevirtual 42, 3) := by decide +kernel
theorem dX4_write_5 : decode cX4_write 5 = .ok (.astore 4, 2) := by decide +kernel
theorem dX4_write_7 : decode cX4_write 7 = .ok (.iload_n 2, 1) := by decide +kernel
theorem dX4_write_8 : decode cX4_write 8 = .ok (.iconst 1, 1) := by decide +kernel
theorem dX4_write_9 : decode cX4_write 9 = .ok (.bipush 16, 2) := by decide +kernel
theorem dX4_write_11 : decode cX4_write 11 = .ok (.invokestatic 27, 3) := by decide +kernel
theorem dX4_write_14 : decode cX4_write 14 = .ok (.aload 4, 2) := by decide +kernel
theorem dX4_write_16 : decode cX4_write 16 = .ok (.iload_n 3, 1) := by decide +kernel
theorem dX4_write_17 : decode cX4_write 17 = .ok (.invokestatic 46, 3) := by decide +kernel
theorem dX4_write_20 : decode cX4_write 20 = .ok (.iload_n 2, 1) := by decide +kernel
theorem dX4_write_21 : decode cX4_write 21 = .ok (.bipush 6, 2) := by decide +kernel
theorem dX4_write_23 : decode cX4_write 23 = .ok (.if_icmp .ne 21, 3) := by decide +kernel
theorem dX4_write_26 : decode cX4_write 26 = .ok (.aload 4, 2) := by decide +kernel
theorem dX4_write_28 : decode cX4_write 28 = .ok (.invokevirtual 50, 3) := by decide +kernel
theorem dX4_write_31 : decode cX4_write 31 = .ok (.ifCond .eq 13, 3) := by decide +kernel
theorem dX4_write_34 : decode cX4_write 34 = .ok (.new 54, 3) := by decide +kernel
theorem dX4_write_37 : decode cX4_write 37 = .ok (.dup, 1) := by decide +kernel
theorem dX4_write_38 : decode cX4_write 38 = .ok (.ldc 56, 2) := by decide +kernel
theorem dX4_write_40 : decode cX4_write 40 = .ok (.invokespecial 58, 3) := by decide +kernel
theorem dX4_write_43 : decode cX4_write 43 = .ok (.athrow, 1) := by decide +kernel
theorem dX4_write_44 : decode cX4_write 44 = .ok (.aload_n 0, 1) := by decide +kernel
theorem dX4_write_45 : decode cX4_write 45 = .ok (.aload 4, 2) := by decide +kernel
theorem dX4_write_47 : decode cX4_write 47 = .ok (.iload_n 2, 1) := by decide +kernel
theorem dX4_write_48 : decode cX4_write 48 = .ok (.iload_n 3, 1) := by decide +kernel
theorem dX4_write_49 : decode cX4_write 49 = .ok (.invokevirtual 61, 3) := by decide +kernel
theorem dX4_write_52 : decode cX4_write 52 = .ok (.aload 4, 2) := by decide +kernel
theorem dX4_write_54 : decode cX4_write 54 = .ok (.getfield 65, 3) := by decide +kernel
theorem dX4_write_57 : decode cX4_write 57 = .ok (.ireturn, 1) := by decide +kernel
theorem dX4_value_0 : decode cX4_value 0 = .ok (.aload_n 0, 1) := by decide +kernel
theorem dX4_value_1 : decode cX4_value 1 = .ok (.iload_n 1, 1) := by decide +kernel
theorem dX4_value_2 : decode cX4_value 2 = .ok (.invokevirtual 42, 3) := by decide +kernel
theorem dX4_value_5 : decode cX4_value 5 = .ok (.getfield 65, 3) := by decide +kernel
theorem dX4_value_8 : decode cX4_value 8 = .ok (.ireturn, 1) := by decide +kernel
theorem dX4_command_0 : decode cX4_command 0 = .ok (.aload_n 0, 1) := by decide +kernel
theorem dX4_command_1 : decode cX4_command 1 = .ok (.iload_n 1, 1) := by decide +kernel
theorem dX4_command_2 : decode cX4_command 2 = .ok (.invokevirtual 42, 3) := by decide +kernel
theorem dX4_command_5 : decode cX4_command 5 = .ok (.astore_n 3, 1) := by decide +kernel
theorem dX4_command_6 : decode cX4_command 6 = .ok (.iload_n 2, 1) := by decide +kernel
theorem dX4_command_7 : decode cX4_command 7 = .ok (.iconst 1, 1) := by decide +kernel
theorem dX4_command_8 : decode cX4_command 8 = .ok (.bipush 16, 2) := by decide +kernel
theorem dX4_command_10 : decode cX4_command 10 = .ok (.invokestatic 27, 3) := by decide +kernel
theorem dX4_command_13 : decode cX4_command 13 = .ok (.aload_n 3, 1) := by decide +kernel
theorem dX4_command_14 : decode cX4_command 14 = .ok (.getfield 68, 3) := by decide +kernel
theorem dX4_command_17 : decode cX4_command 17 = .ok (.iload_n 2, 1) := by decide +kernel
theorem dX4_command_18 : decode cX4_command 18 = .ok (.iaload, 1) := by decide +kernel
theorem dX4_command_19 : decode cX4_command 19 = .ok (.ireturn, 1) := by decide +kernel
theorem dX4_standing_0 : decode cX4_standing 0 = .ok (.aload_n 0, 1) := by decide +kernel
theorem dX4_standing_1 : decode cX4_standing 1 = .ok (.iload_n 1, 1) := by decide +kernel
theorem dX4_standing_2 : decode cX4_standing 2 = .ok (.invokevirtual 42, 3) := by decide +kernel
theorem dX4_standing_5 : decode cX4_standing 5 = .ok (.invokevirtual 72, 3) := by decide +kernel
theorem dX4_standing_8 : decode cX4_standing 8 = .ok (.ireturn, 1) := by decide +kernel
theorem dX4_held_0 : decode cX4_held 0 = .ok (.aload_n 0, 1) := by decide +kernel
theorem dX4_held_1 : decode cX4_held 1 = .ok (.iload_n 1, 1) := by decide +kernel
theorem dX4_held_2 : decode cX4_held 2 = .ok (.invokevirtual 42, 3) := by decide +kernel
theorem dX4_held_5 : decode cX4_held 5 = .ok (.astore_n 2, 1) := by decide +kernel
theorem dX4_held_6 : decode cX4_held 6 = .ok (.aload_n 2, 1) := by decide +kernel
theorem dX4_held_7 : decode cX4_held 7 = .ok (.invokevirtual 50, 3) := by decide +kernel
theorem dX4_held_10 : decode cX4_held 10 = .ok (.ifCond .eq 15, 3) := by decide +kernel
theorem dX4_held_13 : decode cX4_held 13 = .ok (.aload_n 2, 1) := by decide +kernel
theorem dX4_held_14 : decode cX4_held 14 = .ok (.getfield 76, 3) := by decide +kernel
theorem dX4_held_17 : decode cX4_held 17 = .ok (.aload_n 0, 1) := by decide +kernel
theorem dX4_held_18 : decode cX4_held 18 = .ok (.getfield 79, 3) := by decide +kernel
theorem dX4_held_21 : decode cX4_held 21 = .ok (.isub, 1) := by decide +kernel
theorem dX4_held_22 : decode cX4_held 22 = .ok (.goto 4, 3) := by decide +kernel
theorem dX4_held_25 : decode cX4_held 25 = .ok (.iconst 0, 1) := by decide +kernel
theorem dX4_held_26 : decode cX4_held 26 = .ok (.ireturn, 1) := by decide +kernel
theorem dX4_changes_0 : decode cX4_changes 0 = .ok (.aload_n 0, 1) := by decide +kernel
theorem dX4_changes_1 : decode cX4_changes 1 = .ok (.iload_n 1, 1) := by decide +kernel
theorem dX4_changes_2 : decode cX4_changes 2 = .ok (.invokevirtual 42, 3) := by decide +kernel
theorem dX4_changes_5 : decode cX4_changes 5 = .ok (.getfield 82, 3) := by decide +kernel
theorem dX4_changes_8 : decode cX4_changes 8 = .ok (.ireturn, 1) := by decide +kernel
theorem dX4_subscribe_0 : decode cX4_subscribe 0 = .ok (.aload_n 0, 1) := by decide +kernel
theorem dX4_subscribe_1 : decode cX4_subscribe 1 = .ok (.iload_n 1, 1) := by decide +kernel
theorem dX4_subscribe_2 : decode cX4_subscribe 2 = .ok (.invokevirtual 42, 3) := by decide +kernel
theorem dX4_subscribe_5 : decode cX4_subscribe 5 = .ok (.astore 4, 2) := by decide +kernel
theorem dX4_subscribe_7 : decode cX4_subscribe 7 = .ok (.iload_n 2, 1) := by decide +kernel
theorem dX4_subscribe_8 : decode cX4_subscribe 8 = .ok (.iconst 1, 1) := by decide +kernel
theorem dX4_subscribe_9 : decode cX4_subscribe 9 = .ok (.sipush 2000, 3) := by decide +kernel
theorem dX4_subscribe_12 : decode cX4_subscribe 12 = .ok (.invokestatic 27, 3) := by decide +kernel
theorem dX4_subscribe_15 : decode cX4_subscribe 15 = .ok (.iload_n 3, 1) := by decide +kernel
theorem dX4_subscribe_16 : decode cX4_subscribe 16 = .ok (.iconst 1, 1) := by decide +kernel
theorem dX4_subscribe_17 : decode cX4_subscribe 17 = .ok (.ldc 85, 2) := by decide +kernel
theorem dX4_subscribe_19 : decode cX4_subscribe 19 = .ok (.invokestatic 27, 3) := by decide +kernel
theorem dX4_subscribe_22 : decode cX4_subscribe 22 = .ok (.aload_n 0, 1) := by decide +kernel
theorem dX4_subscribe_23 : decode cX4_subscribe 23 = .ok (.getfield 86, 3) := by decide +kernel
theorem dX4_subscribe_26 : decode cX4_subscribe 26 = .ok (.aload_n 0, 1) := by decide +kernel
theorem dX4_subscribe_27 : decode cX4_subscribe 27 = .ok (.getfield 17, 3) := by decide +kernel
theorem dX4_subscribe_30 : decode cX4_subscribe 30 = .ok (.arraylength, 1) := by decide +kernel
theorem dX4_subscribe_31 : decode cX4_subscribe 31 = .ok (.invokestatic 35, 3) := by decide +kernel
theorem dX4_subscribe_34 : decode cX4_subscribe 34 = .ok (.aload_n 0, 1) := by decide +kernel
theorem dX4_subscribe_35 : decode cX4_subscribe 35 = .ok (.getfield 17, 3) := by decide +kernel
theorem dX4_subscribe_38 : decode cX4_subscribe 38 = .ok (.aload_n 0, 1) := by decide +kernel
theorem dX4_subscribe_39 : decode cX4_subscribe 39 = .ok (.getfield 86, 3) := by decide +kernel
theorem dX4_subscribe_42 : decode cX4_subscribe 42 = .ok (.new 15, 3) := by decide +kernel
theorem dX4_subscribe_45 : decode cX4_subscribe 45 = .ok (.dup, 1) := by decide +kernel
theorem dX4_subscribe_46 : decode cX4_subscribe 46 = .ok (.aload 4, 2) := by decide +kernel
theorem dX4_subscribe_48 : decode cX4_subscribe 48 = .ok (.iload_n 2, 1) := by decide +kernel
theorem dX4_subscribe_49 : decode cX4_subscribe 49 = .ok (.aload_n 0, 1) := by decide +kernel
theorem dX4_subscribe_50 : decode cX4_subscribe 50 = .ok (.getfield 79, 3) := by decide +kernel
theorem dX4_subscribe_53 : decode cX4_subscribe 53 = .ok (.iload_n 3, 1) := by decide +kernel
theorem dX4_subscribe_54 : decode cX4_subscribe 54 = .ok (.iadd, 1) := by decide +kernel
theorem dX4_subscribe_55 : decode cX4_subscribe 55 = .ok (.invokespecial 89, 3) := by decide +kernel
theorem dX4_subscribe_58 : decode cX4_subscribe 58 = .ok (.aastore, 1) := by decide +kernel
theorem dX4_subscribe_59 : decode cX4_subscribe 59 = .ok (.aload_n 0, 1) := by decide +kernel
theorem dX4_subscribe_60 : decode cX4_subscribe 60 = .ok (.dup, 1) := by decide +kernel
theorem dX4_subscribe_61 : decode cX4_subscribe 61 = .ok (.getfield 86, 3) := by decide +kernel
theorem dX4_subscribe_64 : decode cX4_subscribe 64 = .ok (.dup_x1, 1) := by decide +kernel
theorem dX4_subscribe_65 : decode cX4_subscribe 65 = .ok (.iconst 1, 1) := by decide +kernel
theorem dX4_subscribe_66 : decode cX4_subscribe 66 = .ok (.iadd, 1) := by decide +kernel
theorem dX4_subscribe_67 : decode cX4_subscribe 67 = .ok (.putfield 86, 3) := by decide +kernel
theorem dX4_subscribe_70 : decode cX4_subscribe 70 = .ok (.ireturn, 1) := by decide +kernel
theorem dX4_end_0 : decode cX4_end 0 = .ok (.aload_n 0, 1) := by decide +kernel
theorem dX4_end_1 : decode cX4_end 1 = .ok (.iload_n 1, 1) := by decide +kernel
theorem dX4_end_2 : decode cX4_end 2 = .ok (.invokevirtual 91, 3) := by decide +kernel
theorem dX4_end_5 : decode cX4_end 5 = .ok (.astore_n 2, 1) := by decide +kernel
theorem dX4_end_6 : decode cX4_end 6 = .ok (.aload_n 2, 1) := by decide +kernel
theorem dX4_end_7 : decode cX4_end 7 = .ok (.getfield 95, 3) := by decide +kernel
theorem dX4_end_10 : decode cX4_end 10 = .ok (.ifCond .ne 13, 3) := by decide +kernel
theorem dX4_end_13 : decode cX4_end 13 = .ok (.new 54, 3) := by decide +kernel
theorem dX4_end_16 : decode cX4_end 16 = .ok (.dup, 1) := by decide +kernel
theorem dX4_end_17 : decode cX4_end 17 = .ok (.ldc 99, 2) := by decide +kernel
theorem dX4_end_19 : decode cX4_end 19 = .ok (.invokespecial 58, 3) := by decide +kernel
theorem dX4_end_22 : decode cX4_end 22 = .ok (.athrow, 1) := by decide +kernel
theorem dX4_end_23 : decode cX4_end 23 = .ok (.aload_n 2, 1) := by decide +kernel
theorem dX4_end_24 : decode cX4_end 24 = .ok (.iconst 0, 1) := by decide +kernel
theorem dX4_end_25 : decode cX4_end 25 = .ok (.putfield 95, 3) := by decide +kernel
theorem dX4_end_28 : decode cX4_end 28 = .ok (.return_, 1) := by decide +kernel
theorem dX4_goesOn_0 : decode cX4_goesOn 0 = .ok (.aload_n 0, 1) := by decide +kernel
theorem dX4_goesOn_1 : decode cX4_goesOn 1 = .ok (.iload_n 1, 1) := by decide +kernel
theorem dX4_goesOn_2 : decode cX4_goesOn 2 = .ok (.invokevirtual 91, 3) := by decide +kernel
theorem dX4_goesOn_5 : decode cX4_goesOn 5 = .ok (.getfield 95, 3) := by decide +kernel
theorem dX4_goesOn_8 : decode cX4_goesOn 8 = .ok (.ireturn, 1) := by decide +kernel
theorem dX4_reports_0 : decode cX4_reports 0 = .ok (.aload_n 0, 1) := by decide +kernel
theorem dX4_reports_1 : decode cX4_reports 1 = .ok (.iload_n 1, 1) := by decide +kernel
theorem dX4_reports_2 : decode cX4_reports 2 = .ok (.invokevirtual 91, 3) := by decide +kernel
theorem dX4_reports_5 : decode cX4_reports 5 = .ok (.getfield 101, 3) := by decide +kernel
theorem dX4_reports_8 : decode cX4_reports 8 = .ok (.ireturn, 1) := by decide +kernel
theorem dX4_reported_0 : decode cX4_reported 0 = .ok (.aload_n 0, 1) := by decide +kernel
theorem dX4_reported_1 : decode cX4_reported 1 = .ok (.iload_n 1, 1) := by decide +kernel
theorem dX4_reported_2 : decode cX4_reported 2 = .ok (.invokevirtual 91, 3) := by decide +kernel
theorem dX4_reported_5 : decode cX4_reported 5 = .ok (.getfield 104, 3) := by decide +kernel
theorem dX4_reported_8 : decode cX4_reported 8 = .ok (.ireturn, 1) := by decide +kernel
theorem dX4_addSchedule_0 : decode cX4_addSchedule 0 = .ok (.aload_n 0, 1) := by decide +kernel
theorem dX4_addSchedule_1 : decode cX4_addSchedule 1 = .ok (.iload_n 1, 1) := by decide +kernel
theorem dX4_addSchedule_2 : decode cX4_addSchedule 2 = .ok (.invokevirtual 42, 3) := by decide +kernel
theorem dX4_addSchedule_5 : decode cX4_addSchedule 5 = .ok (.astore_n 3, 1) := by decide +kernel
theorem dX4_addSchedule_6 : decode cX4_addSchedule 6 = .ok (.iload_n 2, 1) := by decide +kernel
theorem dX4_addSchedule_7 : decode cX4_addSchedule 7 = .ok (.bipush 7, 2) := by decide +kernel
theorem dX4_addSchedule_9 : decode cX4_addSchedule 9 = .ok (.bipush 16, 2) := by decide +kernel
theorem dX4_addSchedule_11 : decode cX4_addSchedule 11 = .ok (.invokestatic 27, 3) := by decide +kernel
theorem dX4_addSchedule_14 : decode cX4_addSchedule 14 = .ok (.aload_n 0, 1) := by decide +kernel
theorem dX4_addSchedule_15 : decode cX4_addSchedule 15 = .ok (.getfield 107, 3) := by decide +kernel
theorem dX4_addSchedule_18 : decode cX4_addSchedule 18 = .ok (.aload_n 0, 1) := by decide +kernel
theorem dX4_addSchedule_19 : decode cX4_addSchedule 19 = .ok (.getfield 23, 3) := by decide +kernel
theorem dX4_addSchedule_22 : decode cX4_addSchedule 22 = .ok (.arraylength, 1) := by decide +kernel
theorem dX4_addSchedule_23 : decode cX4_addSchedule 23 = .ok (.invokestatic 35, 3) := by decide +kernel
theorem dX4_addSchedule_26 : decode cX4_addSchedule 26 = .ok (.aload_n 0, 1) := by decide +kernel
theorem dX4_addSchedule_27 : decode cX4_addSchedule 27 = .ok (.getfield 23, 3) := by decide +kernel
theorem dX4_addSchedule_30 : decode cX4_addSchedule 30 = .ok (.aload_n 0, 1) := by decide +kernel
theorem dX4_addSchedule_31 : decode cX4_addSchedule 31 = .ok (.getfield 107, 3) := by decide +kernel
theorem dX4_addSchedule_34 : decode cX4_addSchedule 34 = .ok (.new 21, 3) := by decide +kernel
theorem dX4_addSchedule_37 : decode cX4_addSchedule 37 = .ok (.dup, 1) := by decide +kernel
theorem dX4_addSchedule_38 : decode cX4_addSchedule 38 = .ok (.aload_n 3, 1) := by decide +kernel
theorem dX4_addSchedule_39 : decode cX4_addSchedule 39 = .ok (.iload_n 2, 1) := by decide +kernel
theorem dX4_addSchedule_40 : decode cX4_addSchedule 40 = .ok (.invokespecial 110, 3) := by decide +kernel
theorem dX4_addSchedule_43 : decode cX4_addSchedule 43 = .ok (.aastore, 1) := by decide +kernel
theorem dX4_addSchedule_44 : decode cX4_addSchedule 44 = .ok (.aload_n 0, 1) := by decide +kernel
theorem dX4_addSchedule_45 : decode cX4_addSchedule 45 = .ok (.dup, 1) := by decide +kernel
theorem dX4_addSchedule_46 : decode cX4_addSchedule 46 = .ok (.getfield 107, 3) := by decide +kernel
theorem dX4_addSchedule_49 : decode cX4_addSchedule 49 = .ok (.dup_x1, 1) := by decide +kernel
theorem dX4_addSchedule_50 : decode cX4_addSchedule 50 = .ok (.iconst 1, 1) := by decide +kernel
theorem dX4_addSchedule_51 : decode cX4_addSchedule 51 = .ok (.iadd, 1) := by decide +kernel
theorem dX4_addSchedule_52 : decode cX4_addSchedule 52 = .ok (.putfield 107, 3) := by decide +kernel
theorem dX4_addSchedule_55 : decode cX4_addSchedule 55 = .ok (.ireturn, 1) := by decide +kernel
theorem dX4_weekly_0 : decode cX4_weekly 0 = .ok (.aload_n 0, 1) := by decide +kernel
theorem dX4_weekly_1 : decode cX4_weekly 1 = .ok (.iload_n 1, 1) := by decide +kernel
theorem dX4_weekly_2 : decode cX4_weekly 2 = .ok (.invokevirtual 112, 3) := by decide +kernel
theorem dX4_weekly_5 : decode cX4_weekly 5 = .ok (.astore 5, 2) := by decide +kernel
theorem dX4_weekly_7 : decode cX4_weekly 7 = .ok (.iload_n 2, 1) := by decide +kernel
theorem dX4_weekly_8 : decode cX4_weekly 8 = .ok (.iconst 0, 1) := by decide +kernel
theorem dX4_weekly_9 : decode cX4_weekly 9 = .ok (.bipush 6, 2) := by decide +kernel
theorem dX4_weekly_11 : decode cX4_weekly 11 = .ok (.invokestatic 27, 3) := by decide +kernel
theorem dX4_weekly_14 : decode cX4_weekly 14 = .ok (.aload 5, 2) := by decide +kernel
theorem dX4_weekly_16 : decode cX4_weekly 16 = .ok (.iload_n 3, 1) := by decide +kernel
theorem dX4_weekly_17 : decode cX4_weekly 17 = .ok (.iload 4, 2) := by decide +kernel
theorem dX4_weekly_19 : decode cX4_weekly 19 = .ok (.invokestatic 116, 3) := by decide +kernel
theorem dX4_weekly_22 : decode cX4_weekly 22 = .ok (.aload 5, 2) := by decide +kernel
theorem dX4_weekly_24 : decode cX4_weekly 24 = .ok (.getfield 120, 3) := by decide +kernel
theorem dX4_weekly_27 : decode cX4_weekly 27 = .ok (.iload_n 2, 1) := by decide +kernel
theorem dX4_weekly_28 : decode cX4_weekly 28 = .ok (.iload_n 3, 1) := by decide +kernel
theorem dX4_weekly_29 : decode cX4_weekly 29 = .ok (.iload 4, 2) := by decide +kernel
theorem dX4_weekly_31 : decode cX4_weekly 31 = .ok (.invokevirtual 124, 3) := by decide +kernel
theorem dX4_weekly_34 : decode cX4_weekly 34 = .ok (.aload_n 0, 1) := by decide +kernel
theorem dX4_weekly_35 : decode cX4_weekly 35 = .ok (.aload 5, 2) := by decide +kernel
theorem dX4_weekly_37 : decode cX4_weekly 37 = .ok (.invokevirtual 129, 3) := by decide +kernel
theorem dX4_weekly_40 : decode cX4_weekly 40 = .ok (.aload 5, 2) := by decide +kernel
theorem dX4_weekly_42 : decode cX4_weekly 42 = .ok (.getfield 133, 3) := by decide +kernel
theorem dX4_weekly_45 : decode cX4_weekly 45 = .ok (.ireturn, 1) := by decide +kernel
theorem dX4_once_0 : decode cX4_once 0 = .ok (.aload_n 0, 1) := by decide +kernel
theorem dX4_once_1 : decode cX4_once 1 = .ok (.iload_n 1, 1) := by decide +kernel
theorem dX4_once_2 : decode cX4_once 2 = .ok (.invokevirtual 112, 3) := by decide +kernel
theorem dX4_once_5 : decode cX4_once 5 = .ok (.astore 5, 2) := by decide +kernel
theorem dX4_once_7 : decode cX4_once 7 = .ok (.iload_n 2, 1) := by decide +kernel
theorem dX4_once_8 : decode cX4_once 8 = .ok (.iconst 0, 1) := by decide +kernel
theorem dX4_once_9 : decode cX4_once 9 = .ok (.sipush 700, 3) := by decide +kernel
theorem dX4_once_12 : decode cX4_once 12 = .ok (.invokestatic 27, 3) := by decide +kernel
theorem dX4_once_15 : decode cX4_once 15 = .ok (.aload 5, 2) := by decide +kernel
theorem dX4_once_17 : decode cX4_once 17 = .ok (.iload_n 3, 1) := by decide +kernel
theorem dX4_once_18 : decode cX4_once 18 = .ok (.iload 4, 2) := by decide +kernel
theorem dX4_once_20 : decode cX4_once 20 = .ok (.invokestatic 116, 3) := by decide +kernel
theorem dX4_once_23 : decode cX4_once 23 = .ok (.aload 5, 2) := by decide +kernel
theorem dX4_once_25 : decode cX4_once 25 = .ok (.getfield 136, 3) := by decide +kernel
theorem dX4_once_28 : decode cX4_once 28 = .ok (.iload_n 2, 1) := by decide +kernel
theorem dX4_once_29 : decode cX4_once 29 = .ok (.iload_n 3, 1) := by decide +kernel
theorem dX4_once_30 : decode cX4_once 30 = .ok (.iload 4, 2) := by decide +kernel
theorem dX4_once_32 : decode cX4_once 32 = .ok (.invokevirtual 124, 3) := by decide +kernel
theorem dX4_once_35 : decode cX4_once 35 = .ok (.aload_n 0, 1) := by decide +kernel
theorem dX4_once_36 : decode cX4_once 36 = .ok (.aload 5, 2) := by decide +kernel
theorem dX4_once_38 : decode cX4_once 38 = .ok (.invokevirtual 129, 3) := by decide +kernel
theorem dX4_once_41 : decode cX4_once 41 = .ok (.aload 5, 2) := by decide +kernel
theorem dX4_once_43 : decode cX4_once 43 = .ok (.getfield 133, 3) := by decide +kernel
theorem dX4_once_46 : decode cX4_once 46 = .ok (.ireturn, 1) := by decide +kernel
theorem dX4_tells_0 : decode cX4_tells 0 = .ok (.aload_n 0, 1) := by decide +kernel
theorem dX4_tells_1 : decode cX4_tells 1 = .ok (.iload_n 1, 1) := by decide +kernel
theorem dX4_tells_2 : decode cX4_tells 2 = .ok (.invokevirtual 112, 3) := by decide +kernel
theorem dX4_tells_5 : decode cX4_tells 5 = .ok (.astore_n 3, 1) := by decide +kernel
theorem dX4_tells_6 : decode cX4_tells 6 = .ok (.iload_n 2, 1) := by decide +kernel
theorem dX4_tells_7 : decode cX4_tells 7 = .ok (.iconst 0, 1) := by decide +kernel
theorem dX4_tells_8 : decode cX4_tells 8 = .ok (.ldc 139, 2) := by decide +kernel
theorem dX4_tells_10 : decode cX4_tells 10 = .ok (.invokestatic 27, 3) := by decide +kernel
theorem dX4_tells_13 : decode cX4_tells 13 = .ok (.aload_n 3, 1) := by decide +kernel
theorem dX4_tells_14 : decode cX4_tells 14 = .ok (.iload_n 2, 1) := by decide +kernel
theorem dX4_tells_15 : decode cX4_tells 15 = .ok (.invokevirtual 140, 3) := by decide +kernel
theorem dX4_tells_18 : decode cX4_tells 18 = .ok (.ireturn, 1) := by decide +kernel
theorem dX4_pass_0 : decode cX4_pass 0 = .ok (.iload_n 1, 1) := by decide +kernel
theorem dX4_pass_1 : decode cX4_pass 1 = .ok (.iconst 1, 1) := by decide +kernel
theorem dX4_pass_2 : decode cX4_pass 2 = .ok (.sipush 5000, 3) := by decide +kernel
theorem dX4_pass_5 : decode cX4_pass 5 = .ok (.invokestatic 27, 3) := by decide +kernel
theorem dX4_pass_8 : decode cX4_pass 8 = .ok (.iload_n 1, 1) := by decide +kernel
theorem dX4_pass_9 : decode cX4_pass 9 = .ok (.ldc 139, 2) := by decide +kernel
theorem dX4_pass_11 : decode cX4_pass 11 = .ok (.aload_n 0, 1) := by decide +kernel
theorem dX4_pass_12 : decode cX4_pass 12 = .ok (.getfield 79, 3) := by decide +kernel
theorem dX4_pass_15 : decode cX4_pass 15 = .ok (.isub, 1) := by decide +kernel
theorem dX4_pass_16 : decode cX4_pass 16 = .ok (.if_icmp .le 13, 3) := by decide +kernel
theorem dX4_pass_19 : decode cX4_pass 19 = .ok (.new 54, 3) := by decide +kernel
theorem dX4_pass_22 : decode cX4_pass 22 = .ok (.dup, 1) := by decide +kernel
theorem dX4_pass_23 : decode cX4_pass 23 = .ok (.ldc 144, 2) := by decide +kernel
theorem dX4_pass_25 : decode cX4_pass 25 = .ok (.invokespecial 58, 3) := by decide +kernel
theorem dX4_pass_28 : decode cX4_pass 28 = .ok (.athrow, 1) := by decide +kernel
theorem dX4_pass_29 : decode cX4_pass 29 = .ok (.aload_n 0, 1) := by decide +kernel
theorem dX4_pass_30 : decode cX4_pass 30 = .ok (.getfield 146, 3) := by decide +kernel
theorem dX4_pass_33 : decode cX4_pass 33 = .ok (.istore_n 2, 1) := by decide +kernel
theorem dX4_pass_34 : decode cX4_pass 34 = .ok (.iconst 0, 1) := by decide +kernel
theorem dX4_pass_35 : decode cX4_pass 35 = .ok (.istore_n 3, 1) := by decide +kernel
theorem dX4_pass_36 : decode cX4_pass 36 = .ok (.iload_n 3, 1) := by decide +kernel
theorem dX4_pass_37 : decode cX4_pass 37 = .ok (.iload_n 1, 1) := by decide +kernel
theorem dX4_pass_38 : decode cX4_pass 38 = .ok (.if_icmp .ge 13, 3) := by decide +kernel
theorem dX4_pass_41 : decode cX4_pass 41 = .ok (.aload_n 0, 1) := by decide +kernel
theorem dX4_pass_42 : decode cX4_pass 42 = .ok (.invokevirtual 149, 3) := by decide +kernel
theorem dX4_pass_45 : decode cX4_pass 45 = .ok (.iinc 3 1, 3) := by decide +kernel
theorem dX4_pass_48 : decode cX4_pass 48 = .ok (.goto (-12), 3) := by decide +kernel
theorem dX4_pass_51 : decode cX4_pass 51 = .ok (.aload_n 0, 1) := by decide +kernel
theorem dX4_pass_52 : decode cX4_pass 52 = .ok (.getfield 146, 3) := by decide +kernel
theorem dX4_pass_55 : decode cX4_pass 55 = .ok (.iload_n 2, 1) := by decide +kernel
theorem dX4_pass_56 : decode cX4_pass 56 = .ok (.isub, 1) := by decide +kernel
theorem dX4_pass_57 : decode cX4_pass 57 = .ok (.ireturn, 1) := by decide +kernel
theorem dX4_clock_0 : decode cX4_clock 0 = .ok (.aload_n 0, 1) := by decide +kernel
theorem dX4_clock_1 : decode cX4_clock 1 = .ok (.getfield 79, 3) := by decide +kernel
theorem dX4_clock_4 : decode cX4_clock 4 = .ok (.ireturn, 1) := by decide +kernel
theorem dX4_requireWithin_0 : decode cX4_requireWithin 0 = .ok (.iload_n 0, 1) := by decide +kernel
theorem dX4_requireWithin_1 : decode cX4_requireWithin 1 = .ok (.iload_n 1, 1) := by decide +kernel
theorem dX4_requireWithin_2 : decode cX4_requireWithin 2 = .ok (.if_icmp .lt 8, 3) := by decide +kernel
theorem dX4_requireWithin_5 : decode cX4_requireWithin 5 = .ok (.iload_n 0, 1) := by decide +kernel
theorem dX4_requireWithin_6 : decode cX4_requireWithin 6 = .ok (.iload_n 2, 1) := by decide +kernel
theorem dX4_requireWithin_7 : decode cX4_requireWithin 7 = .ok (.if_icmp .le 13, 3) := by decide +kernel
theorem dX4_requireWithin_10 : decode cX4_requireWithin 10 = .ok (.new 152, 3) := by decide +kernel
theorem dX4_requireWithin_13 : decode cX4_requireWithin 13 = .ok (.dup, 1) := by decide +kernel
theorem dX4_requireWithin_14 : decode cX4_requireWithin 14 = .ok (.ldc 154, 2) := by decide +kernel
theorem dX4_requireWithin_16 : decode cX4_requireWithin 16 = .ok (.invokespecial 156, 3) := by decide +kernel
theorem dX4_requireWithin_19 : decode cX4_requireWithin 19 = .ok (.athrow, 1) := by decide +kernel
theorem dX4_requireWithin_20 : decode cX4_requireWithin 20 = .ok (.return_, 1) := by decide +kernel
theorem dX4_requireCommand_0 : decode cX4_requireCommand 0 = .ok (.iload_n 1, 1) := by decide +kernel
theorem dX4_requireCommand_1 : decode cX4_requireCommand 1 = .ok (.ldc 157, 2) := by decide +kernel
theorem dX4_requireCommand_3 : decode cX4_requireCommand 3 = .ok (.if_icmp .eq 21, 3) := by decide +kernel
theorem dX4_requireCommand_6 : decode cX4_requireCommand 6 = .ok (.aload_n 0, 1) := by decide +kernel
theorem dX4_requireCommand_7 : decode cX4_requireCommand 7 = .ok (.iload_n 1, 1) := by decide +kernel
theorem dX4_requireCommand_8 : decode cX4_requireCommand 8 = .ok (.invokevirtual 158, 3) := by decide +kernel
theorem dX4_requireCommand_11 : decode cX4_requireCommand 11 = .ok (.ifCond .ne 13, 3) := by decide +kernel
theorem dX4_requireCommand_14 : decode cX4_requireCommand 14 = .ok (.new 152, 3) := by decide +kernel
theorem dX4_requireCommand_17 : decode cX4_requireCommand 17 = .ok (.dup, 1) := by decide +kernel
theorem dX4_requireCommand_18 : decode cX4_requireCommand 18 = .ok (.ldc 162, 2) := by decide +kernel
theorem dX4_requireCommand_20 : decode cX4_requireCommand 20 = .ok (.invokespecial 156, 3) := by decide +kernel
theorem dX4_requireCommand_23 : decode cX4_requireCommand 23 = .ok (.athrow, 1) := by decide +kernel
theorem dX4_requireCommand_24 : decode cX4_requireCommand 24 = .ok (.return_, 1) := by decide +kernel
theorem dX4_requireRoom_0 : decode cX4_requireRoom 0 = .ok (.iload_n 0, 1) := by decide +kernel
theorem dX4_requireRoom_1 : decode cX4_requireRoom 1 = .ok (.iload_n 1, 1) := by decide +kernel
theorem dX4_requireRoom_2 : decode cX4_requireRoom 2 = .ok (.if_icmp .lt 13, 3) := by decide +kernel
theorem dX4_requireRoom_5 : decode cX4_requireRoom 5 = .ok (.new 54, 3) := by decide +kernel
theorem dX4_requireRoom_8 : decode cX4_requireRoom 8 = .ok (.dup, 1) := by decide +kernel
theorem dX4_requireRoom_9 : decode cX4_requireRoom 9 = .ok (.ldc 164, 2) := by decide +kernel
theorem dX4_requireRoom_11 : decode cX4_requireRoom 11 = .ok (.invokespecial 58, 3) := by decide +kernel
theorem dX4_requireRoom_14 : decode cX4_requireRoom 14 = .ok (.athrow, 1) := by decide +kernel
theorem dX4_requireRoom_15 : decode cX4_requireRoom 15 = .ok (.return_, 1) := by decide +kernel
theorem dX4_requireEntry_0 : decode cX4_requireEntry 0 = .ok (.iload_n 1, 1) := by decide +kernel
theorem dX4_requireEntry_1 : decode cX4_requireEntry 1 = .ok (.iconst 0, 1) := by decide +kernel
theorem dX4_requireEntry_2 : decode cX4_requireEntry 2 = .ok (.sipush 1439, 3) := by decide +kernel
theorem dX4_requireEntry_5 : decode cX4_requireEntry 5 = .ok (.invokestatic 27, 3) := by decide +kernel
theorem dX4_requireEntry_8 : decode cX4_requireEntry 8 = .ok (.aload_n 0, 1) := by decide +kernel
theorem dX4_requireEntry_9 : decode cX4_requireEntry 9 = .ok (.getfield 166, 3) := by decide +kernel
theorem dX4_requireEntry_12 : decode cX4_requireEntry 12 = .ok (.iload_n 2, 1) := by decide +kernel
theorem dX4_requireEntry_13 : decode cX4_requireEntry 13 = .ok (.invokestatic 46, 3) := by decide +kernel
theorem dX4_requireEntry_16 : decode cX4_requireEntry 16 = .ok (.aload_n 0, 1) := by decide +kernel
theorem dX4_requireEntry_17 : decode cX4_requireEntry 17 = .ok (.invokevirtual 170, 3) := by decide +kernel
theorem dX4_requireEntry_20 : decode cX4_requireEntry 20 = .ok (.bipush 20, 2) := by decide +kernel
theorem dX4_requireEntry_22 : decode cX4_requireEntry 22 = .ok (.invokestatic 35, 3) := by decide +kernel
theorem dX4_requireEntry_25 : decode cX4_requireEntry 25 = .ok (.return_, 1) := by decide +kernel
theorem dX4_pointAt_0 : decode cX4_pointAt 0 = .ok (.iload_n 1, 1) := by decide +kernel
theorem dX4_pointAt_1 : decode cX4_pointAt 1 = .ok (.ifCond .lt 21, 3) := by decide +kernel
theorem dX4_pointAt_4 : decode cX4_pointAt 4 = .ok (.iload_n 1, 1) := by decide +kernel
theorem dX4_pointAt_5 : decode cX4_pointAt 5 = .ok (.aload_n 0, 1) := by decide +kernel
theorem dX4_pointAt_6 : decode cX4_pointAt 6 = .ok (.getfield 11, 3) := by decide +kernel
theorem dX4_pointAt_9 : decode cX4_pointAt 9 = .ok (.arraylength, 1) := by decide +kernel
theorem dX4_pointAt_10 : decode cX4_pointAt 10 = .ok (.if_icmp .ge 12, 3) := by decide +kernel
theorem dX4_pointAt_13 : decode cX4_pointAt 13 = .ok (.aload_n 0, 1) := by decide +kernel
theorem dX4_pointAt_14 : decode cX4_pointAt 14 = .ok (.getfield 11, 3) := by decide +kernel
theorem dX4_pointAt_17 : decode cX4_pointAt 17 = .ok (.iload_n 1, 1) := by decide +kernel
theorem dX4_pointAt_18 : decode cX4_pointAt 18 = .ok (.aaload, 1) := by decide +kernel
theorem dX4_pointAt_19 : decode cX4_pointAt 19 = .ok (.ifnonnull 13, 3) := by decide +kernel
theorem dX4_pointAt_22 : decode cX4_pointAt 22 = .ok (.new 173, 3) := by decide +kernel
theorem dX4_pointAt_25 : decode cX4_pointAt 25 = .ok (.dup, 1) := by decide +kernel
theorem dX4_pointAt_26 : decode cX4_pointAt 26 = .ok (.ldc 175, 2) := by decide +kernel
theorem dX4_pointAt_28 : decode cX4_pointAt 28 = .ok (.invokespecial 177, 3) := by decide +kernel
theorem dX4_pointAt_31 : decode cX4_pointAt 31 = .ok (.athrow, 1) := by decide +kernel
theorem dX4_pointAt_32 : decode cX4_pointAt 32 = .ok (.aload_n 0, 1) := by decide +kernel
theorem dX4_pointAt_33 : decode cX4_pointAt 33 = .ok (.getfield 11, 3) := by decide +kernel
theorem dX4_pointAt_36 : decode cX4_pointAt 36 = .ok (.iload_n 1, 1) := by decide +kernel
theorem dX4_pointAt_37 : decode cX4_pointAt 37 = .ok (.aaload, 1) := by decide +kernel
theorem dX4_pointAt_38 : decode cX4_pointAt 38 = .ok (.areturn, 1) := by decide +kernel
theorem dX4_subscriptionAt_0 : decode cX4_subscriptionAt 0 = .ok (.iload_n 1, 1) := by decide +kernel
theorem dX4_subscriptionAt_1 : decode cX4_subscriptionAt 1 = .ok (.ifCond .lt 21, 3) := by decide +kernel
theorem dX4_subscriptionAt_4 : decode cX4_subscriptionAt 4 = .ok (.iload_n 1, 1) := by decide +kernel
theorem dX4_subscriptionAt_5 : decode cX4_subscriptionAt 5 = .ok (.aload_n 0, 1) := by decide +kernel
theorem dX4_subscriptionAt_6 : decode cX4_subscriptionAt 6 = .ok (.getfield 17, 3) := by decide +kernel
theorem dX4_subscriptionAt_9 : decode cX4_subscriptionAt 9 = .ok (.arraylength, 1) := by decide +kernel
theorem dX4_subscriptionAt_10 : decode cX4_subscriptionAt 10 = .ok (.if_icmp .ge 12, 3) := by decide +kernel
theorem dX4_subscriptionAt_13 : decode cX4_subscriptionAt 13 = .ok (.aload_n 0, 1) := by decide +kernel
theorem dX4_subscriptionAt_14 : decode cX4_subscriptionAt 14 = .ok (.getfield 17, 3) := by decide +kernel
theorem dX4_subscriptionAt_17 : decode cX4_subscriptionAt 17 = .ok (.iload_n 1, 1) := by decide +kernel
theorem dX4_subscriptionAt_18 : decode cX4_subscriptionAt 18 = .ok (.aaload, 1) := by decide +kernel
theorem dX4_subscriptionAt_19 : decode cX4_subscriptionAt 19 = .ok (.ifnonnull 13, 3) := by decide +kernel
theorem dX4_subscriptionAt_22 : decode cX4_subscriptionAt 22 = .ok (.new 173, 3) := by decide +kernel
theorem dX4_subscriptionAt_25 : decode cX4_subscriptionAt 25 = .ok (.dup, 1) := by decide +kernel
theorem dX4_subscriptionAt_26 : decode cX4_subscriptionAt 26 = .ok (.ldc 178, 2) := by decide +kernel
theorem dX4_subscriptionAt_28 : decode cX4_subscriptionAt 28 = .ok (.invokespecial 177, 3) := by decide +kernel
theorem dX4_subscriptionAt_31 : decode cX4_subscriptionAt 31 = .ok (.athrow, 1) := by decide +kernel
theorem dX4_subscriptionAt_32 : decode cX4_subscriptionAt 32 = .ok (.aload_n 0, 1) := by decide +kernel
theorem dX4_subscriptionAt_33 : decode cX4_subscriptionAt 33 = .ok (.getfield 17, 3) := by decide +kernel
theorem dX4_subscriptionAt_36 : decode cX4_subscriptionAt 36 = .ok (.iload_n 1, 1) := by decide +kernel
theorem dX4_subscriptionAt_37 : decode cX4_subscriptionAt 37 = .ok (.aaload, 1) := by decide +kernel
theorem dX4_subscriptionAt_38 : decode cX4_subscriptionAt 38 = .ok (.areturn, 1) := by decide +kernel
theorem dX4_scheduleAt_0 : decode cX4_scheduleAt 0 = .ok (.iload_n 1, 1) := by decide +kernel
theorem dX4_scheduleAt_1 : decode cX4_scheduleAt 1 = .ok (.ifCond .lt 21, 3) := by decide +kernel
theorem dX4_scheduleAt_4 : decode cX4_scheduleAt 4 = .ok (.iload_n 1, 1) := by decide +kernel
theorem dX4_scheduleAt_5 : decode cX4_scheduleAt 5 = .ok (.aload_n 0, 1) := by decide +kernel
theorem dX4_scheduleAt_6 : decode cX4_scheduleAt 6 = .ok (.getfield 23, 3) := by decide +kernel
theorem dX4_scheduleAt_9 : decode cX4_scheduleAt 9 = .ok (.arraylength, 1) := by decide +kernel
theorem dX4_scheduleAt_10 : decode cX4_scheduleAt 10 = .ok (.if_icmp .ge 12, 3) := by decide +kernel
theorem dX4_scheduleAt_13 : decode cX4_scheduleAt 13 = .ok (.aload_n 0, 1) := by decide +kernel
theorem dX4_scheduleAt_14 : decode cX4_scheduleAt 14 = .ok (.getfield 23, 3) := by decide +kernel
theorem dX4_scheduleAt_17 : decode cX4_scheduleAt 17 = .ok (.iload_n 1, 1) := by decide +kernel
theorem dX4_scheduleAt_18 : decode cX4_scheduleAt 18 = .ok (.aaload, 1) := by decide +kernel
theorem dX4_scheduleAt_19 : decode cX4_scheduleAt 19 = .ok (.ifnonnull 13, 3) := by decide +kernel
theorem dX4_scheduleAt_22 : decode cX4_scheduleAt 22 = .ok (.new 173, 3) := by decide +kernel
theorem dX4_scheduleAt_25 : decode cX4_scheduleAt 25 = .ok (.dup, 1) := by decide +kernel
theorem dX4_scheduleAt_26 : decode cX4_scheduleAt 26 = .ok (.ldc 180, 2) := by decide +kernel
theorem dX4_scheduleAt_28 : decode cX4_scheduleAt 28 = .ok (.invokespecial 177, 3) := by decide +kernel
theorem dX4_scheduleAt_31 : decode cX4_scheduleAt 31 = .ok (.athrow, 1) := by decide +kernel
theorem dX4_scheduleAt_32 : decode cX4_scheduleAt 32 = .ok (.aload_n 0, 1) := by decide +kernel
theorem dX4_scheduleAt_33 : decode cX4_scheduleAt 33 = .ok (.getfield 23, 3) := by decide +kernel
theorem dX4_scheduleAt_36 : decode cX4_scheduleAt 36 = .ok (.iload_n 1, 1) := by decide +kernel
theorem dX4_scheduleAt_37 : decode cX4_scheduleAt 37 = .ok (.aaload, 1) := by decide +kernel
theorem dX4_scheduleAt_38 : decode cX4_scheduleAt 38 = .ok (.areturn, 1) := by decide +kernel
theorem dX4_put_0 : decode cX4_put 0 = .ok (.aload_n 1, 1) := by decide +kernel
theorem dX4_put_1 : decode cX4_put 1 = .ok (.getfield 68, 3) := by decide +kernel
theorem dX4_put_4 : decode cX4_put 4 = .ok (.iload_n 2, 1) := by decide +kernel
theorem dX4_put_5 : decode cX4_put 5 = .ok (.iload_n 3, 1) := by decide +kernel
theorem dX4_put_6 : decode cX4_put 6 = .ok (.iastore, 1) := by decide +kernel
theorem dX4_put_7 : decode cX4_put 7 = .ok (.aload_n 1, 1) := by decide +kernel
theorem dX4_put_8 : decode cX4_put 8 = .ok (.invokevirtual 182, 3) := by decide +kernel
theorem dX4_put_11 : decode cX4_put 11 = .ok (.istore 4, 2) := by decide +kernel
theorem dX4_put_13 : decode cX4_put 13 = .ok (.iload 4, 2) := by decide +kernel
theorem dX4_put_15 : decode cX4_put 15 = .ok (.aload_n 1, 1) := by decide +kernel
theorem dX4_put_16 : decode cX4_put 16 = .ok (.getfield 65, 3) := by decide +kernel
theorem dX4_put_19 : decode cX4_put 19 = .ok (.if_icmp .eq 18, 3) := by decide +kernel
theorem dX4_put_22 : decode cX4_put 22 = .ok (.aload_n 1, 1) := by decide +kernel
theorem dX4_put_23 : decode cX4_put 23 = .ok (.iload 4, 2) := by decide +kernel
theorem dX4_put_25 : decode cX4_put 25 = .ok (.aload_n 0, 1) := by decide +kernel
theorem dX4_put_26 : decode cX4_put 26 = .ok (.getfield 79, 3) := by decide +kernel
theorem dX4_put_29 : decode cX4_put 29 = .ok (.invokevirtual 185, 3) := by decide +kernel
theorem dX4_put_32 : decode cX4_put 32 = .ok (.aload_n 0, 1) := by decide +kernel
theorem dX4_put_33 : decode cX4_put 33 = .ok (.aload_n 1, 1) := by decide +kernel
theorem dX4_put_34 : decode cX4_put 34 = .ok (.invokevirtual 188, 3) := by decide +kernel
theorem dX4_put_37 : decode cX4_put 37 = .ok (.return_, 1) := by decide +kernel
theorem dX4_reportChange_0 : decode cX4_reportChange 0 = .ok (.aload_n 0, 1) := by decide +kernel
theorem dX4_reportChange_1 : decode cX4_reportChange 1 = .ok (.getfield 17, 3) := by decide +kernel
theorem dX4_reportChange_4 : decode cX4_reportChange 4 = .ok (.astore_n 2, 1) := by decide +kernel
theorem dX4_reportChange_5 : decode cX4_reportChange 5 = .ok (.aload_n 2, 1) := by decide +kernel
theorem dX4_reportChange_6 : decode cX4_reportChange 6 = .ok (.arraylength, 1) := by decide +kernel
theorem dX4_reportChange_7 : decode cX4_reportChange 7 = .ok (.istore_n 3, 1) := by decide +kernel
theorem dX4_reportChange_8 : decode cX4_reportChange 8 = .ok (.iconst 0, 1) := by decide +kernel
theorem dX4_reportChange_9 : decode cX4_reportChange 9 = .ok (.istore 4, 2) := by decide +kernel
theorem dX4_reportChange_11 : decode cX4_reportChange 11 = .ok (.iload 4, 2) := by decide +kernel
theorem dX4_reportChange_13 : decode cX4_reportChange 13 = .ok (.iload_n 3, 1) := by decide +kernel
theorem dX4_reportChange_14 : decode cX4_reportChange 14 = .ok (.if_icmp .ge 71, 3) := by decide +kernel
theorem dX4_reportChange_17 : decode cX4_reportChange 17 = .ok (.aload_n 2, 1) := by decide +kernel
theorem dX4_reportChange_18 : decode cX4_reportChange 18 = .ok (.iload 4, 2) := by decide +kernel
theorem dX4_reportChange_20 : decode cX4_reportChange 20 = .ok (.aaload, 1) := by decide +kernel
theorem dX4_reportChange_21 : decode cX4_reportChange 21 = .ok (.astore 5, 2) := by decide +kernel
theorem dX4_reportChange_23 : decode cX4_reportChange 23 = .ok (.aload 5, 2) := by decide +kernel
theorem dX4_reportChange_25 : decode cX4_reportChange 25 = .ok (.ifnonnull 6, 3) := by decide +kernel
theorem dX4_reportChange_28 : decode cX4_reportChange 28 = .ok (.goto 57, 3) := by decide +kernel
theorem dX4_reportChange_31 : decode cX4_reportChange 31 = .ok (.aload 5, 2) := by decide +kernel
theorem dX4_reportChange_33 : decode cX4_reportChange 33 = .ok (.getfield 95, 3) := by decide +kernel
theorem dX4_reportChange_36 : decode cX4_reportChange 36 = .ok (.ifCond .eq 43, 3) := by decide +kernel
theorem dX4_reportChange_39 : decode cX4_reportChange 39 = .ok (.aload 5, 2) := by decide +kernel
theorem dX4_reportChange_41 : decode cX4_reportChange 41 = .ok (.getfield 192, 3) := by decide +kernel
theorem dX4_reportChange_44 : decode cX4_reportChange 44 = .ok (.aload_n 1, 1) := by decide +kernel
theorem dX4_reportChange_45 : decode cX4_reportChange 45 = .ok (.if_acmp .ne 34, 3) := by decide +kernel
theorem dX4_reportChange_48 : decode cX4_reportChange 48 = .ok (.aload 5, 2) := by decide +kernel
theorem dX4_reportChange_50 : decode cX4_reportChange 50 = .ok (.aload_n 1, 1) := by decide +kernel
theorem dX4_reportChange_51 : decode cX4_reportChange 51 = .ok (.getfield 65, 3) := by decide +kernel
theorem dX4_reportChange_54 : decode cX4_reportChange 54 = .ok (.invokevirtual 193, 3) := by decide +kernel
theorem dX4_reportChange_57 : decode cX4_reportChange 57 = .ok (.ifCond .eq 22, 3) := by decide +kernel
theorem dX4_reportChange_60 : decode cX4_reportChange 60 = .ok (.aload 5, 2) := by decide +kernel
theorem dX4_reportChange_62 : decode cX4_reportChange 62 = .ok (.aload_n 1, 1) := by decide +kernel
theorem dX4_reportChange_63 : decode cX4_reportChange 63 = .ok (.getfield 65, 3) := by decide +kernel
theorem dX4_reportChange_66 : decode cX4_reportChange 66 = .ok (.invokevirtual 196, 3) := by decide +kernel
theorem dX4_reportChange_69 : decode cX4_reportChange 69 = .ok (.aload_n 0, 1) := by decide +kernel
theorem dX4_reportChange_70 : decode cX4_reportChange 70 = .ok (.dup, 1) := by decide +kernel
theorem dX4_reportChange_71 : decode cX4_reportChange 71 = .ok (.getfield 146, 3) := by decide +kernel
theorem dX4_reportChange_74 : decode cX4_reportChange 74 = .ok (.iconst 1, 1) := by decide +kernel
theorem dX4_reportChange_75 : decode cX4_reportChange 75 = .ok (.iadd, 1) := by decide +kernel
theorem dX4_reportChange_76 : decode cX4_reportChange 76 = .ok (.putfield 146, 3) := by decide +kernel
theorem dX4_reportChange_79 : decode cX4_reportChange 79 = .ok (.iinc 4 1, 3) := by decide +kernel
theorem dX4_reportChange_82 : decode cX4_reportChange 82 = .ok (.goto (-71), 3) := by decide +kernel
theorem dX4_reportChange_85 : decode cX4_reportChange 85 = .ok (.return_, 1) := by decide +kernel
theorem dX4_follow_0 : decode cX4_follow 0 = .ok (.aload_n 1, 1) := by decide +kernel
theorem dX4_follow_1 : decode cX4_follow 1 = .ok (.aload_n 0, 1) := by decide +kernel
theorem dX4_follow_2 : decode cX4_follow 2 = .ok (.getfield 79, 3) := by decide +kernel
theorem dX4_follow_5 : decode cX4_follow 5 = .ok (.invokevirtual 140, 3) := by decide +kernel
theorem dX4_follow_8 : decode cX4_follow 8 = .ok (.istore_n 2, 1) := by decide +kernel
theorem dX4_follow_9 : decode cX4_follow 9 = .ok (.iload_n 2, 1) := by decide +kernel
theorem dX4_follow_10 : decode cX4_follow 10 = .ok (.aload_n 1, 1) := by decide +kernel
theorem dX4_follow_11 : decode cX4_follow 11 = .ok (.getfield 133, 3) := by decide +kernel
theorem dX4_follow_14 : decode cX4_follow 14 = .ok (.if_icmp .eq 21, 3) := by decide +kernel
theorem dX4_follow_17 : decode cX4_follow 17 = .ok (.aload_n 1, 1) := by decide +kernel
theorem dX4_follow_18 : decode cX4_follow 18 = .ok (.iload_n 2, 1) := by decide +kernel
theorem dX4_follow_19 : decode cX4_follow 19 = .ok (.putfield 133, 3) := by decide +kernel
theorem dX4_follow_22 : decode cX4_follow 22 = .ok (.aload_n 0, 1) := by decide +kernel
theorem dX4_follow_23 : decode cX4_follow 23 = .ok (.aload_n 1, 1) := by decide +kernel
theorem dX4_follow_24 : decode cX4_follow 24 = .ok (.getfield 166, 3) := by decide +kernel
theorem dX4_follow_27 : decode cX4_follow 27 = .ok (.aload_n 1, 1) := by decide +kernel
theorem dX4_follow_28 : decode cX4_follow 28 = .ok (.getfield 200, 3) := by decide +kernel
theorem dX4_follow_31 : decode cX4_follow 31 = .ok (.iload_n 2, 1) := by decide +kernel
theorem dX4_follow_32 : decode cX4_follow 32 = .ok (.invokevirtual 61, 3) := by decide +kernel
theorem dX4_follow_35 : decode cX4_follow 35 = .ok (.return_, 1) := by decide +kernel
theorem dX4_passMinute_0 : decode cX4_passMinute 0 = .ok (.aload_n 0, 1) := by decide +kernel
theorem dX4_passMinute_1 : decode cX4_passMinute 1 = .ok (.dup, 1) := by decide +kernel
theorem dX4_passMinute_2 : decode cX4_passMinute 2 = .ok (.getfield 79, 3) := by decide +kernel
theorem dX4_passMinute_5 : decode cX4_passMinute 5 = .ok (.iconst 1, 1) := by decide +kernel
theorem dX4_passMinute_6 : decode cX4_passMinute 6 = .ok (.iadd, 1) := by decide +kernel
theorem dX4_passMinute_7 : decode cX4_passMinute 7 = .ok (.putfield 79, 3) := by decide +kernel
theorem dX4_passMinute_10 : decode cX4_passMinute 10 = .ok (.aload_n 0, 1) := by decide +kernel
theorem dX4_passMinute_11 : decode cX4_passMinute 11 = .ok (.invokevirtual 203, 3) := by decide +kernel
theorem dX4_passMinute_14 : decode cX4_passMinute 14 = .ok (.aload_n 0, 1) := by decide +kernel
theorem dX4_passMinute_15 : decode cX4_passMinute 15 = .ok (.invokevirtual 206, 3) := by decide +kernel
theorem dX4_passMinute_18 : decode cX4_passMinute 18 = .ok (.aload_n 0, 1) := by decide +kernel
theorem dX4_passMinute_19 : decode cX4_passMinute 19 = .ok (.invokevirtual 209, 3) := by decide +kernel
theorem dX4_passMinute_22 : decode cX4_passMinute 22 = .ok (.return_, 1) := by decide +kernel
theorem dX4_releaseHeldCommands_0 : decode cX4_releaseHeldCommands 0 = .ok (.aload_n 0, 1) := by decide +kernel
theorem dX4_releaseHeldCommands_1 : decode cX4_releaseHeldCommands 1 = .ok (.getfield 11, 3) := by decide +kernel
theorem dX4_releaseHeldCommands_4 : decode cX4_releaseHeldCommands 4 = .ok (.astore_n 1, 1) := by decide +kernel
theorem dX4_releaseHeldCommands_5 : decode cX4_releaseHeldCommands 5 = .ok (.aload_n 1, 1) := by decide +kernel
theorem dX4_releaseHeldCommands_6 : decode cX4_releaseHeldCommands 6 = .ok (.arraylength, 1) := by decide +kernel
theorem dX4_releaseHeldCommands_7 : decode cX4_releaseHeldCommands 7 = .ok (.istore_n 2, 1) := by decide +kernel
theorem dX4_releaseHeldCommands_8 : decode cX4_releaseHeldCommands 8 = .ok (.iconst 0, 1) := by decide +kernel
theorem dX4_releaseHeldCommands_9 : decode cX4_releaseHeldCommands 9 = .ok (.istore_n 3, 1) := by decide +kernel
theorem dX4_releaseHeldCommands_10 : decode cX4_releaseHeldCommands 10 = .ok (.iload_n 3, 1) := by decide +kernel
theorem dX4_releaseHeldCommands_11 : decode cX4_releaseHeldCommands 11 = .ok (.iload_n 2, 1) := by decide +kernel
theorem dX4_releaseHeldCommands_12 : decode cX4_releaseHeldCommands 12 = .ok (.if_icmp .ge 58, 3) := by decide +kernel
theorem dX4_releaseHeldCommands_15 : decode cX4_releaseHeldCommands 15 = .ok (.aload_n 1, 1) := by decide +kernel
theorem dX4_releaseHeldCommands_16 : decode cX4_releaseHeldCommands 16 = .ok (.iload_n 3, 1) := by decide +kernel
theorem dX4_releaseHeldCommands_17 : decode cX4_releaseHeldCommands 17 = .ok (.aaload, 1) := by decide +kernel
theorem dX4_releaseHeldCommands_18 : decode cX4_releaseHeldCommands 18 = .ok (.astore 4, 2) := by decide +kernel
theorem dX4_releaseHeldCommands_20 : decode cX4_releaseHeldCommands 20 = .ok (.aload 4, 2) := by decide +kernel
theorem dX4_releaseHeldCommands_22 : decode cX4_releaseHeldCommands 22 = .ok (.ifnonnull 6, 3) := by decide +kernel
theorem dX4_releaseHeldCommands_25 : decode cX4_releaseHeldCommands 25 = .ok (.goto 45, 3) := by decide +kernel
theorem dX4_releaseHeldCommands_28 : decode cX4_releaseHeldCommands 28 = .ok (.aload 4, 2) := by decide +kernel
theorem dX4_releaseHeldCommands_30 : decode cX4_releaseHeldCommands 30 = .ok (.invokevirtual 50, 3) := by decide +kernel
theorem dX4_releaseHeldCommands_33 : decode cX4_releaseHeldCommands 33 = .ok (.ifCond .eq 31, 3) := by decide +kernel
theorem dX4_releaseHeldCommands_36 : decode cX4_releaseHeldCommands 36 = .ok (.aload 4, 2) := by decide +kernel
theorem dX4_releaseHeldCommands_38 : decode cX4_releaseHeldCommands 38 = .ok (.getfield 76, 3) := by decide +kernel
theorem dX4_releaseHeldCommands_41 : decode cX4_releaseHeldCommands 41 = .ok (.aload_n 0, 1) := by decide +kernel
theorem dX4_releaseHeldCommands_42 : decode cX4_releaseHeldCommands 42 = .ok (.getfield 79, 3) := by decide +kernel
theorem dX4_releaseHeldCommands_45 : decode cX4_releaseHeldCommands 45 = .ok (.if_icmp .gt 19, 3) := by decide +kernel
theorem dX4_releaseHeldCommands_48 : decode cX4_releaseHeldCommands 48 = .ok (.aload 4, 2) := by decide +kernel
theorem dX4_releaseHeldCommands_50 : decode cX4_releaseHeldCommands 50 = .ok (.iconst 0, 1) := by decide +kernel
theorem dX4_releaseHeldCommands_51 : decode cX4_releaseHeldCommands 51 = .ok (.putfield 76, 3) := by decide +kernel
theorem dX4_releaseHeldCommands_54 : decode cX4_releaseHeldCommands 54 = .ok (.aload_n 0, 1) := by decide +kernel
theorem dX4_releaseHeldCommands_55 : decode cX4_releaseHeldCommands 55 = .ok (.aload 4, 2) := by decide +kernel
theorem dX4_releaseHeldCommands_57 : decode cX4_releaseHeldCommands 57 = .ok (.bipush 6, 2) := by decide +kernel
theorem dX4_releaseHeldCommands_59 : decode cX4_releaseHeldCommands 59 = .ok (.ldc 157, 2) := by decide +kernel
theorem dX4_releaseHeldCommands_61 : decode cX4_releaseHeldCommands 61 = .ok (.invokevirtual 61, 3) := by decide +kernel
theorem dX4_releaseHeldCommands_64 : decode cX4_releaseHeldCommands 64 = .ok (.iinc 3 1, 3) := by decide +kernel
theorem dX4_releaseHeldCommands_67 : decode cX4_releaseHeldCommands 67 = .ok (.goto (-57), 3) := by decide +kernel
theorem dX4_releaseHeldCommands_70 : decode cX4_releaseHeldCommands 70 = .ok (.return_, 1) := by decide +kernel
theorem dX4_endOldSubscriptions_0 : decode cX4_endOldSubscriptions 0 = .ok (.aload_n 0, 1) := by decide +kernel
theorem dX4_endOldSubscriptions_1 : decode cX4_endOldSubscriptions 1 = .ok (.getfield 17, 3) := by decide +kernel
theorem dX4_endOldSubscriptions_4 : decode cX4_endOldSubscriptions 4 = .ok (.astore_n 1, 1) := by decide +kernel
theorem dX4_endOldSubscriptions_5 : decode cX4_endOldSubscriptions 5 = .ok (.aload_n 1, 1) := by decide +kernel
theorem dX4_endOldSubscriptions_6 : decode cX4_endOldSubscriptions 6 = .ok (.arraylength, 1) := by decide +kernel
theorem dX4_endOldSubscriptions_7 : decode cX4_endOldSubscriptions 7 = .ok (.istore_n 2, 1) := by decide +kernel
theorem dX4_endOldSubscriptions_8 : decode cX4_endOldSubscriptions 8 = .ok (.iconst 0, 1) := by decide +kernel
theorem dX4_endOldSubscriptions_9 : decode cX4_endOldSubscriptions 9 = .ok (.istore_n 3, 1) := by decide +kernel
theorem dX4_endOldSubscriptions_10 : decode cX4_endOldSubscriptions 10 = .ok (.iload_n 3, 1) := by decide +kernel
theorem dX4_endOldSubscriptions_11 : decode cX4_endOldSubscriptions 11 = .ok (.iload_n 2, 1) := by decide +kernel
theorem dX4_endOldSubscriptions_12 : decode cX4_endOldSubscriptions 12 = .ok (.if_icmp .ge 40, 3) := by decide +kernel
theorem dX4_endOldSubscriptions_15 : decode cX4_endOldSubscriptions 15 = .ok (.aload_n 1, 1) := by decide +kernel
theorem dX4_endOldSubscriptions_16 : decode cX4_endOldSubscriptions 16 = .ok (.iload_n 3, 1) := by decide +kernel
theorem dX4_endOldSubscriptions_17 : decode cX4_endOldSubscriptions 17 = .ok (.aaload, 1) := by decide +kernel
theorem dX4_endOldSubscriptions_18 : decode cX4_endOldSubscriptions 18 = .ok (.astore 4, 2) := by decide +kernel
theorem dX4_endOldSubscriptions_20 : decode cX4_endOldSubscriptions 20 = .ok (.aload 4, 2) := by decide +kernel
theorem dX4_endOldSubscriptions_22 : decode cX4_endOldSubscriptions 22 = .ok (.ifnonnull 6, 3) := by decide +kernel
theorem dX4_endOldSubscriptions_25 : decode cX4_endOldSubscriptions 25 = .ok (.goto 27, 3) := by decide +kernel
theorem dX4_endOldSubscriptions_28 : decode cX4_endOldSubscriptions 28 = .ok (.aload 4, 2) := by decide +kernel
theorem dX4_endOldSubscriptions_30 : decode cX4_endOldSubscriptions 30 = .ok (.getfield 212, 3) := by decide +kernel
theorem dX4_endOldSubscriptions_33 : decode cX4_endOldSubscriptions 33 = .ok (.aload_n 0, 1) := by decide +kernel
theorem dX4_endOldSubscriptions_34 : decode cX4_endOldSubscriptions 34 = .ok (.getfield 79, 3) := by decide +kernel
theorem dX4_endOldSubscriptions_37 : decode cX4_endOldSubscriptions 37 = .ok (.if_icmp .gt 9, 3) := by decide +kernel
theorem dX4_endOldSubscriptions_40 : decode cX4_endOldSubscriptions 40 = .ok (.aload 4, 2) := by decide +kernel
theorem dX4_endOldSubscriptions_42 : decode cX4_endOldSubscriptions 42 = .ok (.iconst 0, 1) := by decide +kernel
theorem dX4_endOldSubscriptions_43 : decode cX4_endOldSubscriptions 43 = .ok (.putfield 95, 3) := by decide +kernel
theorem dX4_endOldSubscriptions_46 : decode cX4_endOldSubscriptions 46 = .ok (.iinc 3 1, 3) := by decide +kernel
theorem dX4_endOldSubscriptions_49 : decode cX4_endOldSubscriptions 49 = .ok (.goto (-39), 3) := by decide +kernel
theorem dX4_endOldSubscriptions_52 : decode cX4_endOldSubscriptions 52 = .ok (.return_, 1) := by decide +kernel
theorem dX4_followSchedules_0 : decode cX4_followSchedules 0 = .ok (.aload_n 0, 1) := by decide +kernel
theorem dX4_followSchedules_1 : decode cX4_followSchedules 1 = .ok (.getfield 23, 3) := by decide +kernel
theorem dX4_followSchedules_4 : decode cX4_followSchedules 4 = .ok (.astore_n 1, 1) := by decide +kernel
theorem dX4_followSchedules_5 : decode cX4_followSchedules 5 = .ok (.aload_n 1, 1) := by decide +kernel
theorem dX4_followSchedules_6 : decode cX4_followSchedules 6 = .ok (.arraylength, 1) := by decide +kernel
theorem dX4_followSchedules_7 : decode cX4_followSchedules 7 = .ok (.istore_n 2, 1) := by decide +kernel
theorem dX4_followSchedules_8 : decode cX4_followSchedules 8 = .ok (.iconst 0, 1) := by decide +kernel
theorem dX4_followSchedules_9 : decode cX4_followSchedules 9 = .ok (.istore_n 3, 1) := by decide +kernel
theorem dX4_followSchedules_10 : decode cX4_followSchedules 10 = .ok (.iload_n 3, 1) := by decide +kernel
theorem dX4_followSchedules_11 : decode cX4_followSchedules 11 = .ok (.iload_n 2, 1) := by decide +kernel
theorem dX4_followSchedules_12 : decode cX4_followSchedules 12 = .ok (.if_icmp .ge 28, 3) := by decide +kernel
theorem dX4_followSchedules_15 : decode cX4_followSchedules 15 = .ok (.aload_n 1, 1) := by decide +kernel
theorem dX4_followSchedules_16 : decode cX4_followSchedules 16 = .ok (.iload_n 3, 1) := by decide +kernel
theorem dX4_followSchedules_17 : decode cX4_followSchedules 17 = .ok (.aaload, 1) := by decide +kernel
theorem dX4_followSchedules_18 : decode cX4_followSchedules 18 = .ok (.astore 4, 2) := by decide +kernel
theorem dX4_followSchedules_20 : decode cX4_followSchedules 20 = .ok (.aload 4, 2) := by decide +kernel
theorem dX4_followSchedules_22 : decode cX4_followSchedules 22 = .ok (.ifnonnull 6, 3) := by decide +kernel
theorem dX4_followSchedules_25 : decode cX4_followSchedules 25 = .ok (.goto 15, 3) := by decide +kernel
theorem dX4_followSchedules_28 : decode cX4_followSchedules 28 = .ok (.aload_n 0, 1) := by decide +kernel
theorem dX4_followSchedules_29 : decode cX4_followSchedules 29 = .ok (.aload 4, 2) := by decide +kernel
theorem dX4_followSchedules_31 : decode cX4_followSchedules 31 = .ok (.invokevirtual 129, 3) := by decide +kernel
theorem dX4_followSchedules_34 : decode cX4_followSchedules 34 = .ok (.iinc 3 1, 3) := by decide +kernel
theorem dX4_followSchedules_37 : decode cX4_followSchedules 37 = .ok (.goto (-27), 3) := by decide +kernel
theorem dX4_followSchedules_40 : decode cX4_followSchedules 40 = .ok (.return_, 1) := by decide +kernel
theorem dJ9_abs_0f7a4_0 : decode cJ9_abs_0f7a4 0 = .ok (.iload_n 0, 1) := by decide +kernel
theorem dJ9_abs_0f7a4_1 : decode cJ9_abs_0f7a4 1 = .ok (.ifCond .ge 8, 3) := by decide +kernel
theorem dJ9_abs_0f7a4_4 : decode cJ9_abs_0f7a4 4 = .ok (.iload_n 0, 1) := by decide +kernel
theorem dJ9_abs_0f7a4_5 : decode cJ9_abs_0f7a4 5 = .ok (.ineg, 1) := by decide +kernel
theorem dJ9_abs_0f7a4_6 : decode cJ9_abs_0f7a4 6 = .ok (.goto 4, 3) := by decide +kernel
theorem dJ9_abs_0f7a4_9 : decode cJ9_abs_0f7a4 9 = .ok (.iload_n 0, 1) := by decide +kernel
theorem dJ9_abs_0f7a4_10 : decode cJ9_abs_0f7a4 10 = .ok (.ireturn, 1) := by decide +kernel
theorem dJ7_fill_53178_0 : decode cJ7_fill_53178 0 = .ok (.iconst 0, 1) := by decide +kernel
theorem dJ7_fill_53178_1 : decode cJ7_fill_53178 1 = .ok (.istore_n 2, 1) := by decide +kernel
theorem dJ7_fill_53178_2 : decode cJ7_fill_53178 2 = .ok (.aload_n 0, 1) := by decide +kernel
theorem dJ7_fill_53178_3 : decode cJ7_fill_53178 3 = .ok (.arraylength, 1) := by decide +kernel
theorem dJ7_fill_53178_4 : decode cJ7_fill_53178 4 = .ok (.istore_n 3, 1) := by decide +kernel
theorem dJ7_fill_53178_5 : decode cJ7_fill_53178 5 = .ok (.iload_n 2, 1) := by decide +kernel
theorem dJ7_fill_53178_6 : decode cJ7_fill_53178 6 = .ok (.iload_n 3, 1) := by decide +kernel
theorem dJ7_fill_53178_7 : decode cJ7_fill_53178 7 = .ok (.if_icmp .ge 13, 3) := by decide +kernel
theorem dJ7_fill_53178_10 : decode cJ7_fill_53178 10 = .ok (.aload_n 0, 1) := by decide +kernel
theorem dJ7_fill_53178_11 : decode cJ7_fill_53178 11 = .ok (.iload_n 2, 1) := by decide +kernel
theorem dJ7_fill_53178_12 : decode cJ7_fill_53178 12 = .ok (.iload_n 1, 1) := by decide +kernel
theorem dJ7_fill_53178_13 : decode cJ7_fill_53178 13 = .ok (.iastore, 1) := by decide +kernel
theorem dJ7_fill_53178_14 : decode cJ7_fill_53178 14 = .ok (.iinc 2 1, 3) := by decide +kernel
theorem dJ7_fill_53178_17 : decode cJ7_fill_53178 17 = .ok (.goto (-12), 3) := by decide +kernel
theorem dJ7_fill_53178_20 : decode cJ7_fill_53178 20 = .ok (.return_, 1) := by decide +kernel
end
section
theorem dX5_init_0 : decode cX5_init 0 = .ok (.aload_n 0, 1) := by decide +kernel
theorem dX5_init_1 : decode cX5_init 1 = .ok (.invokespecial 1, 3) := by decide +kernel
theorem dX5_init_4 : decode cX5_init 4 = .ok (.aload_n 0, 1) := by decide +kernel
theorem dX5_init_5 : decode cX5_init 5 = .ok (.bipush 16, 2) := by decide +kernel
theorem dX5_init_7 : decode cX5_init 7 = .ok (.newarray .boolean, 2) := by decide +kernel
theorem dX5_init_9 : decode cX5_init 9 = .ok (.putfield 7, 3) := by decide +kernel
theorem dX5_init_12 : decode cX5_init 12 = .ok (.aload_n 0, 1) := by decide +kernel
theorem dX5_init_13 : decode cX5_init 13 = .ok (.bipush 16, 2) := by decide +kernel
theorem dX5_init_15 : decode cX5_init 15 = .ok (.newarray .int, 2) := by decide +kernel
theorem dX5_init_17 : decode cX5_init 17 = .ok (.putfield 13, 3) := by decide +kernel
theorem dX5_init_20 : decode cX5_init 20 = .ok (.aload_n 0, 1) := by decide +kernel
theorem dX5_init_21 : decode cX5_init 21 = .ok (.bipush 16, 2) := by decide +kernel
theorem dX5_init_23 : decode cX5_init 23 = .ok (.newarray .int, 2) := by decide +kernel
theorem dX5_init_25 : decode cX5_init 25 = .ok (.putfield 17, 3) := by decide +kernel
theorem dX5_init_28 : decode cX5_init 28 = .ok (.aload_n 0, 1) := by decide +kernel
theorem dX5_init_29 : decode cX5_init 29 = .ok (.bipush 16, 2) := by decide +kernel
theorem dX5_init_31 : decode cX5_init 31 = .ok (.newarray .int, 2) := by decide +kernel
theorem dX5_init_33 : decode cX5_init 33 = .ok (.putfield 20, 3) := by decide +kernel
theorem dX5_init_36 : decode cX5_init 36 = .ok (.aload_n 0, 1) := by decide +kernel
theorem dX5_init_37 : decode cX5_init 37 = .ok (.bipush 16, 2) := by decide +kernel
theorem dX5_init_39 : decode cX5_init 39 = .ok (.newarray .int, 2) := by decide +kernel
theorem dX5_init_41 : decode cX5_init 41 = .ok (.putfield 23, 3) := by decide +kernel
theorem dX5_init_44 : decode cX5_init 44 = .ok (.aload_n 0, 1) := by decide +kernel
theorem dX5_init_45 : decode cX5_init 45 = .ok (.sipush 256, 3) := by decide +kernel
theorem dX5_init_48 : decode cX5_init 48 = .ok (.newarray .int, 2) := by decide +kernel
theorem dX5_init_50 : decode cX5_init 50 = .ok (.putfield 26, 3) := by decide +kernel
theorem dX5_init_53 : decode cX5_init 53 = .ok (.aload_n 0, 1) := by decide +kernel
theorem dX5_init_54 : decode cX5_init 54 = .ok (.bipush 30, 2) := by decide +kernel
theorem dX5_init_56 : decode cX5_init 56 = .ok (.newarray .int, 2) := by decide +kernel
theorem dX5_init_58 : decode cX5_init 58 = .ok (.putfield 29, 3) := by decide +kernel
theorem dX5_init_61 : decode cX5_init 61 = .ok (.aload_n 0, 1) := by decide +kernel
theorem dX5_init_62 : decode cX5_init 62 = .ok (.bipush 30, 2) := by decide +kernel
theorem dX5_init_64 : decode cX5_init 64 = .ok (.newarray .int, 2) := by decide +kernel
theorem dX5_init_66 : decode cX5_init 66 = .ok (.putfield 32, 3) := by decide +kernel
theorem dX5_init_69 : decode cX5_init 69 = .ok (.aload_n 0, 1) := by decide +kernel
theorem dX5_init_70 : decode cX5_init 70 = .ok (.bipush 30, 2) := by decide +kernel
theorem dX5_init_72 : decode cX5_init 72 = .ok (.newarray .int, 2) := by decide +kernel
theorem dX5_init_74 : decode cX5_init 74 = .ok (.putfield 35, 3) := by decide +kernel
theorem dX5_init_77 : decode cX5_init 77 = .ok (.aload_n 0, 1) := by decide +kernel
theorem dX5_init_78 : decode cX5_init 78 = .ok (.bipush 30, 2) := by decide +kernel
theorem dX5_init_80 : decode cX5_init 80 = .ok (.newarray .boolean, 2) := by decide +kernel
theorem dX5_init_82 : decode cX5_init 82 = .ok (.putfield 38, 3) := by decide +kernel
theorem dX5_init_85 : decode cX5_init 85 = .ok (.aload_n 0, 1) := by decide +kernel
theorem dX5_init_86 : decode cX5_init 86 = .ok (.bipush 30, 2) := by decide +kernel
theorem dX5_init_88 : decode cX5_init 88 = .ok (.newarray .int, 2) := by decide +kernel
theorem dX5_init_90 : decode cX5_init 90 = .ok (.putfield 41, 3) := by decide +kernel
theorem dX5_init_93 : decode cX5_init 93 = .ok (.aload_n 0, 1) := by decide +kernel
theorem dX5_init_94 : decode cX5_init 94 = .ok (.bipush 30, 2) := by decide +kernel
theorem dX5_init_96 : decode cX5_init 96 = .ok (.newarray .int, 2) := by decide +kernel
theorem dX5_init_98 : decode cX5_init 98 = .ok (.putfield 44, 3) := by decide +kernel
theorem dX5_init_101 : decode cX5_init 101 = .ok (.aload_n 0, 1) := by decide +kernel
theorem dX5_init_102 : decode cX5_init 102 = .ok (.iconst 4, 1) := by decide +kernel
theorem dX5_init_103 : decode cX5_init 103 = .ok (.newarray .int, 2) := by decide +kernel
theorem dX5_init_105 : decode cX5_init 105 = .ok (.putfield 47, 3) := by decide +kernel
theorem dX5_init_108 : decode cX5_init 108 = .ok (.aload_n 0, 1) := by decide +kernel
theorem dX5_init_109 : decode cX5_init 109 = .ok (.iconst 4, 1) := by decide +kernel
theorem dX5_init_110 : decode cX5_init 110 = .ok (.newarray .int, 2) := by decide +kernel
theorem dX5_init_112 : decode cX5_init 112 = .ok (.putfield 50, 3) := by decide +kernel
theorem dX5_init_115 : decode cX5_init 115 = .ok (.aload_n 0, 1) := by decide +kernel
theorem dX5_init_116 : decode cX5_init 116 = .ok (.iconst 4, 1) := by decide +kernel
theorem dX5_init_117 : decode cX5_init 117 = .ok (.newarray .int, 2) := by decide +kernel
theorem dX5_init_119 : decode cX5_init 119 = .ok (.putfield 53, 3) := by decide +kernel
theorem dX5_init_122 : decode cX5_init 122 = .ok (.aload_n 0, 1) := by decide +kernel
theorem dX5_init_123 : decode cX5_init 123 = .ok (.iconst 4, 1) := by decide +kernel
theorem dX5_init_124 : decode cX5_init 124 = .ok (.newarray .int, 2) := by decide +kernel
theorem dX5_init_126 : decode cX5_init 126 = .ok (.putfield 56, 3) := by decide +kernel
theorem dX5_init_129 : decode cX5_init 129 = .ok (.aload_n 0, 1) := by decide +kernel
theorem dX5_init_130 : decode cX5_init 130 = .ok (.bipush 80, 2) := by decide +kernel
theorem dX5_init_132 : decode cX5_init 132 = .ok (.newarray .int, 2) := by decide +kernel
theorem dX5_init_134 : decode cX5_init 134 = .ok (.putfield 59, 3) := by decide +kernel
theorem dX5_init_137 : decode cX5_init 137 = .ok (.aload_n 0, 1) := by decide +kernel
theorem dX5_init_138 : decode cX5_init 138 = .ok (.bipush 80, 2) := by decide +kernel
theorem dX5_init_140 : decode cX5_init 140 = .ok (.newarray .int, 2) := by decide +kernel
theorem dX5_init_142 : decode cX5_init 142 = .ok (.putfield 62, 3) := by decide +kernel
theorem dX5_init_145 : decode cX5_init 145 = .ok (.aload_n 0, 1) := by decide +kernel
theorem dX5_init_146 : decode cX5_init 146 = .ok (.bipush 80, 2) := by decide +kernel
theorem dX5_init_148 : decode cX5_init 148 = .ok (.newarray .int, 2) := by decide +kernel
theorem dX5_init_150 : decode cX5_init 150 = .ok (.putfield 65, 3) := by decide +kernel
theorem dX5_init_153 : decode cX5_init 153 = .ok (.return_, 1) := by decide +kernel
theorem dX5_thrown_0 : decode cX5_thrown 0 = .ok (.aload_n 0, 1) := by decide +kernel
theorem dX5_thrown_1 : decode cX5_thrown 1 = .ok (.getfield 68, 3) := by decide +kernel
theorem dX5_thrown_4 : decode cX5_thrown 4 = .ok (.ireturn, 1) := by decide +kernel
theorem dX5_in_0 : decode cX5_in 0 = .ok (.iload_n 0, 1) := by decide +kernel
theorem dX5_in_1 : decode cX5_in 1 = .ok (.iload_n 1, 1) := by decide +kernel
theorem dX5_in_2 : decode cX5_in 2 = .ok (.if_icmp .lt 12, 3) := by decide +kernel
theorem dX5_in_5 : decode cX5_in 5 = .ok (.iload_n 0, 1) := by decide +kernel
theorem dX5_in_6 : decode cX5_in 6 = .ok (.iload_n 2, 1) := by decide +kernel
theorem dX5_in_7 : decode cX5_in 7 = .ok (.if_icmp .gt 7, 3) := by decide +kernel
theorem dX5_in_10 : decode cX5_in 10 = .ok (.iconst 1, 1) := by decide +kernel
theorem dX5_in_11 : decode cX5_in 11 = .ok (.goto 4, 3) := by decide +kernel
theorem dX5_in_14 : decode cX5_in 14 = .ok (.iconst 0, 1) := by decide +kernel
theorem dX5_in_15 : decode cX5_in 15 = .ok (.ireturn, 1) := by decide +kernel
theorem dX5_goes_0 : decode cX5_goes 0 = .ok (.aload_n 0, 1) := by decide +kernel
theorem dX5_goes_1 : decode cX5_goes 1 = .ok (.iload_n 1, 1) := by decide +kernel
theorem dX5_goes_2 : decode cX5_goes 2 = .ok (.ifCond .ne 7, 3) := by decide +kernel
theorem dX5_goes_5 : decode cX5_goes 5 = .ok (.iconst 1, 1) := by decide +kernel
theorem dX5_goes_6 : decode cX5_goes 6 = .ok (.goto 20, 3) := by decide +kernel
theorem dX5_goes_9 : decode cX5_goes 9 = .ok (.iload_n 2, 1) := by decide +kernel
theorem dX5_goes_10 : decode cX5_goes 10 = .ok (.ifCond .ne 7, 3) := by decide +kernel
theorem dX5_goes_13 : decode cX5_goes 13 = .ok (.iconst 2, 1) := by decide +kernel
theorem dX5_goes_14 : decode cX5_goes 14 = .ok (.goto 12, 3) := by decide +kernel
theorem dX5_goes_17 : decode cX5_goes 17 = .ok (.iload_n 3, 1) := by decide +kernel
theorem dX5_goes_18 : decode cX5_goes 18 = .ok (.ifCond .ne 7, 3) := by decide +kernel
theorem dX5_goes_21 : decode cX5_goes 21 = .ok (.iconst 3, 1) := by decide +kernel
theorem dX5_goes_22 : decode cX5_goes 22 = .ok (.goto 4, 3) := by decide +kernel
theorem dX5_goes_25 : decode cX5_goes 25 = .ok (.iconst 0, 1) := by decide +kernel
theorem dX5_goes_26 : decode cX5_goes 26 = .ok (.putfield 68, 3) := by decide +kernel
theorem dX5_goes_29 : decode cX5_goes 29 = .ok (.aload_n 0, 1) := by decide +kernel
theorem dX5_goes_30 : decode cX5_goes 30 = .ok (.getfield 68, 3) := by decide +kernel
theorem dX5_goes_33 : decode cX5_goes 33 = .ok (.ifCond .ne 7, 3) := by decide +kernel
theorem dX5_goes_36 : decode cX5_goes 36 = .ok (.iconst 1, 1) := by decide +kernel
theorem dX5_goes_37 : decode cX5_goes 37 = .ok (.goto 4, 3) := by decide +kernel
theorem dX5_goes_40 : decode cX5_goes 40 = .ok (.iconst 0, 1) := by decide +kernel
theorem dX5_goes_41 : decode cX5_goes 41 = .ok (.ireturn, 1) := by decide +kernel
theorem dX5_isPoint_0 : decode cX5_isPoint 0 = .ok (.iload_n 1, 1) := by decide +kernel
theorem dX5_isPoint_1 : decode cX5_isPoint 1 = .ok (.iconst 0, 1) := by decide +kernel
theorem dX5_isPoint_2 : decode cX5_isPoint 2 = .ok (.aload_n 0, 1) := by decide +kernel
theorem dX5_isPoint_3 : decode cX5_isPoint 3 = .ok (.getfield 72, 3) := by decide +kernel
theorem dX5_isPoint_6 : decode cX5_isPoint 6 = .ok (.iconst 1, 1) := by decide +kernel
theorem dX5_isPoint_7 : decode cX5_isPoint 7 = .ok (.isub, 1) := by decide +kernel
theorem dX5_isPoint_8 : decode cX5_isPoint 8 = .ok (.invokestatic 75, 3) := by decide +kernel
theorem dX5_isPoint_11 : decode cX5_isPoint 11 = .ok (.ireturn, 1) := by decide +kernel
theorem dX5_canHave_0 : decode cX5_canHave 0 = .ok (.iload_n 2, 1) := by decide +kernel
theorem dX5_canHave_1 : decode cX5_canHave 1 = .ok (.ldc 79, 2) := by decide +kernel
theorem dX5_canHave_3 : decode cX5_canHave 3 = .ok (.if_icmp .eq 37, 3) := by decide +kernel
theorem dX5_canHave_6 : decode cX5_canHave 6 = .ok (.aload_n 0, 1) := by decide +kernel
theorem dX5_canHave_7 : decode cX5_canHave 7 = .ok (.getfield 7, 3) := by decide +kernel
theorem dX5_canHave_10 : decode cX5_canHave 10 = .ok (.iload_n 1, 1) := by decide +kernel
theorem dX5_canHave_11 : decode cX5_canHave 11 = .ok (.baload, 1) := by decide +kernel
theorem dX5_canHave_12 : decode cX5_canHave 12 = .ok (.ifCond .eq 15, 3) := by decide +kernel
theorem dX5_canHave_15 : decode cX5_canHave 15 = .ok (.iload_n 2, 1) := by decide +kernel
theorem dX5_canHave_16 : decode cX5_canHave 16 = .ok (.iconst 0, 1) := by decide +kernel
theorem dX5_canHave_17 : decode cX5_canHave 17 = .ok (.iconst 1, 1) := by decide +kernel
theorem dX5_canHave_18 : decode cX5_canHave 18 = .ok (.invokestatic 75, 3) := by decide +kernel
theorem dX5_canHave_21 : decode cX5_canHave 21 = .ok (.ifCond .eq 23, 3) := by decide +kernel
theorem dX5_canHave_24 : decode cX5_canHave 24 = .ok (.goto 16, 3) := by decide +kernel
theorem dX5_canHave_27 : decode cX5_canHave 27 = .ok (.iload_n 2, 1) := by decide +kernel
theorem dX5_canHave_28 : decode cX5_canHave 28 = .ok (.sipush (-1000), 3) := by decide +kernel
theorem dX5_canHave_31 : decode cX5_canHave 31 = .ok (.sipush 1000, 3) := by decide +kernel
theorem dX5_canHave_34 : decode cX5_canHave 34 = .ok (.invokestatic 75, 3) := by decide +kernel
theorem dX5_canHave_37 : decode cX5_canHave 37 = .ok (.ifCond .eq 7, 3) := by decide +kernel
theorem dX5_canHave_40 : decode cX5_canHave 40 = .ok (.iconst 1, 1) := by decide +kernel
theorem dX5_canHave_41 : decode cX5_canHave 41 = .ok (.goto 4, 3) := by decide +kernel
theorem dX5_canHave_44 : decode cX5_canHave 44 = .ok (.iconst 0, 1) := by decide +kernel
theorem dX5_canHave_45 : decode cX5_canHave 45 = .ok (.ireturn, 1) := by decide +kernel
theorem dX5_adds_0 : decode cX5_adds 0 = .ok (.aload_n 0, 1) := by decide +kernel
theorem dX5_adds_1 : decode cX5_adds 1 = .ok (.getfield 13, 3) := by decide +kernel
theorem dX5_adds_4 : decode cX5_adds 4 = .ok (.aload_n 0, 1) := by decide +kernel
theorem dX5_adds_5 : decode cX5_adds 5 = .ok (.getfield 72, 3) := by decide +kernel
theorem dX5_adds_8 : decode cX5_adds 8 = .ok (.iload_n 1, 1) := by decide +kernel
theorem dX5_adds_9 : decode cX5_adds 9 = .ok (.iastore, 1) := by decide +kernel
theorem dX5_adds_10 : decode cX5_adds 10 = .ok (.aload_n 0, 1) := by decide +kernel
theorem dX5_adds_11 : decode cX5_adds 11 = .ok (.getfield 7, 3) := by decide +kernel
theorem dX5_adds_14 : decode cX5_adds 14 = .ok (.aload_n 0, 1) := by decide +kernel
theorem dX5_adds_15 : decode cX5_adds 15 = .ok (.getfield 72, 3) := by decide +kernel
theorem dX5_adds_18 : decode cX5_adds 18 = .ok (.iload_n 2, 1) := by decide +kernel
theorem dX5_adds_19 : decode cX5_adds 19 = .ok (.bastore, 1) := by decide +kernel
theorem dX5_adds_20 : decode cX5_adds 20 = .ok (.aload_n 0, 1) := by decide +kernel
theorem dX5_adds_21 : decode cX5_adds 21 = .ok (.getfield 17, 3) := by decide +kernel
theorem dX5_adds_24 : decode cX5_adds 24 = .ok (.aload_n 0, 1) := by decide +kernel
theorem dX5_adds_25 : decode cX5_adds 25 = .ok (.getfield 72, 3) := by decide +kernel
theorem dX5_adds_28 : decode cX5_adds 28 = .ok (.iload_n 3, 1) := by decide +kernel
theorem dX5_adds_29 : decode cX5_adds 29 = .ok (.iastore, 1) := by decide +kernel
theorem dX5_adds_30 : decode cX5_adds 30 = .ok (.iconst 0, 1) := by decide +kernel
theorem dX5_adds_31 : decode cX5_adds 31 = .ok (.istore 4, 2) := by decide +kernel
theorem dX5_adds_33 : decode cX5_adds 33 = .ok (.iload 4, 2) := by decide +kernel
theorem dX5_adds_35 : decode cX5_adds 35 = .ok (.bipush 16, 2) := by decide +kernel
theorem dX5_adds_37 : decode cX5_adds 37 = .ok (.if_icmp .ge 26, 3) := by decide +kernel
theorem dX5_adds_40 : decode cX5_adds 40 = .ok (.aload_n 0, 1) := by decide +kernel
theorem dX5_adds_41 : decode cX5_adds 41 = .ok (.getfield 26, 3) := by decide +kernel
theorem dX5_adds_44 : decode cX5_adds 44 = .ok (.bipush 16, 2) := by decide +kernel
theorem dX5_adds_46 : decode cX5_adds 46 = .ok (.aload_n 0, 1) := by decide +kernel
theorem dX5_adds_47 : decode cX5_adds 47 = .ok (.getfield 72, 3) := by decide +kernel
theorem dX5_adds_50 : decode cX5_adds 50 = .ok (.imul, 1) := by decide +kernel
theorem dX5_adds_51 : decode cX5_adds 51 = .ok (.iload 4, 2) := by decide +kernel
theorem dX5_adds_53 : decode cX5_adds 53 = .ok (.iadd, 1) := by decide +kernel
theorem dX5_adds_54 : decode cX5_adds 54 = .ok (.ldc 79, 2) := by decide +kernel
theorem dX5_adds_56 : decode cX5_adds 56 = .ok (.iastore, 1) := by decide +kernel
theorem dX5_adds_57 : decode cX5_adds 57 = .ok (.iinc 4 1, 3) := by decide +kernel
theorem dX5_adds_60 : decode cX5_adds 60 = .ok (.goto (-27), 3) := by decide +kernel
theorem dX5_adds_63 : decode cX5_adds 63 = .ok (.aload_n 0, 1) := by decide +kernel
theorem dX5_adds_64 : decode cX5_adds 64 = .ok (.dup, 1) := by decide +kernel
theorem dX5_adds_65 : decode cX5_adds 65 = .ok (.getfield 72, 3) := by decide +kernel
theorem dX5_adds_68 : decode cX5_adds 68 = .ok (.iconst 1, 1) := by decide +kernel
theorem dX5_adds_69 : decode cX5_adds 69 = .ok (.iadd, 1) := by decide +kernel
theorem dX5_adds_70 : decode cX5_adds 70 = .ok (.putfield 72, 3) := by decide +kernel
theorem dX5_adds_73 : decode cX5_adds 73 = .ok (.aload_n 0, 1) := by decide +kernel
theorem dX5_adds_74 : decode cX5_adds 74 = .ok (.getfield 72, 3) := by decide +kernel
theorem dX5_adds_77 : decode cX5_adds 77 = .ok (.iconst 1, 1) := by decide +kernel
theorem dX5_adds_78 : decode cX5_adds 78 = .ok (.isub, 1) := by decide +kernel
theorem dX5_adds_79 : decode cX5_adds 79 = .ok (.ireturn, 1) := by decide +kernel
theorem dX5_addMeasure_0 : decode cX5_addMeasure 0 = .ok (.aload_n 0, 1) := by decide +kernel
theorem dX5_addMeasure_1 : decode cX5_addMeasure 1 = .ok (.iload_n 1, 1) := by decide +kernel
theorem dX5_addMeasure_2 : decode cX5_addMeasure 2 = .ok (.sipush (-1000), 3) := by decide +kernel
theorem dX5_addMeasure_5 : decode cX5_addMeasure 5 = .ok (.sipush 1000, 3) := by decide +kernel
theorem dX5_addMeasure_8 : decode cX5_addMeasure 8 = .ok (.invokestatic 75, 3) := by decide +kernel
theorem dX5_addMeasure_11 : decode cX5_addMeasure 11 = .ok (.aload_n 0, 1) := by decide +kernel
theorem dX5_addMeasure_12 : decode cX5_addMeasure 12 = .ok (.getfield 72, 3) := by decide +kernel
theorem dX5_addMeasure_15 : decode cX5_addMeasure 15 = .ok (.bipush 16, 2) := by decide +kernel
theorem dX5_addMeasure_17 : decode cX5_addMeasure 17 = .ok (.if_icmp .ge 7, 3) := by decide +kernel
theorem dX5_addMeasure_20 : decode cX5_addMeasure 20 = .ok (.iconst 1, 1) := by decide +kernel
theorem dX5_addMeasure_21 : decode cX5_addMeasure 21 = .ok (.goto 4, 3) := by decide +kernel
theorem dX5_addMeasure_24 : decode cX5_addMeasure 24 = .ok (.iconst 0, 1) := by decide +kernel
theorem dX5_addMeasure_25 : decode cX5_addMeasure 25 = .ok (.iconst 1, 1) := by decide +kernel
theorem dX5_addMeasure_26 : decode cX5_addMeasure 26 = .ok (.invokevirtual 80, 3) := by decide +kernel
theorem dX5_addMeasure_29 : decode cX5_addMeasure 29 = .ok (.ifCond .eq 13, 3) := by decide +kernel
theorem dX5_addMeasure_32 : decode cX5_addMeasure 32 = .ok (.aload_n 0, 1) := by decide +kernel
theorem dX5_addMeasure_33 : decode cX5_addMeasure 33 = .ok (.iload_n 1, 1) := by decide +kernel
theorem dX5_addMeasure_34 : decode cX5_addMeasure 34 = .ok (.iconst 0, 1) := by decide +kernel
theorem dX5_addMeasure_35 : decode cX5_addMeasure 35 = .ok (.iconst 0, 1) := by decide +kernel
theorem dX5_addMeasure_36 : decode cX5_addMeasure 36 = .ok (.invokevirtual 84, 3) := by decide +kernel
theorem dX5_addMeasure_39 : decode cX5_addMeasure 39 = .ok (.goto 4, 3) := by decide +kernel
theorem dX5_addMeasure_42 : decode cX5_addMeasure 42 = .ok (.iconst 0, 1) := by decide +kernel
theorem dX5_addMeasure_43 : decode cX5_addMeasure 43 = .ok (.ireturn, 1) := by decide +kernel
theorem dX5_addSwitch_0 : decode cX5_addSwitch 0 = .ok (.aload_n 0, 1) := by decide +kernel
theorem dX5_addSwitch_1 : decode cX5_addSwitch 1 = .ok (.iload_n 1, 1) := by decide +kernel
theorem dX5_addSwitch_2 : decode cX5_addSwitch 2 = .ok (.iconst 0, 1) := by decide +kernel
theorem dX5_addSwitch_3 : decode cX5_addSwitch 3 = .ok (.iconst 1, 1) := by decide +kernel
theorem dX5_addSwitch_4 : decode cX5_addSwitch 4 = .ok (.invokestatic 75, 3) := by decide +kernel
theorem dX5_addSwitch_7 : decode cX5_addSwitch 7 = .ok (.ifCond .eq 18, 3) := by decide +kernel
theorem dX5_addSwitch_10 : decode cX5_addSwitch 10 = .ok (.iload_n 2, 1) := by decide +kernel
theorem dX5_addSwitch_11 : decode cX5_addSwitch 11 = .ok (.iconst 0, 1) := by decide +kernel
theorem dX5_addSwitch_12 : decode cX5_addSwitch 12 = .ok (.sipush 1000, 3) := by decide +kernel
theorem dX5_addSwitch_15 : decode cX5_addSwitch 15 = .ok (.invokestatic 75, 3) := by decide +kernel
theorem dX5_addSwitch_18 : decode cX5_addSwitch 18 = .ok (.ifCond .eq 7, 3) := by decide +kernel
theorem dX5_addSwitch_21 : decode cX5_addSwitch 21 = .ok (.iconst 1, 1) := by decide +kernel
theorem dX5_addSwitch_22 : decode cX5_addSwitch 22 = .ok (.goto 4, 3) := by decide +kernel
theorem dX5_addSwitch_25 : decode cX5_addSwitch 25 = .ok (.iconst 0, 1) := by decide +kernel
theorem dX5_addSwitch_26 : decode cX5_addSwitch 26 = .ok (.aload_n 0, 1) := by decide +kernel
theorem dX5_addSwitch_27 : decode cX5_addSwitch 27 = .ok (.getfield 72, 3) := by decide +kernel
theorem dX5_addSwitch_30 : decode cX5_addSwitch 30 = .ok (.bipush 16, 2) := by decide +kernel
theorem dX5_addSwitch_32 : decode cX5_addSwitch 32 = .ok (.if_icmp .ge 7, 3) := by decide +kernel
theorem dX5_addSwitch_35 : decode cX5_addSwitch 35 = .ok (.iconst 1, 1) := by decide +kernel
theorem dX5_addSwitch_36 : decode cX5_addSwitch 36 = .ok (.goto 4, 3) := by decide +kernel
theorem dX5_addSwitch_39 : decode cX5_addSwitch 39 = .ok (.iconst 0, 1) := by decide +kernel
theorem dX5_addSwitch_40 : decode cX5_addSwitch 40 = .ok (.iconst 1, 1) := by decide +kernel
theorem dX5_addSwitch_41 : decode cX5_addSwitch 41 = .ok (.invokevirtual 80, 3) := by decide +kernel
theorem dX5_addSwitch_44 : decode cX5_addSwitch 44 = .ok (.ifCond .eq 13, 3) := by decide +kernel
theorem dX5_addSwitch_47 : decode cX5_addSwitch 47 = .ok (.aload_n 0, 1) := by decide +kernel
theorem dX5_addSwitch_48 : decode cX5_addSwitch 48 = .ok (.iload_n 1, 1) := by decide +kernel
theorem dX5_addSwitch_49 : decode cX5_addSwitch 49 = .ok (.iconst 1, 1) := by decide +kernel
theorem dX5_addSwitch_50 : decode cX5_addSwitch 50 = .ok (.iload_n 2, 1) := by decide +kernel
theorem dX5_addSwitch_51 : decode cX5_addSwitch 51 = .ok (.invokevirtual 84, 3) := by decide +kernel
theorem dX5_addSwitch_54 : decode cX5_addSwitch 54 = .ok (.goto 4, 3) := by decide +kernel
theorem dX5_addSwitch_57 : decode cX5_addSwitch 57 = .ok (.iconst 0, 1) := by decide +kernel
theorem dX5_addSwitch_58 : decode cX5_addSwitch 58 = .ok (.ireturn, 1) := by decide +kernel
theorem dX5_standingOf_0 : decode cX5_standingOf 0 = .ok (.bipush 17, 2) := by decide +kernel
theorem dX5_standingOf_2 : decode cX5_standingOf 2 = .ok (.istore_n 2, 1) := by decide +kernel
theorem dX5_standingOf_3 : decode cX5_standingOf 3 = .ok (.bipush 16, 2) := by decide +kernel
theorem dX5_standingOf_5 : decode cX5_standingOf 5 = .ok (.istore_n 3, 1) := by decide +kernel
theorem dX5_standingOf_6 : decode cX5_standingOf 6 = .ok (.iload_n 3, 1) := by decide +kernel
theorem dX5_standingOf_7 : decode cX5_standingOf 7 = .ok (.iconst 1, 1) := by decide +kernel
theorem dX5_standingOf_8 : decode cX5_standingOf 8 = .ok (.if_icmp .lt 33, 3) := by decide +kernel
theorem dX5_standingOf_11 : decode cX5_standingOf 11 = .ok (.aload_n 0, 1) := by decide +kernel
theorem dX5_standingOf_12 : decode cX5_standingOf 12 = .ok (.getfield 26, 3) := by decide +kernel
theorem dX5_standingOf_15 : decode cX5_standingOf 15 = .ok (.bipush 16, 2) := by decide +kernel
theorem dX5_standingOf_17 : decode cX5_standingOf 17 = .ok (.iload_n 1, 1) := by decide +kernel
theorem dX5_standingOf_18 : decode cX5_standingOf 18 = .ok (.imul, 1) := by decide +kernel
theorem dX5_standingOf_19 : decode cX5_standingOf 19 = .ok (.iload_n 3, 1) := by decide +kernel
theorem dX5_standingOf_20 : decode cX5_standingOf 20 = .ok (.iadd, 1) := by decide +kernel
theorem dX5_standingOf_21 : decode cX5_standingOf 21 = .ok (.iconst 1, 1) := by decide +kernel
theorem dX5_standingOf_22 : decode cX5_standingOf 22 = .ok (.isub, 1) := by decide +kernel
theorem dX5_standingOf_23 : decode cX5_standingOf 23 = .ok (.iaload, 1) := by decide +kernel
theorem dX5_standingOf_24 : decode cX5_standingOf 24 = .ok (.ldc 79, 2) := by decide +kernel
theorem dX5_standingOf_26 : decode cX5_standingOf 26 = .ok (.if_icmp .eq 7, 3) := by decide +kernel
theorem dX5_standingOf_29 : decode cX5_standingOf 29 = .ok (.iload_n 3, 1) := by decide +kernel
theorem dX5_standingOf_30 : decode cX5_standingOf 30 = .ok (.goto 4, 3) := by decide +kernel
theorem dX5_standingOf_33 : decode cX5_standingOf 33 = .ok (.iload_n 2, 1) := by decide +kernel
theorem dX5_standingOf_34 : decode cX5_standingOf 34 = .ok (.istore_n 2, 1) := by decide +kernel
theorem dX5_standingOf_35 : decode cX5_standingOf 35 = .ok (.iinc 3 (-1), 3) := by decide +kernel
theorem dX5_standingOf_38 : decode cX5_standingOf 38 = .ok (.goto (-32), 3) := by decide +kernel
theorem dX5_standingOf_41 : decode cX5_standingOf 41 = .ok (.iload_n 2, 1) := by decide +kernel
theorem dX5_standingOf_42 : decode cX5_standingOf 42 = .ok (.ireturn, 1) := by decide +kernel
theorem dX5_valueOf_0 : decode cX5_valueOf 0 = .ok (.aload_n 0, 1) := by decide +kernel
theorem dX5_valueOf_1 : decode cX5_valueOf 1 = .ok (.iload_n 1, 1) := by decide +kernel
theorem dX5_valueOf_2 : decode cX5_valueOf 2 = .ok (.invokevirtual 88, 3) := by decide +kernel
theorem dX5_valueOf_5 : decode cX5_valueOf 5 = .ok (.istore_n 2, 1) := by decide +kernel
theorem dX5_valueOf_6 : decode cX5_valueOf 6 = .ok (.iload_n 2, 1) := by decide +kernel
theorem dX5_valueOf_7 : decode cX5_valueOf 7 = .ok (.bipush 16, 2) := by decide +kernel
theorem dX5_valueOf_9 : decode cX5_valueOf 9 = .ok (.if_icmp .le 12, 3) := by decide +kernel
theorem dX5_valueOf_12 : decode cX5_valueOf 12 = .ok (.aload_n 0, 1) := by decide +kernel
theorem dX5_valueOf_13 : decode cX5_valueOf 13 = .ok (.getfield 13, 3) := by decide +kernel
theorem dX5_valueOf_16 : decode cX5_valueOf 16 = .ok (.iload_n 1, 1) := by decide +kernel
theorem dX5_valueOf_17 : decode cX5_valueOf 17 = .ok (.iaload, 1) := by decide +kernel
theorem dX5_valueOf_18 : decode cX5_valueOf 18 = .ok (.goto 16, 3) := by decide +kernel
theorem dX5_valueOf_21 : decode cX5_valueOf 21 = .ok (.aload_n 0, 1) := by decide +kernel
theorem dX5_valueOf_22 : decode cX5_valueOf 22 = .ok (.getfield 26, 3) := by decide +kernel
theorem dX5_valueOf_25 : decode cX5_valueOf 25 = .ok (.bipush 16, 2) := by decide +kernel
theorem dX5_valueOf_27 : decode cX5_valueOf 27 = .ok (.iload_n 1, 1) := by decide +kernel
theorem dX5_valueOf_28 : decode cX5_valueOf 28 = .ok (.imul, 1) := by decide +kernel
theorem dX5_valueOf_29 : decode cX5_valueOf 29 = .ok (.iload_n 2, 1) := by decide +kernel
theorem dX5_valueOf_30 : decode cX5_valueOf 30 = .ok (.iadd, 1) := by decide +kernel
theorem dX5_valueOf_31 : decode cX5_valueOf 31 = .ok (.iconst 1, 1) := by decide +kernel
theorem dX5_valueOf_32 : decode cX5_valueOf 32 = .ok (.isub, 1) := by decide +kernel
theorem dX5_valueOf_33 : decode cX5_valueOf 33 = .ok (.iaload, 1) := by decide +kernel
theorem dX5_valueOf_34 : decode cX5_valueOf 34 = .ok (.ireturn, 1) := by decide +kernel
theorem dX5_informs_0 : decode cX5_informs 0 = .ok (.iconst 0, 1) := by decide +kernel
theorem dX5_informs_1 : decode cX5_informs 1 = .ok (.istore_n 3, 1) := by decide +kernel
theorem dX5_informs_2 : decode cX5_informs 2 = .ok (.iload_n 3, 1) := by decide +kernel
theorem dX5_informs_3 : decode cX5_informs 3 = .ok (.aload_n 0, 1) := by decide +kernel
theorem dX5_informs_4 : decode cX5_informs 4 = .ok (.getfield 92, 3) := by decide +kernel
theorem dX5_informs_7 : decode cX5_informs 7 = .ok (.if_icmp .ge 97, 3) := by decide +kernel
theorem dX5_informs_10 : decode cX5_informs 10 = .ok (.iload_n 2, 1) := by decide +kernel
theorem dX5_informs_11 : decode cX5_informs 11 = .ok (.aload_n 0, 1) := by decide +kernel
theorem dX5_informs_12 : decode cX5_informs 12 = .ok (.getfield 44, 3) := by decide +kernel
theorem dX5_informs_15 : decode cX5_informs 15 = .ok (.iload_n 3, 1) := by decide +kernel
theorem dX5_informs_16 : decode cX5_informs 16 = .ok (.iaload, 1) := by decide +kernel
theorem dX5_informs_17 : decode cX5_informs 17 = .ok (.if_icmp .le 14, 3) := by decide +kernel
theorem dX5_informs_20 : decode cX5_informs 20 = .ok (.iload_n 2, 1) := by decide +kernel
theorem dX5_informs_21 : decode cX5_informs 21 = .ok (.aload_n 0, 1) := by decide +kernel
theorem dX5_informs_22 : decode cX5_informs 22 = .ok (.getfield 44, 3) := by decide +kernel
theorem dX5_informs_25 : decode cX5_informs 25 = .ok (.iload_n 3, 1) := by decide +kernel
theorem dX5_informs_26 : decode cX5_informs 26 = .ok (.iaload, 1) := by decide +kernel
theorem dX5_informs_27 : decode cX5_informs 27 = .ok (.isub, 1) := by decide +kernel
theorem dX5_informs_28 : decode cX5_informs 28 = .ok (.goto 11, 3) := by decide +kernel
theorem dX5_informs_31 : decode cX5_informs 31 = .ok (.aload_n 0, 1) := by decide +kernel
theorem dX5_informs_32 : decode cX5_informs 32 = .ok (.getfield 44, 3) := by decide +kernel
theorem dX5_informs_35 : decode cX5_informs 35 = .ok (.iload_n 3, 1) := by decide +kernel
theorem dX5_informs_36 : decode cX5_informs 36 = .ok (.iaload, 1) := by decide +kernel
theorem dX5_informs_37 : decode cX5_informs 37 = .ok (.iload_n 2, 1) := by decide +kernel
theorem dX5_informs_38 : decode cX5_informs 38 = .ok (.isub, 1) := by decide +kernel
theorem dX5_informs_39 : decode cX5_informs 39 = .ok (.istore 4, 2) := by decide +kernel
theorem dX5_informs_41 : decode cX5_informs 41 = .ok (.aload_n 0, 1) := by decide +kernel
theorem dX5_informs_42 : decode cX5_informs 42 = .ok (.getfield 29, 3) := by decide +kernel
theorem dX5_informs_45 : decode cX5_informs 45 = .ok (.iload_n 3, 1) := by decide +kernel
theorem dX5_informs_46 : decode cX5_informs 46 = .ok (.iaload, 1) := by decide +kernel
theorem dX5_informs_47 : decode cX5_informs 47 = .ok (.iload_n 1, 1) := by decide +kernel
theorem dX5_informs_48 : decode cX5_informs 48 = .ok (.if_icmp .ne 50, 3) := by decide +kernel
theorem dX5_informs_51 : decode cX5_informs 51 = .ok (.aload_n 0, 1) := by decide +kernel
theorem dX5_informs_52 : decode cX5_informs 52 = .ok (.getfield 38, 3) := by decide +kernel
theorem dX5_informs_55 : decode cX5_informs 55 = .ok (.iload_n 3, 1) := by decide +kernel
theorem dX5_informs_56 : decode cX5_informs 56 = .ok (.baload, 1) := by decide +kernel
theorem dX5_informs_57 : decode cX5_informs 57 = .ok (.ifCond .ne 41, 3) := by decide +kernel
theorem dX5_informs_60 : decode cX5_informs 60 = .ok (.iload 4, 2) := by decide +kernel
theorem dX5_informs_62 : decode cX5_informs 62 = .ok (.aload_n 0, 1) := by decide +kernel
theorem dX5_informs_63 : decode cX5_informs 63 = .ok (.getfield 32, 3) := by decide +kernel
theorem dX5_informs_66 : decode cX5_informs 66 = .ok (.iload_n 3, 1) := by decide +kernel
theorem dX5_informs_67 : decode cX5_informs 67 = .ok (.iaload, 1) := by decide +kernel
theorem dX5_informs_68 : decode cX5_informs 68 = .ok (.if_icmp .lt 30, 3) := by decide +kernel
theorem dX5_informs_71 : decode cX5_informs 71 = .ok (.aload_n 0, 1) := by decide +kernel
theorem dX5_informs_72 : decode cX5_informs 72 = .ok (.getfield 44, 3) := by decide +kernel
theorem dX5_informs_75 : decode cX5_informs 75 = .ok (.iload_n 3, 1) := by decide +kernel
theorem dX5_informs_76 : decode cX5_informs 76 = .ok (.iload_n 2, 1) := by decide +kernel
theorem dX5_informs_77 : decode cX5_informs 77 = .ok (.iastore, 1) := by decide +kernel
theorem dX5_informs_78 : decode cX5_informs 78 = .ok (.aload_n 0, 1) := by decide +kernel
theorem dX5_informs_79 : decode cX5_informs 79 = .ok (.getfield 41, 3) := by decide +kernel
theorem dX5_informs_82 : decode cX5_informs 82 = .ok (.iload_n 3, 1) := by decide +kernel
theorem dX5_informs_83 : decode cX5_informs 83 = .ok (.dup2, 1) := by decide +kernel
theorem dX5_informs_84 : decode cX5_informs 84 = .ok (.iaload, 1) := by decide +kernel
theorem dX5_informs_85 : decode cX5_informs 85 = .ok (.iconst 1, 1) := by decide +kernel
theorem dX5_informs_86 : decode cX5_informs 86 = .ok (.iadd, 1) := by decide +kernel
theorem dX5_informs_87 : decode cX5_informs 87 = .ok (.iastore, 1) := by decide +kernel
theorem dX5_informs_88 : decode cX5_informs 88 = .ok (.aload_n 0, 1) := by decide +kernel
theorem dX5_informs_89 : decode cX5_informs 89 = .ok (.dup, 1) := by decide +kernel
theorem dX5_informs_90 : decode cX5_informs 90 = .ok (.getfield 95, 3) := by decide +kernel
theorem dX5_informs_93 : decode cX5_informs 93 = .ok (.iconst 1, 1) := by decide +kernel
theorem dX5_informs_94 : decode cX5_informs 94 = .ok (.iadd, 1) := by decide +kernel
theorem dX5_informs_95 : decode cX5_informs 95 = .ok (.putfield 95, 3) := by decide +kernel
theorem dX5_informs_98 : decode cX5_informs 98 = .ok (.iinc 3 1, 3) := by decide +kernel
theorem dX5_informs_101 : decode cX5_informs 101 = .ok (.goto (-99), 3) := by decide +kernel
theorem dX5_informs_104 : decode cX5_informs 104 = .ok (.return_, 1) := by decide +kernel
theorem dX5_sets_0 : decode cX5_sets 0 = .ok (.aload_n 0, 1) := by decide +kernel
theorem dX5_sets_1 : decode cX5_sets 1 = .ok (.iload_n 1, 1) := by decide +kernel
theorem dX5_sets_2 : decode cX5_sets 2 = .ok (.invokevirtual 98, 3) := by decide +kernel
theorem dX5_sets_5 : decode cX5_sets 5 = .ok (.istore 4, 2) := by decide +kernel
theorem dX5_sets_7 : decode cX5_sets 7 = .ok (.aload_n 0, 1) := by decide +kernel
theorem dX5_sets_8 : decode cX5_sets 8 = .ok (.getfield 26, 3) := by decide +kernel
theorem dX5_sets_11 : decode cX5_sets 11 = .ok (.bipush 16, 2) := by decide +kernel
theorem dX5_sets_13 : decode cX5_sets 13 = .ok (.iload_n 1, 1) := by decide +kernel
theorem dX5_sets_14 : decode cX5_sets 14 = .ok (.imul, 1) := by decide +kernel
theorem dX5_sets_15 : decode cX5_sets 15 = .ok (.iload_n 2, 1) := by decide +kernel
theorem dX5_sets_16 : decode cX5_sets 16 = .ok (.iadd, 1) := by decide +kernel
theorem dX5_sets_17 : decode cX5_sets 17 = .ok (.iconst 1, 1) := by decide +kernel
theorem dX5_sets_18 : decode cX5_sets 18 = .ok (.isub, 1) := by decide +kernel
theorem dX5_sets_19 : decode cX5_sets 19 = .ok (.iload_n 3, 1) := by decide +kernel
theorem dX5_sets_20 : decode cX5_sets 20 = .ok (.iastore, 1) := by decide +kernel
theorem dX5_sets_21 : decode cX5_sets 21 = .ok (.aload_n 0, 1) := by decide +kernel
theorem dX5_sets_22 : decode cX5_sets 22 = .ok (.iload_n 1, 1) := by decide +kernel
theorem dX5_sets_23 : decode cX5_sets 23 = .ok (.invokevirtual 98, 3) := by decide +kernel
theorem dX5_sets_26 : decode cX5_sets 26 = .ok (.istore 5, 2) := by decide +kernel
theorem dX5_sets_28 : decode cX5_sets 28 = .ok (.iload 5, 2) := by decide +kernel
theorem dX5_sets_30 : decode cX5_sets 30 = .ok (.iload 4, 2) := by decide +kernel
theorem dX5_sets_32 : decode cX5_sets 32 = .ok (.if_icmp .eq 62, 3) := by decide +kernel
theorem dX5_sets_35 : decode cX5_sets 35 = .ok (.aload_n 0, 1) := by decide +kernel
theorem dX5_sets_36 : decode cX5_sets 36 = .ok (.getfield 23, 3) := by decide +kernel
theorem dX5_sets_39 : decode cX5_sets 39 = .ok (.iload_n 1, 1) := by decide +kernel
theorem dX5_sets_40 : decode cX5_sets 40 = .ok (.dup2, 1) := by decide +kernel
theorem dX5_sets_41 : decode cX5_sets 41 = .ok (.iaload, 1) := by decide +kernel
theorem dX5_sets_42 : decode cX5_sets 42 = .ok (.iconst 1, 1) := by decide +kernel
theorem dX5_sets_43 : decode cX5_sets 43 = .ok (.iadd, 1) := by decide +kernel
theorem dX5_sets_44 : decode cX5_sets 44 = .ok (.iastore, 1) := by decide +kernel
theorem dX5_sets_45 : decode cX5_sets 45 = .ok (.aload_n 0, 1) := by decide +kernel
theorem dX5_sets_46 : decode cX5_sets 46 = .ok (.getfield 17, 3) := by decide +kernel
theorem dX5_sets_49 : decode cX5_sets 49 = .ok (.iload_n 1, 1) := by decide +kernel
theorem dX5_sets_50 : decode cX5_sets 50 = .ok (.iaload, 1) := by decide +kernel
theorem dX5_sets_51 : decode cX5_sets 51 = .ok (.ifCond .le 36, 3) := by decide +kernel
theorem dX5_sets_54 : decode cX5_sets 54 = .ok (.aload_n 0, 1) := by decide +kernel
theorem dX5_sets_55 : decode cX5_sets 55 = .ok (.getfield 26, 3) := by decide +kernel
theorem dX5_sets_58 : decode cX5_sets 58 = .ok (.bipush 16, 2) := by decide +kernel
theorem dX5_sets_60 : decode cX5_sets 60 = .ok (.iload_n 1, 1) := by decide +kernel
theorem dX5_sets_61 : decode cX5_sets 61 = .ok (.imul, 1) := by decide +kernel
theorem dX5_sets_62 : decode cX5_sets 62 = .ok (.bipush 6, 2) := by decide +kernel
theorem dX5_sets_64 : decode cX5_sets 64 = .ok (.iadd, 1) := by decide +kernel
theorem dX5_sets_65 : decode cX5_sets 65 = .ok (.iconst 1, 1) := by decide +kernel
theorem dX5_sets_66 : decode cX5_sets 66 = .ok (.isub, 1) := by decide +kernel
theorem dX5_sets_67 : decode cX5_sets 67 = .ok (.iload 5, 2) := by decide +kernel
theorem dX5_sets_69 : decode cX5_sets 69 = .ok (.iastore, 1) := by decide +kernel
theorem dX5_sets_70 : decode cX5_sets 70 = .ok (.aload_n 0, 1) := by decide +kernel
theorem dX5_sets_71 : decode cX5_sets 71 = .ok (.getfield 20, 3) := by decide +kernel
theorem dX5_sets_74 : decode cX5_sets 74 = .ok (.iload_n 1, 1) := by decide +kernel
theorem dX5_sets_75 : decode cX5_sets 75 = .ok (.aload_n 0, 1) := by decide +kernel
theorem dX5_sets_76 : decode cX5_sets 76 = .ok (.getfield 101, 3) := by decide +kernel
theorem dX5_sets_79 : decode cX5_sets 79 = .ok (.aload_n 0, 1) := by decide +kernel
theorem dX5_sets_80 : decode cX5_sets 80 = .ok (.getfield 17, 3) := by decide +kernel
theorem dX5_sets_83 : decode cX5_sets 83 = .ok (.iload_n 1, 1) := by decide +kernel
theorem dX5_sets_84 : decode cX5_sets 84 = .ok (.iaload, 1) := by decide +kernel
theorem dX5_sets_85 : decode cX5_sets 85 = .ok (.iadd, 1) := by decide +kernel
theorem dX5_sets_86 : decode cX5_sets 86 = .ok (.iastore, 1) := by decide +kernel
theorem dX5_sets_87 : decode cX5_sets 87 = .ok (.aload_n 0, 1) := by decide +kernel
theorem dX5_sets_88 : decode cX5_sets 88 = .ok (.iload_n 1, 1) := by decide +kernel
theorem dX5_sets_89 : decode cX5_sets 89 = .ok (.iload 5, 2) := by decide +kernel
theorem dX5_sets_91 : decode cX5_sets 91 = .ok (.invokevirtual 104, 3) := by decide +kernel
theorem dX5_sets_94 : decode cX5_sets 94 = .ok (.return_, 1) := by decide +kernel
theorem dX5_write_0 : decode cX5_write 0 = .ok (.aload_n 0, 1) := by decide +kernel
theorem dX5_write_1 : decode cX5_write 1 = .ok (.iload_n 1, 1) := by decide +kernel
theorem dX5_write_2 : decode cX5_write 2 = .ok (.invokevirtual 108, 3) := by decide +kernel
theorem dX5_write_5 : decode cX5_write 5 = .ok (.istore 4, 2) := by decide +kernel
theorem dX5_write_7 : decode cX5_write 7 = .ok (.iload 4, 2) := by decide +kernel
theorem dX5_write_9 : decode cX5_write 9 = .ok (.ifCond .eq 26, 3) := by decide +kernel
theorem dX5_write_12 : decode cX5_write 12 = .ok (.iload_n 2, 1) := by decide +kernel
theorem dX5_write_13 : decode cX5_write 13 = .ok (.iconst 1, 1) := by decide +kernel
theorem dX5_write_14 : decode cX5_write 14 = .ok (.bipush 16, 2) := by decide +kernel
theorem dX5_write_16 : decode cX5_write 16 = .ok (.invokestatic 75, 3) := by decide +kernel
theorem dX5_write_19 : decode cX5_write 19 = .ok (.ifCond .eq 16, 3) := by decide +kernel
theorem dX5_write_22 : decode cX5_write 22 = .ok (.aload_n 0, 1) := by decide +kernel
theorem dX5_write_23 : decode cX5_write 23 = .ok (.iload_n 1, 1) := by decide +kernel
theorem dX5_write_24 : decode cX5_write 24 = .ok (.iload_n 3, 1) := by decide +kernel
theorem dX5_write_25 : decode cX5_write 25 = .ok (.invokevirtual 112, 3) := by decide +kernel
theorem dX5_write_28 : decode cX5_write 28 = .ok (.ifCond .eq 7, 3) := by decide +kernel
theorem dX5_write_31 : decode cX5_write 31 = .ok (.iconst 1, 1) := by decide +kernel
theorem dX5_write_32 : decode cX5_write 32 = .ok (.goto 4, 3) := by decide +kernel
theorem dX5_write_35 : decode cX5_write 35 = .ok (.iconst 0, 1) := by decide +kernel
theorem dX5_write_36 : decode cX5_write 36 = .ok (.istore 5, 2) := by decide +kernel
theorem dX5_write_38 : decode cX5_write 38 = .ok (.aload_n 0, 1) := by decide +kernel
theorem dX5_write_39 : decode cX5_write 39 = .ok (.iload 4, 2) := by decide +kernel
theorem dX5_write_41 : decode cX5_write 41 = .ok (.iload 5, 2) := by decide +kernel
theorem dX5_write_43 : decode cX5_write 43 = .ok (.iload 5, 2) := by decide +kernel
theorem dX5_write_45 : decode cX5_write 45 = .ok (.ifCond .eq 22, 3) := by decide +kernel
theorem dX5_write_48 : decode cX5_write 48 = .ok (.iload_n 2, 1) := by decide +kernel
theorem dX5_write_49 : decode cX5_write 49 = .ok (.bipush 6, 2) := by decide +kernel
theorem dX5_write_51 : decode cX5_write 51 = .ok (.if_icmp .ne 12, 3) := by decide +kernel
theorem dX5_write_54 : decode cX5_write 54 = .ok (.aload_n 0, 1) := by decide +kernel
theorem dX5_write_55 : decode cX5_write 55 = .ok (.getfield 20, 3) := by decide +kernel
theorem dX5_write_58 : decode cX5_write 58 = .ok (.iload_n 1, 1) := by decide +kernel
theorem dX5_write_59 : decode cX5_write 59 = .ok (.iaload, 1) := by decide +kernel
theorem dX5_write_60 : decode cX5_write 60 = .ok (.ifCond .ne 7, 3) := by decide +kernel
theorem dX5_write_63 : decode cX5_write 63 = .ok (.iconst 1, 1) := by decide +kernel
theorem dX5_write_64 : decode cX5_write 64 = .ok (.goto 4, 3) := by decide +kernel
theorem dX5_write_67 : decode cX5_write 67 = .ok (.iconst 0, 1) := by decide +kernel
theorem dX5_write_68 : decode cX5_write 68 = .ok (.invokevirtual 80, 3) := by decide +kernel
theorem dX5_write_71 : decode cX5_write 71 = .ok (.ifCond .ne 5, 3) := by decide +kernel
theorem dX5_write_74 : decode cX5_write 74 = .ok (.iconst 0, 1) := by decide +kernel
theorem dX5_write_75 : decode cX5_write 75 = .ok (.ireturn, 1) := by decide +kernel
theorem dX5_write_76 : decode cX5_write 76 = .ok (.aload_n 0, 1) := by decide +kernel
theorem dX5_write_77 : decode cX5_write 77 = .ok (.iload_n 1, 1) := by decide +kernel
theorem dX5_write_78 : decode cX5_write 78 = .ok (.iload_n 2, 1) := by decide +kernel
theorem dX5_write_79 : decode cX5_write 79 = .ok (.iload_n 3, 1) := by decide +kernel
theorem dX5_write_80 : decode cX5_write 80 = .ok (.invokevirtual 116, 3) := by decide +kernel
theorem dX5_write_83 : decode cX5_write 83 = .ok (.aload_n 0, 1) := by decide +kernel
theorem dX5_write_84 : decode cX5_write 84 = .ok (.iload_n 1, 1) := by decide +kernel
theorem dX5_write_85 : decode cX5_write 85 = .ok (.invokevirtual 98, 3) := by decide +kernel
theorem dX5_write_88 : decode cX5_write 88 = .ok (.ireturn, 1) := by decide +kernel
theorem dX5_value_0 : decode cX5_value 0 = .ok (.aload_n 0, 1) := by decide +kernel
theorem dX5_value_1 : decode cX5_value 1 = .ok (.aload_n 0, 1) := by decide +kernel
theorem dX5_value_2 : decode cX5_value 2 = .ok (.iload_n 1, 1) := by decide +kernel
theorem dX5_value_3 : decode cX5_value 3 = .ok (.invokevirtual 108, 3) := by decide +kernel
theorem dX5_value_6 : decode cX5_value 6 = .ok (.iconst 1, 1) := by decide +kernel
theorem dX5_value_7 : decode cX5_value 7 = .ok (.iconst 1, 1) := by decide +kernel
theorem dX5_value_8 : decode cX5_value 8 = .ok (.invokevirtual 80, 3) := by decide +kernel
theorem dX5_value_11 : decode cX5_value 11 = .ok (.ifCond .eq 11, 3) := by decide +kernel
theorem dX5_value_14 : decode cX5_value 14 = .ok (.aload_n 0, 1) := by decide +kernel
theorem dX5_value_15 : decode cX5_value 15 = .ok (.iload_n 1, 1) := by decide +kernel
theorem dX5_value_16 : decode cX5_value 16 = .ok (.invokevirtual 98, 3) := by decide +kernel
theorem dX5_value_19 : decode cX5_value 19 = .ok (.goto 4, 3) := by decide +kernel
theorem dX5_value_22 : decode cX5_value 22 = .ok (.iconst 0, 1) := by decide +kernel
theorem dX5_value_23 : decode cX5_value 23 = .ok (.ireturn, 1) := by decide +kernel
theorem dX5_command_0 : decode cX5_command 0 = .ok (.aload_n 0, 1) := by decide +kernel
theorem dX5_command_1 : decode cX5_command 1 = .ok (.aload_n 0, 1) := by decide +kernel
theorem dX5_command_2 : decode cX5_command 2 = .ok (.iload_n 1, 1) := by decide +kernel
theorem dX5_command_3 : decode cX5_command 3 = .ok (.invokevirtual 108, 3) := by decide +kernel
theorem dX5_command_6 : decode cX5_command 6 = .ok (.iload_n 2, 1) := by decide +kernel
theorem dX5_command_7 : decode cX5_command 7 = .ok (.iconst 1, 1) := by decide +kernel
theorem dX5_command_8 : decode cX5_command 8 = .ok (.bipush 16, 2) := by decide +kernel
theorem dX5_command_10 : decode cX5_command 10 = .ok (.invokestatic 75, 3) := by decide +kernel
theorem dX5_command_13 : decode cX5_command 13 = .ok (.iconst 1, 1) := by decide +kernel
theorem dX5_command_14 : decode cX5_command 14 = .ok (.invokevirtual 80, 3) := by decide +kernel
theorem dX5_command_17 : decode cX5_command 17 = .ok (.ifCond .eq 19, 3) := by decide +kernel
theorem dX5_command_20 : decode cX5_command 20 = .ok (.aload_n 0, 1) := by decide +kernel
theorem dX5_command_21 : decode cX5_command 21 = .ok (.getfield 26, 3) := by decide +kernel
theorem dX5_command_24 : decode cX5_command 24 = .ok (.bipush 16, 2) := by decide +kernel
theorem dX5_command_26 : decode cX5_command 26 = .ok (.iload_n 1, 1) := by decide +kernel
theorem dX5_command_27 : decode cX5_command 27 = .ok (.imul, 1) := by decide +kernel
theorem dX5_command_28 : decode cX5_command 28 = .ok (.iload_n 2, 1) := by decide +kernel
theorem dX5_command_29 : decode cX5_command 29 = .ok (.iadd, 1) := by decide +kernel
theorem dX5_command_30 : decode cX5_command 30 = .ok (.iconst 1, 1) := by decide +kernel
theorem dX5_command_31 : decode cX5_command 31 = .ok (.isub, 1) := by decide +kernel
theorem dX5_command_32 : decode cX5_command 32 = .ok (.iaload, 1) := by decide +kernel
theorem dX5_command_33 : decode cX5_command 33 = .ok (.goto 4, 3) := by decide +kernel
theorem dX5_command_36 : decode cX5_command 36 = .ok (.iconst 0, 1) := by decide +kernel
theorem dX5_command_37 : decode cX5_command 37 = .ok (.ireturn, 1) := by decide +kernel
theorem dX5_standing_0 : decode cX5_standing 0 = .ok (.aload_n 0, 1) := by decide +kernel
theorem dX5_standing_1 : decode cX5_standing 1 = .ok (.aload_n 0, 1) := by decide +kernel
theorem dX5_standing_2 : decode cX5_standing 2 = .ok (.iload_n 1, 1) := by decide +kernel
theorem dX5_standing_3 : decode cX5_standing 3 = .ok (.invokevirtual 108, 3) := by decide +kernel
theorem dX5_standing_6 : decode cX5_standing 6 = .ok (.iconst 1, 1) := by decide +kernel
theorem dX5_standing_7 : decode cX5_standing 7 = .ok (.iconst 1, 1) := by decide +kernel
theorem dX5_standing_8 : decode cX5_standing 8 = .ok (.invokevirtual 80, 3) := by decide +kernel
theorem dX5_standing_11 : decode cX5_standing 11 = .ok (.ifCond .eq 11, 3) := by decide +kernel
theorem dX5_standing_14 : decode cX5_standing 14 = .ok (.aload_n 0, 1) := by decide +kernel
theorem dX5_standing_15 : decode cX5_standing 15 = .ok (.iload_n 1, 1) := by decide +kernel
theorem dX5_standing_16 : decode cX5_standing 16 = .ok (.invokevirtual 88, 3) := by decide +kernel
theorem dX5_standing_19 : decode cX5_standing 19 = .ok (.goto 4, 3) := by decide +kernel
theorem dX5_standing_22 : decode cX5_standing 22 = .ok (.iconst 0, 1) := by decide +kernel
theorem dX5_standing_23 : decode cX5_standing 23 = .ok (.ireturn, 1) := by decide +kernel
theorem dX5_held_0 : decode cX5_held 0 = .ok (.aload_n 0, 1) := by decide +kernel
theorem dX5_held_1 : decode cX5_held 1 = .ok (.aload_n 0, 1) := by decide +kernel
theorem dX5_held_2 : decode cX5_held 2 = .ok (.iload_n 1, 1) := by decide +kernel
theorem dX5_held_3 : decode cX5_held 3 = .ok (.invokevirtual 108, 3) := by decide +kernel
theorem dX5_held_6 : decode cX5_held 6 = .ok (.iconst 1, 1) := by decide +kernel
theorem dX5_held_7 : decode cX5_held 7 = .ok (.iconst 1, 1) := by decide +kernel
theorem dX5_held_8 : decode cX5_held 8 = .ok (.invokevirtual 80, 3) := by decide +kernel
theorem dX5_held_11 : decode cX5_held 11 = .ok (.ifCond .eq 26, 3) := by decide +kernel
theorem dX5_held_14 : decode cX5_held 14 = .ok (.aload_n 0, 1) := by decide +kernel
theorem dX5_held_15 : decode cX5_held 15 = .ok (.getfield 20, 3) := by decide +kernel
theorem dX5_held_18 : decode cX5_held 18 = .ok (.iload_n 1, 1) := by decide +kernel
theorem dX5_held_19 : decode cX5_held 19 = .ok (.iaload, 1) := by decide +kernel
theorem dX5_held_20 : decode cX5_held 20 = .ok (.ifCond .le 17, 3) := by decide +kernel
theorem dX5_held_23 : decode cX5_held 23 = .ok (.aload_n 0, 1) := by decide +kernel
theorem dX5_held_24 : decode cX5_held 24 = .ok (.getfield 20, 3) := by decide +kernel
theorem dX5_held_27 : decode cX5_held 27 = .ok (.iload_n 1, 1) := by decide +kernel
theorem dX5_held_28 : decode cX5_held 28 = .ok (.iaload, 1) := by decide +kernel
theorem dX5_held_29 : decode cX5_held 29 = .ok (.aload_n 0, 1) := by decide +kernel
theorem dX5_held_30 : decode cX5_held 30 = .ok (.getfield 101, 3) := by decide +kernel
theorem dX5_held_33 : decode cX5_held 33 = .ok (.isub, 1) := by decide +kernel
theorem dX5_held_34 : decode cX5_held 34 = .ok (.goto 4, 3) := by decide +kernel
theorem dX5_held_37 : decode cX5_held 37 = .ok (.iconst 0, 1) := by decide +kernel
theorem dX5_held_38 : decode cX5_held 38 = .ok (.ireturn, 1) := by decide +kernel
theorem dX5_changes_0 : decode cX5_changes 0 = .ok (.aload_n 0, 1) := by decide +kernel
theorem dX5_changes_1 : decode cX5_changes 1 = .ok (.aload_n 0, 1) := by decide +kernel
theorem dX5_changes_2 : decode cX5_changes 2 = .ok (.iload_n 1, 1) := by decide +kernel
theorem dX5_changes_3 : decode cX5_changes 3 = .ok (.invokevirtual 108, 3) := by decide +kernel
theorem dX5_changes_6 : decode cX5_changes 6 = .ok (.iconst 1, 1) := by decide +kernel
theorem dX5_changes_7 : decode cX5_changes 7 = .ok (.iconst 1, 1) := by decide +kernel
theorem dX5_changes_8 : decode cX5_changes 8 = .ok (.invokevirtual 80, 3) := by decide +kernel
theorem dX5_changes_11 : decode cX5_changes 11 = .ok (.ifCond .eq 12, 3) := by decide +kernel
theorem dX5_changes_14 : decode cX5_changes 14 = .ok (.aload_n 0, 1) := by decide +kernel
theorem dX5_changes_15 : decode cX5_changes 15 = .ok (.getfield 23, 3) := by decide +kernel
theorem dX5_changes_18 : decode cX5_changes 18 = .ok (.iload_n 1, 1) := by decide +kernel
theorem dX5_changes_19 : decode cX5_changes 19 = .ok (.iaload, 1) := by decide +kernel
theorem dX5_changes_20 : decode cX5_changes 20 = .ok (.goto 4, 3) := by decide +kernel
theorem dX5_changes_23 : decode cX5_changes 23 = .ok (.iconst 0, 1) := by decide +kernel
theorem dX5_changes_24 : decode cX5_changes 24 = .ok (.ireturn, 1) := by decide +kernel
theorem dX5_subscribe_0 : decode cX5_subscribe 0 = .ok (.aload_n 0, 1) := by decide +kernel
theorem dX5_subscribe_1 : decode cX5_subscribe 1 = .ok (.iload_n 1, 1) := by decide +kernel
theorem dX5_subscribe_2 : decode cX5_subscribe 2 = .ok (.invokevirtual 108, 3) := by decide +kernel
theorem dX5_subscribe_5 : decode cX5_subscribe 5 = .ok (.istore 4, 2) := by decide +kernel
theorem dX5_subscribe_7 : decode cX5_subscribe 7 = .ok (.aload_n 0, 1) := by decide +kernel
theorem dX5_subscribe_8 : decode cX5_subscribe 8 = .ok (.iload 4, 2) := by decide +kernel
theorem dX5_subscribe_10 : decode cX5_subscribe 10 = .ok (.iload_n 2, 1) := by decide +kernel
theorem dX5_subscribe_11 : decode cX5_subscribe 11 = .ok (.iconst 1, 1) := by decide +kernel
theorem dX5_subscribe_12 : decode cX5_subscribe 12 = .ok (.sipush 2000, 3) := by decide +kernel
theorem dX5_subscribe_15 : decode cX5_subscribe 15 = .ok (.invokestatic 75, 3) := by decide +kernel
theorem dX5_subscribe_18 : decode cX5_subscribe 18 = .ok (.ifCond .eq 17, 3) := by decide +kernel
theorem dX5_subscribe_21 : decode cX5_subscribe 21 = .ok (.iload_n 3, 1) := by decide +kernel
theorem dX5_subscribe_22 : decode cX5_subscribe 22 = .ok (.iconst 1, 1) := by decide +kernel
theorem dX5_subscribe_23 : decode cX5_subscribe 23 = .ok (.ldc 120, 2) := by decide +kernel
theorem dX5_subscribe_25 : decode cX5_subscribe 25 = .ok (.invokestatic 75, 3) := by decide +kernel
theorem dX5_subscribe_28 : decode cX5_subscribe 28 = .ok (.ifCond .eq 7, 3) := by decide +kernel
theorem dX5_subscribe_31 : decode cX5_subscribe 31 = .ok (.iconst 1, 1) := by decide +kernel
theorem dX5_subscribe_32 : decode cX5_subscribe 32 = .ok (.goto 4, 3) := by decide +kernel
theorem dX5_subscribe_35 : decode cX5_subscribe 35 = .ok (.iconst 0, 1) := by decide +kernel
theorem dX5_subscribe_36 : decode cX5_subscribe 36 = .ok (.aload_n 0, 1) := by decide +kernel
theorem dX5_subscribe_37 : decode cX5_subscribe 37 = .ok (.getfield 92, 3) := by decide +kernel
theorem dX5_subscribe_40 : decode cX5_subscribe 40 = .ok (.bipush 30, 2) := by decide +kernel
theorem dX5_subscribe_42 : decode cX5_subscribe 42 = .ok (.if_icmp .ge 7, 3) := by decide +kernel
theorem dX5_subscribe_45 : decode cX5_subscribe 45 = .ok (.iconst 1, 1) := by decide +kernel
theorem dX5_subscribe_46 : decode cX5_subscribe 46 = .ok (.goto 4, 3) := by decide +kernel
theorem dX5_subscribe_49 : decode cX5_subscribe 49 = .ok (.iconst 0, 1) := by decide +kernel
theorem dX5_subscribe_50 : decode cX5_subscribe 50 = .ok (.invokevirtual 80, 3) := by decide +kernel
theorem dX5_subscribe_53 : decode cX5_subscribe 53 = .ok (.ifCond .ne 5, 3) := by decide +kernel
theorem dX5_subscribe_56 : decode cX5_subscribe 56 = .ok (.iconst 0, 1) := by decide +kernel
theorem dX5_subscribe_57 : decode cX5_subscribe 57 = .ok (.ireturn, 1) := by decide +kernel
theorem dX5_subscribe_58 : decode cX5_subscribe 58 = .ok (.aload_n 0, 1) := by decide +kernel
theorem dX5_subscribe_59 : decode cX5_subscribe 59 = .ok (.getfield 29, 3) := by decide +kernel
theorem dX5_subscribe_62 : decode cX5_subscribe 62 = .ok (.aload_n 0, 1) := by decide +kernel
theorem dX5_subscribe_63 : decode cX5_subscribe 63 = .ok (.getfield 92, 3) := by decide +kernel
theorem dX5_subscribe_66 : decode cX5_subscribe 66 = .ok (.iload_n 1, 1) := by decide +kernel
theorem dX5_subscribe_67 : decode cX5_subscribe 67 = .ok (.iastore, 1) := by decide +kernel
theorem dX5_subscribe_68 : decode cX5_subscribe 68 = .ok (.aload_n 0, 1) := by decide +kernel
theorem dX5_subscribe_69 : decode cX5_subscribe 69 = .ok (.getfield 32, 3) := by decide +kernel
theorem dX5_subscribe_72 : decode cX5_subscribe 72 = .ok (.aload_n 0, 1) := by decide +kernel
theorem dX5_subscribe_73 : decode cX5_subscribe 73 = .ok (.getfield 92, 3) := by decide +kernel
theorem dX5_subscribe_76 : decode cX5_subscribe 76 = .ok (.iload_n 2, 1) := by decide +kernel
theorem dX5_subscribe_77 : decode cX5_subscribe 77 = .ok (.iastore, 1) := by decide +kernel
theorem dX5_subscribe_78 : decode cX5_subscribe 78 = .ok (.aload_n 0, 1) := by decide +kernel
theorem dX5_subscribe_79 : decode cX5_subscribe 79 = .ok (.getfield 35, 3) := by decide +kernel
theorem dX5_subscribe_82 : decode cX5_subscribe 82 = .ok (.aload_n 0, 1) := by decide +kernel
theorem dX5_subscribe_83 : decode cX5_subscribe 83 = .ok (.getfield 92, 3) := by decide +kernel
theorem dX5_subscribe_86 : decode cX5_subscribe 86 = .ok (.aload_n 0, 1) := by decide +kernel
theorem dX5_subscribe_87 : decode cX5_subscribe 87 = .ok (.getfield 101, 3) := by decide +kernel
theorem dX5_subscribe_90 : decode cX5_subscribe 90 = .ok (.iload_n 3, 1) := by decide +kernel
theorem dX5_subscribe_91 : decode cX5_subscribe 91 = .ok (.iadd, 1) := by decide +kernel
theorem dX5_subscribe_92 : decode cX5_subscribe 92 = .ok (.iastore, 1) := by decide +kernel
theorem dX5_subscribe_93 : decode cX5_subscribe 93 = .ok (.aload_n 0, 1) := by decide +kernel
theorem dX5_subscribe_94 : decode cX5_subscribe 94 = .ok (.getfield 44, 3) := by decide +kernel
theorem dX5_subscribe_97 : decode cX5_subscribe 97 = .ok (.aload_n 0, 1) := by decide +kernel
theorem dX5_subscribe_98 : decode cX5_subscribe 98 = .ok (.getfield 92, 3) := by decide +kernel
theorem dX5_subscribe_101 : decode cX5_subscribe 101 = .ok (.aload_n 0, 1) := by decide +kernel
theorem dX5_subscribe_102 : decode cX5_subscribe 102 = .ok (.iload_n 1, 1) := by decide +kernel
theorem dX5_subscribe_103 : decode cX5_subscribe 103 = .ok (.invokevirtual 98, 3) := by decide +kernel
theorem dX5_subscribe_106 : decode cX5_subscribe 106 = .ok (.iastore, 1) := by decide +kernel
theorem dX5_subscribe_107 : decode cX5_subscribe 107 = .ok (.aload_n 0, 1) := by decide +kernel
theorem dX5_subscribe_108 : decode cX5_subscribe 108 = .ok (.dup, 1) := by decide +kernel
theorem dX5_subscribe_109 : decode cX5_subscribe 109 = .ok (.getfield 92, 3) := by decide +kernel
theorem dX5_subscribe_112 : decode cX5_subscribe 112 = .ok (.iconst 1, 1) := by decide +kernel
theorem dX5_subscribe_113 : decode cX5_subscribe 113 = .ok (.iadd, 1) := by decide +kernel
theorem dX5_subscribe_114 : decode cX5_subscribe 114 = .ok (.putfield 92, 3) := by decide +kernel
theorem dX5_subscribe_117 : decode cX5_subscribe 117 = .ok (.aload_n 0, 1) := by decide +kernel
theorem dX5_subscribe_118 : decode cX5_subscribe 118 = .ok (.getfield 92, 3) := by decide +kernel
theorem dX5_subscribe_121 : decode cX5_subscribe 121 = .ok (.iconst 1, 1) := by decide +kernel
theorem dX5_subscribe_122 : decode cX5_subscribe 122 = .ok (.isub, 1) := by decide +kernel
theorem dX5_subscribe_123 : decode cX5_subscribe 123 = .ok (.ireturn, 1) := by decide +kernel
theorem dX5_isSubscription_0 : decode cX5_isSubscription 0 = .ok (.iload_n 1, 1) := by decide +kernel
theorem dX5_isSubscription_1 : decode cX5_isSubscription 1 = .ok (.iconst 0, 1) := by decide +kernel
theorem dX5_isSubscription_2 : decode cX5_isSubscription 2 = .ok (.aload_n 0, 1) := by decide +kernel
theorem dX5_isSubscription_3 : decode cX5_isSubscription 3 = .ok (.getfield 92, 3) := by decide +kernel
theorem dX5_isSubscription_6 : decode cX5_isSubscription 6 = .ok (.iconst 1, 1) := by decide +kernel
theorem dX5_isSubscription_7 : decode cX5_isSubscription 7 = .ok (.isub, 1) := by decide +kernel
theorem dX5_isSubscription_8 : decode cX5_isSubscription 8 = .ok (.invokestatic 75, 3) := by decide +kernel
theorem dX5_isSubscription_11 : decode cX5_isSubscription 11 = .ok (.ireturn, 1) := by decide +kernel
theorem dX5_end_0 : decode cX5_end 0 = .ok (.aload_n 0, 1) := by decide +kernel
theorem dX5_end_1 : decode cX5_end 1 = .ok (.iload_n 1, 1) := by decide +kernel
theorem dX5_end_2 : decode cX5_end 2 = .ok (.invokevirtual 121, 3) := by decide +kernel
theorem dX5_end_5 : decode cX5_end 5 = .ok (.istore_n 2, 1) := by decide +kernel
theorem dX5_end_6 : decode cX5_end 6 = .ok (.aload_n 0, 1) := by decide +kernel
theorem dX5_end_7 : decode cX5_end 7 = .ok (.iload_n 2, 1) := by decide +kernel
theorem dX5_end_8 : decode cX5_end 8 = .ok (.iload_n 2, 1) := by decide +kernel
theorem dX5_end_9 : decode cX5_end 9 = .ok (.ifCond .eq 16, 3) := by decide +kernel
theorem dX5_end_12 : decode cX5_end 12 = .ok (.aload_n 0, 1) := by decide +kernel
theorem dX5_end_13 : decode cX5_end 13 = .ok (.getfield 38, 3) := by decide +kernel
theorem dX5_end_16 : decode cX5_end 16 = .ok (.iload_n 1, 1) := by decide +kernel
theorem dX5_end_17 : decode cX5_end 17 = .ok (.baload, 1) := by decide +kernel
theorem dX5_end_18 : decode cX5_end 18 = .ok (.ifCond .ne 7, 3) := by decide +kernel
theorem dX5_end_21 : decode cX5_end 21 = .ok (.iconst 1, 1) := by decide +kernel
theorem dX5_end_22 : decode cX5_end 22 = .ok (.goto 4, 3) := by decide +kernel
theorem dX5_end_25 : decode cX5_end 25 = .ok (.iconst 0, 1) := by decide +kernel
theorem dX5_end_26 : decode cX5_end 26 = .ok (.iconst 1, 1) := by decide +kernel
theorem dX5_end_27 : decode cX5_end 27 = .ok (.invokevirtual 80, 3) := by decide +kernel
theorem dX5_end_30 : decode cX5_end 30 = .ok (.ifCond .eq 10, 3) := by decide +kernel
theorem dX5_end_33 : decode cX5_end 33 = .ok (.aload_n 0, 1) := by decide +kernel
theorem dX5_end_34 : decode cX5_end 34 = .ok (.getfield 38, 3) := by decide +kernel
theorem dX5_end_37 : decode cX5_end 37 = .ok (.iload_n 1, 1) := by decide +kernel
theorem dX5_end_38 : decode cX5_end 38 = .ok (.iconst 1, 1) := by decide +kernel
theorem dX5_end_39 : decode cX5_end 39 = .ok (.bastore, 1) := by decide +kernel
theorem dX5_end_40 : decode cX5_end 40 = .ok (.return_, 1) := by decide +kernel
theorem dX5_goesOn_0 : decode cX5_goesOn 0 = .ok (.aload_n 0, 1) := by decide +kernel
theorem dX5_goesOn_1 : decode cX5_goesOn 1 = .ok (.aload_n 0, 1) := by decide +kernel
theorem dX5_goesOn_2 : decode cX5_goesOn 2 = .ok (.iload_n 1, 1) := by decide +kernel
theorem dX5_goesOn_3 : decode cX5_goesOn 3 = .ok (.invokevirtual 121, 3) := by decide +kernel
theorem dX5_goesOn_6 : decode cX5_goesOn 6 = .ok (.iconst 1, 1) := by decide +kernel
theorem dX5_goesOn_7 : decode cX5_goesOn 7 = .ok (.iconst 1, 1) := by decide +kernel
theorem dX5_goesOn_8 : decode cX5_goesOn 8 = .ok (.invokevirtual 80, 3) := by decide +kernel
theorem dX5_goesOn_11 : decode cX5_goesOn 11 = .ok (.ifCond .eq 16, 3) := by decide +kernel
theorem dX5_goesOn_14 : decode cX5_goesOn 14 = .ok (.aload_n 0, 1) := by decide +kernel
theorem dX5_goesOn_15 : decode cX5_goesOn 15 = .ok (.getfield 38, 3) := by decide +kernel
theorem dX5_goesOn_18 : decode cX5_goesOn 18 = .ok (.iload_n 1, 1) := by decide +kernel
theorem dX5_goesOn_19 : decode cX5_goesOn 19 = .ok (.baload, 1) := by decide +kernel
theorem dX5_goesOn_20 : decode cX5_goesOn 20 = .ok (.ifCond .ne 7, 3) := by decide +kernel
theorem dX5_goesOn_23 : decode cX5_goesOn 23 = .ok (.iconst 1, 1) := by decide +kernel
theorem dX5_goesOn_24 : decode cX5_goesOn 24 = .ok (.goto 4, 3) := by decide +kernel
theorem dX5_goesOn_27 : decode cX5_goesOn 27 = .ok (.iconst 0, 1) := by decide +kernel
theorem dX5_goesOn_28 : decode cX5_goesOn 28 = .ok (.ireturn, 1) := by decide +kernel
theorem dX5_reports_0 : decode cX5_reports 0 = .ok (.aload_n 0, 1) := by decide +kernel
theorem dX5_reports_1 : decode cX5_reports 1 = .ok (.aload_n 0, 1) := by decide +kernel
theorem dX5_reports_2 : decode cX5_reports 2 = .ok (.iload_n 1, 1) := by decide +kernel
theorem dX5_reports_3 : decode cX5_reports 3 = .ok (.invokevirtual 121, 3) := by decide +kernel
theorem dX5_reports_6 : decode cX5_reports 6 = .ok (.iconst 1, 1) := by decide +kernel
theorem dX5_reports_7 : decode cX5_reports 7 = .ok (.iconst 1, 1) := by decide +kernel
theorem dX5_reports_8 : decode cX5_reports 8 = .ok (.invokevirtual 80, 3) := by decide +kernel
theorem dX5_reports_11 : decode cX5_reports 11 = .ok (.ifCond .eq 12, 3) := by decide +kernel
theorem dX5_reports_14 : decode cX5_reports 14 = .ok (.aload_n 0, 1) := by decide +kernel
theorem dX5_reports_15 : decode cX5_reports 15 = .ok (.getfield 41, 3) := by decide +kernel
theorem dX5_reports_18 : decode cX5_reports 18 = .ok (.iload_n 1, 1) := by decide +kernel
theorem dX5_reports_19 : decode cX5_reports 19 = .ok (.iaload, 1) := by decide +kernel
theorem dX5_reports_20 : decode cX5_reports 20 = .ok (.goto 4, 3) := by decide +kernel
theorem dX5_reports_23 : decode cX5_reports 23 = .ok (.iconst 0, 1) := by decide +kernel
theorem dX5_reports_24 : decode cX5_reports 24 = .ok (.ireturn, 1) := by decide +kernel
theorem dX5_reported_0 : decode cX5_reported 0 = .ok (.aload_n 0, 1) := by decide +kernel
theorem dX5_reported_1 : decode cX5_reported 1 = .ok (.aload_n 0, 1) := by decide +kernel
theorem dX5_reported_2 : decode cX5_reported 2 = .ok (.iload_n 1, 1) := by decide +kernel
theorem dX5_reported_3 : decode cX5_reported 3 = .ok (.invokevirtual 121, 3) := by decide +kernel
theorem dX5_reported_6 : decode cX5_reported 6 = .ok (.iconst 1, 1) := by decide +kernel
theorem dX5_reported_7 : decode cX5_reported 7 = .ok (.iconst 1, 1) := by decide +kernel
theorem dX5_reported_8 : decode cX5_reported 8 = .ok (.invokevirtual 80, 3) := by decide +kernel
theorem dX5_reported_11 : decode cX5_reported 11 = .ok (.ifCond .eq 12, 3) := by decide +kernel
theorem dX5_reported_14 : decode cX5_reported 14 = .ok (.aload_n 0, 1) := by decide +kernel
theorem dX5_reported_15 : decode cX5_reported 15 = .ok (.getfield 44, 3) := by decide +kernel
theorem dX5_reported_18 : decode cX5_reported 18 = .ok (.iload_n 1, 1) := by decide +kernel
theorem dX5_reported_19 : decode cX5_reported 19 = .ok (.iaload, 1) := by decide +kernel
theorem dX5_reported_20 : decode cX5_reported 20 = .ok (.goto 4, 3) := by decide +kernel
theorem dX5_reported_23 : decode cX5_reported 23 = .ok (.iconst 0, 1) := by decide +kernel
theorem dX5_reported_24 : decode cX5_reported 24 = .ok (.ireturn, 1) := by decide +kernel
theorem dX5_isSchedule_0 : decode cX5_isSchedule 0 = .ok (.iload_n 1, 1) := by decide +kernel
theorem dX5_isSchedule_1 : decode cX5_isSchedule 1 = .ok (.iconst 0, 1) := by decide +kernel
theorem dX5_isSchedule_2 : decode cX5_isSchedule 2 = .ok (.aload_n 0, 1) := by decide +kernel
theorem dX5_isSchedule_3 : decode cX5_isSchedule 3 = .ok (.getfield 124, 3) := by decide +kernel
theorem dX5_isSchedule_6 : decode cX5_isSchedule 6 = .ok (.iconst 1, 1) := by decide +kernel
theorem dX5_isSchedule_7 : decode cX5_isSchedule 7 = .ok (.isub, 1) := by decide +kernel
theorem dX5_isSchedule_8 : decode cX5_isSchedule 8 = .ok (.invokestatic 75, 3) := by decide +kernel
theorem dX5_isSchedule_11 : decode cX5_isSchedule 11 = .ok (.ireturn, 1) := by decide +kernel
theorem dX5_addSchedule_0 : decode cX5_addSchedule 0 = .ok (.aload_n 0, 1) := by decide +kernel
theorem dX5_addSchedule_1 : decode cX5_addSchedule 1 = .ok (.aload_n 0, 1) := by decide +kernel
theorem dX5_addSchedule_2 : decode cX5_addSchedule 2 = .ok (.iload_n 1, 1) := by decide +kernel
theorem dX5_addSchedule_3 : decode cX5_addSchedule 3 = .ok (.invokevirtual 108, 3) := by decide +kernel
theorem dX5_addSchedule_6 : decode cX5_addSchedule 6 = .ok (.iload_n 2, 1) := by decide +kernel
theorem dX5_addSchedule_7 : decode cX5_addSchedule 7 = .ok (.bipush 7, 2) := by decide +kernel
theorem dX5_addSchedule_9 : decode cX5_addSchedule 9 = .ok (.bipush 16, 2) := by decide +kernel
theorem dX5_addSchedule_11 : decode cX5_addSchedule 11 = .ok (.invokestatic 75, 3) := by decide +kernel
theorem dX5_addSchedule_14 : decode cX5_addSchedule 14 = .ok (.aload_n 0, 1) := by decide +kernel
theorem dX5_addSchedule_15 : decode cX5_addSchedule 15 = .ok (.getfield 124, 3) := by decide +kernel
theorem dX5_addSchedule_18 : decode cX5_addSchedule 18 = .ok (.iconst 4, 1) := by decide +kernel
theorem dX5_addSchedule_19 : decode cX5_addSchedule 19 = .ok (.if_icmp .ge 7, 3) := by decide +kernel
theorem dX5_addSchedule_22 : decode cX5_addSchedule 22 = .ok (.iconst 1, 1) := by decide +kernel
theorem dX5_addSchedule_23 : decode cX5_addSchedule 23 = .ok (.goto 4, 3) := by decide +kernel
theorem dX5_addSchedule_26 : decode cX5_addSchedule 26 = .ok (.iconst 0, 1) := by decide +kernel
theorem dX5_addSchedule_27 : decode cX5_addSchedule 27 = .ok (.invokevirtual 80, 3) := by decide +kernel
theorem dX5_addSchedule_30 : decode cX5_addSchedule 30 = .ok (.ifCond .ne 5, 3) := by decide +kernel
theorem dX5_addSchedule_33 : decode cX5_addSchedule 33 = .ok (.iconst 0, 1) := by decide +kernel
theorem dX5_addSchedule_34 : decode cX5_addSchedule 34 = .ok (.ireturn, 1) := by decide +kernel
theorem dX5_addSchedule_35 : decode cX5_addSchedule 35 = .ok (.aload_n 0, 1) := by decide +kernel
theorem dX5_addSchedule_36 : decode cX5_addSchedule 36 = .ok (.getfield 47, 3) := by decide +kernel
theorem dX5_addSchedule_39 : decode cX5_addSchedule 39 = .ok (.aload_n 0, 1) := by decide +kernel
theorem dX5_addSchedule_40 : decode cX5_addSchedule 40 = .ok (.getfield 124, 3) := by decide +kernel
theorem dX5_addSchedule_43 : decode cX5_addSchedule 43 = .ok (.iload_n 1, 1) := by decide +kernel
theorem dX5_addSchedule_44 : decode cX5_addSchedule 44 = .ok (.iastore, 1) := by decide +kernel
theorem dX5_addSchedule_45 : decode cX5_addSchedule 45 = .ok (.aload_n 0, 1) := by decide +kernel
theorem dX5_addSchedule_46 : decode cX5_addSchedule 46 = .ok (.getfield 50, 3) := by decide +kernel
theorem dX5_addSchedule_49 : decode cX5_addSchedule 49 = .ok (.aload_n 0, 1) := by decide +kernel
theorem dX5_addSchedule_50 : decode cX5_addSchedule 50 = .ok (.getfield 124, 3) := by decide +kernel
theorem dX5_addSchedule_53 : decode cX5_addSchedule 53 = .ok (.iload_n 2, 1) := by decide +kernel
theorem dX5_addSchedule_54 : decode cX5_addSchedule 54 = .ok (.iastore, 1) := by decide +kernel
theorem dX5_addSchedule_55 : decode cX5_addSchedule 55 = .ok (.aload_n 0, 1) := by decide +kernel
theorem dX5_addSchedule_56 : decode cX5_addSchedule 56 = .ok (.getfield 53, 3) := by decide +kernel
theorem dX5_addSchedule_59 : decode cX5_addSchedule 59 = .ok (.aload_n 0, 1) := by decide +kernel
theorem dX5_addSchedule_60 : decode cX5_addSchedule 60 = .ok (.getfield 124, 3) := by decide +kernel
theorem dX5_addSchedule_63 : decode cX5_addSchedule 63 = .ok (.ldc 79, 2) := by decide +kernel
theorem dX5_addSchedule_65 : decode cX5_addSchedule 65 = .ok (.iastore, 1) := by decide +kernel
theorem dX5_addSchedule_66 : decode cX5_addSchedule 66 = .ok (.aload_n 0, 1) := by decide +kernel
theorem dX5_addSchedule_67 : decode cX5_addSchedule 67 = .ok (.dup, 1) := by decide +kernel
theorem dX5_addSchedule_68 : decode cX5_addSchedule 68 = .ok (.getfield 124, 3) := by decide +kernel
theorem dX5_addSchedule_71 : decode cX5_addSchedule 71 = .ok (.iconst 1, 1) := by decide +kernel
theorem dX5_addSchedule_72 : decode cX5_addSchedule 72 = .ok (.iadd, 1) := by decide +kernel
theorem dX5_addSchedule_73 : decode cX5_addSchedule 73 = .ok (.putfield 124, 3) := by decide +kernel
theorem dX5_addSchedule_76 : decode cX5_addSchedule 76 = .ok (.aload_n 0, 1) := by decide +kernel
theorem dX5_addSchedule_77 : decode cX5_addSchedule 77 = .ok (.getfield 124, 3) := by decide +kernel
theorem dX5_addSchedule_80 : decode cX5_addSchedule 80 = .ok (.iconst 1, 1) := by decide +kernel
theorem dX5_addSchedule_81 : decode cX5_addSchedule 81 = .ok (.isub, 1) := by decide +kernel
theorem dX5_addSchedule_82 : decode cX5_addSchedule 82 = .ok (.ireturn, 1) := by decide +kernel
theorem dX5_toldBy_0 : decode cX5_toldBy 0 = .ok (.bipush 10, 2) := by decide +kernel
theorem dX5_toldBy_2 : decode cX5_toldBy 2 = .ok (.iload_n 2, 1) := by decide +kernel
theorem dX5_toldBy_3 : decode cX5_toldBy 3 = .ok (.sipush 1440, 3) := by decide +kernel
theorem dX5_toldBy_6 : decode cX5_toldBy 6 = .ok (.idiv, 1) := by decide +kernel
theorem dX5_toldBy_7 : decode cX5_toldBy 7 = .ok (.iadd, 1) := by decide +kernel
theorem dX5_toldBy_8 : decode cX5_toldBy 8 = .ok (.istore_n 3, 1) := by decide +kernel
theorem dX5_toldBy_9 : decode cX5_toldBy 9 = .ok (.iconst 0, 1) := by decide +kernel
theorem dX5_toldBy_10 : decode cX5_toldBy 10 = .ok (.istore 4, 2) := by decide +kernel
theorem dX5_toldBy_12 : decode cX5_toldBy 12 = .ok (.bipush 20, 2) := by decide +kernel
theorem dX5_toldBy_14 : decode cX5_toldBy 14 = .ok (.iload_n 1, 1) := by decide +kernel
theorem dX5_toldBy_15 : decode cX5_toldBy 15 = .ok (.imul, 1) := by decide +kernel
theorem dX5_toldBy_16 : decode cX5_toldBy 16 = .ok (.istore 5, 2) := by decide +kernel
theorem dX5_toldBy_18 : decode cX5_toldBy 18 = .ok (.iload 5, 2) := by decide +kernel
theorem dX5_toldBy_20 : decode cX5_toldBy 20 = .ok (.bipush 20, 2) := by decide +kernel
theorem dX5_toldBy_22 : decode cX5_toldBy 22 = .ok (.iload_n 1, 1) := by decide +kernel
theorem dX5_toldBy_23 : decode cX5_toldBy 23 = .ok (.imul, 1) := by decide +kernel
theorem dX5_toldBy_24 : decode cX5_toldBy 24 = .ok (.aload_n 0, 1) := by decide +kernel
theorem dX5_toldBy_25 : decode cX5_toldBy 25 = .ok (.getfield 56, 3) := by decide +kernel
theorem dX5_toldBy_28 : decode cX5_toldBy 28 = .ok (.iload_n 1, 1) := by decide +kernel
theorem dX5_toldBy_29 : decode cX5_toldBy 29 = .ok (.iaload, 1) := by decide +kernel
theorem dX5_toldBy_30 : decode cX5_toldBy 30 = .ok (.iadd, 1) := by decide +kernel
theorem dX5_toldBy_31 : decode cX5_toldBy 31 = .ok (.if_icmp .ge 32, 3) := by decide +kernel
theorem dX5_toldBy_34 : decode cX5_toldBy 34 = .ok (.iload 4, 2) := by decide +kernel
theorem dX5_toldBy_36 : decode cX5_toldBy 36 = .ok (.ifCond .ne 14, 3) := by decide +kernel
theorem dX5_toldBy_39 : decode cX5_toldBy 39 = .ok (.aload_n 0, 1) := by decide +kernel
theorem dX5_toldBy_40 : decode cX5_toldBy 40 = .ok (.getfield 59, 3) := by decide +kernel
theorem dX5_toldBy_43 : decode cX5_toldBy 43 = .ok (.iload 5, 2) := by decide +kernel
theorem dX5_toldBy_45 : decode cX5_toldBy 45 = .ok (.iaload, 1) := by decide +kernel
theorem dX5_toldBy_46 : decode cX5_toldBy 46 = .ok (.iload_n 3, 1) := by decide +kernel
theorem dX5_toldBy_47 : decode cX5_toldBy 47 = .ok (.if_icmp .ne 7, 3) := by decide +kernel
theorem dX5_toldBy_50 : decode cX5_toldBy 50 = .ok (.iconst 1, 1) := by decide +kernel
theorem dX5_toldBy_51 : decode cX5_toldBy 51 = .ok (.goto 4, 3) := by decide +kernel
theorem dX5_toldBy_54 : decode cX5_toldBy 54 = .ok (.iconst 0, 1) := by decide +kernel
theorem dX5_toldBy_55 : decode cX5_toldBy 55 = .ok (.istore 4, 2) := by decide +kernel
theorem dX5_toldBy_57 : decode cX5_toldBy 57 = .ok (.iinc 5 1, 3) := by decide +kernel
theorem dX5_toldBy_60 : decode cX5_toldBy 60 = .ok (.goto (-42), 3) := by decide +kernel
theorem dX5_toldBy_63 : decode cX5_toldBy 63 = .ok (.iload 4, 2) := by decide +kernel
theorem dX5_toldBy_65 : decode cX5_toldBy 65 = .ok (.ifCond .eq 7, 3) := by decide +kernel
theorem dX5_toldBy_68 : decode cX5_toldBy 68 = .ok (.iload_n 3, 1) := by decide +kernel
theorem dX5_toldBy_69 : decode cX5_toldBy 69 = .ok (.goto 11, 3) := by decide +kernel
theorem dX5_toldBy_72 : decode cX5_toldBy 72 = .ok (.iload_n 2, 1) := by decide +kernel
theorem dX5_toldBy_73 : decode cX5_toldBy 73 = .ok (.sipush 1440, 3) := by decide +kernel
theorem dX5_toldBy_76 : decode cX5_toldBy 76 = .ok (.idiv, 1) := by decide +kernel
theorem dX5_toldBy_77 : decode cX5_toldBy 77 = .ok (.bipush 7, 2) := by decide +kernel
theorem dX5_toldBy_79 : decode cX5_toldBy 79 = .ok (.irem, 1) := by decide +kernel
theorem dX5_toldBy_80 : decode cX5_toldBy 80 = .ok (.istore 5, 2) := by decide +kernel
theorem dX5_toldBy_82 : decode cX5_toldBy 82 = .ok (.iconst (-1), 1) := by decide +kernel
theorem dX5_toldBy_83 : decode cX5_toldBy 83 = .ok (.istore 6, 2) := by decide +kernel
theorem dX5_toldBy_85 : decode cX5_toldBy 85 = .ok (.ldc 79, 2) := by decide +kernel
theorem dX5_toldBy_87 : decode cX5_toldBy 87 = .ok (.istore 7, 2) := by decide +kernel
theorem dX5_toldBy_89 : decode cX5_toldBy 89 = .ok (.bipush 20, 2) := by decide +kernel
theorem dX5_toldBy_91 : decode cX5_toldBy 91 = .ok (.iload_n 1, 1) := by decide +kernel
theorem dX5_toldBy_92 : decode cX5_toldBy 92 = .ok (.imul, 1) := by decide +kernel
theorem dX5_toldBy_93 : decode cX5_toldBy 93 = .ok (.istore 8, 2) := by decide +kernel
theorem dX5_toldBy_95 : decode cX5_toldBy 95 = .ok (.iload 8, 2) := by decide +kernel
theorem dX5_toldBy_97 : decode cX5_toldBy 97 = .ok (.bipush 20, 2) := by decide +kernel
theorem dX5_toldBy_99 : decode cX5_toldBy 99 = .ok (.iload_n 1, 1) := by decide +kernel
theorem dX5_toldBy_100 : decode cX5_toldBy 100 = .ok (.imul, 1) := by decide +kernel
theorem dX5_toldBy_101 : decode cX5_toldBy 101 = .ok (.aload_n 0, 1) := by decide +kernel
theorem dX5_toldBy_102 : decode cX5_toldBy 102 = .ok (.getfield 56, 3) := by decide +kernel
theorem dX5_toldBy_105 : decode cX5_toldBy 105 = .ok (.iload_n 1, 1) := by decide +kernel
theorem dX5_toldBy_106 : decode cX5_toldBy 106 = .ok (.iaload, 1) := by decide +kernel
theorem dX5_toldBy_107 : decode cX5_toldBy 107 = .ok (.iadd, 1) := by decide +kernel
theorem dX5_toldBy_108 : decode cX5_toldBy 108 = .ok (.if_icmp .ge 93, 3) := by decide +kernel
theorem dX5_toldBy_111 : decode cX5_toldBy 111 = .ok (.aload_n 0, 1) := by decide +kernel
theorem dX5_toldBy_112 : decode cX5_toldBy 112 = .ok (.getfield 59, 3) := by decide +kernel
theorem dX5_toldBy_115 : decode cX5_toldBy 115 = .ok (.iload 8, 2) := by decide +kernel
theorem dX5_toldBy_117 : decode cX5_toldBy 117 = .ok (.iaload, 1) := by decide +kernel
theorem dX5_toldBy_118 : decode cX5_toldBy 118 = .ok (.iload 5, 2) := by decide +kernel
theorem dX5_toldBy_120 : decode cX5_toldBy 120 = .ok (.if_icmp .ne 34, 3) := by decide +kernel
theorem dX5_toldBy_123 : decode cX5_toldBy 123 = .ok (.aload_n 0, 1) := by decide +kernel
theorem dX5_toldBy_124 : decode cX5_toldBy 124 = .ok (.getfield 62, 3) := by decide +kernel
theorem dX5_toldBy_127 : decode cX5_toldBy 127 = .ok (.iload 8, 2) := by decide +kernel
theorem dX5_toldBy_129 : decode cX5_toldBy 129 = .ok (.iaload, 1) := by decide +kernel
theorem dX5_toldBy_130 : decode cX5_toldBy 130 = .ok (.iload_n 2, 1) := by decide +kernel
theorem dX5_toldBy_131 : decode cX5_toldBy 131 = .ok (.sipush 1440, 3) := by decide +kernel
theorem dX5_toldBy_134 : decode cX5_toldBy 134 = .ok (.irem, 1) := by decide +kernel
theorem dX5_toldBy_135 : decode cX5_toldBy 135 = .ok (.if_icmp .gt 19, 3) := by decide +kernel
theorem dX5_toldBy_138 : decode cX5_toldBy 138 = .ok (.aload_n 0, 1) := by decide +kernel
theorem dX5_toldBy_139 : decode cX5_toldBy 139 = .ok (.getfield 62, 3) := by decide +kernel
theorem dX5_toldBy_142 : decode cX5_toldBy 142 = .ok (.iload 8, 2) := by decide +kernel
theorem dX5_toldBy_144 : decode cX5_toldBy 144 = .ok (.iaload, 1) := by decide +kernel
theorem dX5_toldBy_145 : decode cX5_toldBy 145 = .ok (.iload 6, 2) := by decide +kernel
theorem dX5_toldBy_147 : decode cX5_toldBy 147 = .ok (.if_icmp .lt 7, 3) := by decide +kernel
theorem dX5_toldBy_150 : decode cX5_toldBy 150 = .ok (.iconst 1, 1) := by decide +kernel
theorem dX5_toldBy_151 : decode cX5_toldBy 151 = .ok (.goto 4, 3) := by decide +kernel
theorem dX5_toldBy_154 : decode cX5_toldBy 154 = .ok (.iconst 0, 1) := by decide +kernel
theorem dX5_toldBy_155 : decode cX5_toldBy 155 = .ok (.istore 9, 2) := by decide +kernel
theorem dX5_toldBy_157 : decode cX5_toldBy 157 = .ok (.iload 9, 2) := by decide +kernel
theorem dX5_toldBy_159 : decode cX5_toldBy 159 = .ok (.ifCond .eq 13, 3) := by decide +kernel
theorem dX5_toldBy_162 : decode cX5_toldBy 162 = .ok (.aload_n 0, 1) := by decide +kernel
theorem dX5_toldBy_163 : decode cX5_toldBy 163 = .ok (.getfield 62, 3) := by decide +kernel
theorem dX5_toldBy_166 : decode cX5_toldBy 166 = .ok (.iload 8, 2) := by decide +kernel
theorem dX5_toldBy_168 : decode cX5_toldBy 168 = .ok (.iaload, 1) := by decide +kernel
theorem dX5_toldBy_169 : decode cX5_toldBy 169 = .ok (.goto 5, 3) := by decide +kernel
theorem dX5_toldBy_172 : decode cX5_toldBy 172 = .ok (.iload 6, 2) := by decide +kernel
theorem dX5_toldBy_174 : decode cX5_toldBy 174 = .ok (.istore 6, 2) := by decide +kernel
theorem dX5_toldBy_176 : decode cX5_toldBy 176 = .ok (.iload 9, 2) := by decide +kernel
theorem dX5_toldBy_178 : decode cX5_toldBy 178 = .ok (.ifCond .eq 13, 3) := by decide +kernel
theorem dX5_toldBy_181 : decode cX5_toldBy 181 = .ok (.aload_n 0, 1) := by decide +kernel
theorem dX5_toldBy_182 : decode cX5_toldBy 182 = .ok (.getfield 65, 3) := by decide +kernel
theorem dX5_toldBy_185 : decode cX5_toldBy 185 = .ok (.iload 8, 2) := by decide +kernel
theorem dX5_toldBy_187 : decode cX5_toldBy 187 = .ok (.iaload, 1) := by decide +kernel
theorem dX5_toldBy_188 : decode cX5_toldBy 188 = .ok (.goto 5, 3) := by decide +kernel
theorem dX5_toldBy_191 : decode cX5_toldBy 191 = .ok (.iload 7, 2) := by decide +kernel
theorem dX5_toldBy_193 : decode cX5_toldBy 193 = .ok (.istore 7, 2) := by decide +kernel
theorem dX5_toldBy_195 : decode cX5_toldBy 195 = .ok (.iinc 8 1, 3) := by decide +kernel
theorem dX5_toldBy_198 : decode cX5_toldBy 198 = .ok (.goto (-103), 3) := by decide +kernel
theorem dX5_toldBy_201 : decode cX5_toldBy 201 = .ok (.iload 7, 2) := by decide +kernel
theorem dX5_toldBy_203 : decode cX5_toldBy 203 = .ok (.ireturn, 1) := by decide +kernel
theorem dX5_obeys_0 : decode cX5_obeys 0 = .ok (.aload_n 0, 1) := by decide +kernel
theorem dX5_obeys_1 : decode cX5_obeys 1 = .ok (.iload_n 1, 1) := by decide +kernel
theorem dX5_obeys_2 : decode cX5_obeys 2 = .ok (.aload_n 0, 1) := by decide +kernel
theorem dX5_obeys_3 : decode cX5_obeys 3 = .ok (.getfield 101, 3) := by decide +kernel
theorem dX5_obeys_6 : decode cX5_obeys 6 = .ok (.invokevirtual 127, 3) := by decide +kernel
theorem dX5_obeys_9 : decode cX5_obeys 9 = .ok (.istore_n 2, 1) := by decide +kernel
theorem dX5_obeys_10 : decode cX5_obeys 10 = .ok (.iload_n 2, 1) := by decide +kernel
theorem dX5_obeys_11 : decode cX5_obeys 11 = .ok (.aload_n 0, 1) := by decide +kernel
theorem dX5_obeys_12 : decode cX5_obeys 12 = .ok (.getfield 53, 3) := by decide +kernel
theorem dX5_obeys_15 : decode cX5_obeys 15 = .ok (.iload_n 1, 1) := by decide +kernel
theorem dX5_obeys_16 : decode cX5_obeys 16 = .ok (.iaload, 1) := by decide +kernel
theorem dX5_obeys_17 : decode cX5_obeys 17 = .ok (.if_icmp .eq 27, 3) := by decide +kernel
theorem dX5_obeys_20 : decode cX5_obeys 20 = .ok (.aload_n 0, 1) := by decide +kernel
theorem dX5_obeys_21 : decode cX5_obeys 21 = .ok (.getfield 53, 3) := by decide +kernel
theorem dX5_obeys_24 : decode cX5_obeys 24 = .ok (.iload_n 1, 1) := by decide +kernel
theorem dX5_obeys_25 : decode cX5_obeys 25 = .ok (.iload_n 2, 1) := by decide +kernel
theorem dX5_obeys_26 : decode cX5_obeys 26 = .ok (.iastore, 1) := by decide +kernel
theorem dX5_obeys_27 : decode cX5_obeys 27 = .ok (.aload_n 0, 1) := by decide +kernel
theorem dX5_obeys_28 : decode cX5_obeys 28 = .ok (.aload_n 0, 1) := by decide +kernel
theorem dX5_obeys_29 : decode cX5_obeys 29 = .ok (.getfield 47, 3) := by decide +kernel
theorem dX5_obeys_32 : decode cX5_obeys 32 = .ok (.iload_n 1, 1) := by decide +kernel
theorem dX5_obeys_33 : decode cX5_obeys 33 = .ok (.iaload, 1) := by decide +kernel
theorem dX5_obeys_34 : decode cX5_obeys 34 = .ok (.aload_n 0, 1) := by decide +kernel
theorem dX5_obeys_35 : decode cX5_obeys 35 = .ok (.getfield 50, 3) := by decide +kernel
theorem dX5_obeys_38 : decode cX5_obeys 38 = .ok (.iload_n 1, 1) := by decide +kernel
theorem dX5_obeys_39 : decode cX5_obeys 39 = .ok (.iaload, 1) := by decide +kernel
theorem dX5_obeys_40 : decode cX5_obeys 40 = .ok (.iload_n 2, 1) := by decide +kernel
theorem dX5_obeys_41 : decode cX5_obeys 41 = .ok (.invokevirtual 116, 3) := by decide +kernel
theorem dX5_obeys_44 : decode cX5_obeys 44 = .ok (.return_, 1) := by decide +kernel
theorem dX5_enters_0 : decode cX5_enters 0 = .ok (.bipush 20, 2) := by decide +kernel
theorem dX5_enters_2 : decode cX5_enters 2 = .ok (.iload_n 1, 1) := by decide +kernel
theorem dX5_enters_3 : decode cX5_enters 3 = .ok (.imul, 1) := by decide +kernel
theorem dX5_enters_4 : decode cX5_enters 4 = .ok (.aload_n 0, 1) := by decide +kernel
theorem dX5_enters_5 : decode cX5_enters 5 = .ok (.getfield 56, 3) := by decide +kernel
theorem dX5_enters_8 : decode cX5_enters 8 = .ok (.iload_n 1, 1) := by decide +kernel
theorem dX5_enters_9 : decode cX5_enters 9 = .ok (.iaload, 1) := by decide +kernel
theorem dX5_enters_10 : decode cX5_enters 10 = .ok (.iadd, 1) := by decide +kernel
theorem dX5_enters_11 : decode cX5_enters 11 = .ok (.istore 5, 2) := by decide +kernel
theorem dX5_enters_13 : decode cX5_enters 13 = .ok (.aload_n 0, 1) := by decide +kernel
theorem dX5_enters_14 : decode cX5_enters 14 = .ok (.getfield 59, 3) := by decide +kernel
theorem dX5_enters_17 : decode cX5_enters 17 = .ok (.iload 5, 2) := by decide +kernel
theorem dX5_enters_19 : decode cX5_enters 19 = .ok (.iload_n 2, 1) := by decide +kernel
theorem dX5_enters_20 : decode cX5_enters 20 = .ok (.iastore, 1) := by decide +kernel
theorem dX5_enters_21 : decode cX5_enters 21 = .ok (.aload_n 0, 1) := by decide +kernel
theorem dX5_enters_22 : decode cX5_enters 22 = .ok (.getfield 62, 3) := by decide +kernel
theorem dX5_enters_25 : decode cX5_enters 25 = .ok (.iload 5, 2) := by decide +kernel
theorem dX5_enters_27 : decode cX5_enters 27 = .ok (.iload_n 3, 1) := by decide +kernel
theorem dX5_enters_28 : decode cX5_enters 28 = .ok (.iastore, 1) := by decide +kernel
theorem dX5_enters_29 : decode cX5_enters 29 = .ok (.aload_n 0, 1) := by decide +kernel
theorem dX5_enters_30 : decode cX5_enters 30 = .ok (.getfield 65, 3) := by decide +kernel
theorem dX5_enters_33 : decode cX5_enters 33 = .ok (.iload 5, 2) := by decide +kernel
theorem dX5_enters_35 : decode cX5_enters 35 = .ok (.iload 4, 2) := by decide +kernel
theorem dX5_enters_37 : decode cX5_enters 37 = .ok (.iastore, 1) := by decide +kernel
theorem dX5_enters_38 : decode cX5_enters 38 = .ok (.aload_n 0, 1) := by decide +kernel
theorem dX5_enters_39 : decode cX5_enters 39 = .ok (.getfield 56, 3) := by decide +kernel
theorem dX5_enters_42 : decode cX5_enters 42 = .ok (.iload_n 1, 1) := by decide +kernel
theorem dX5_enters_43 : decode cX5_enters 43 = .ok (.dup2, 1) := by decide +kernel
theorem dX5_enters_44 : decode cX5_enters 44 = .ok (.iaload, 1) := by decide +kernel
theorem dX5_enters_45 : decode cX5_enters 45 = .ok (.iconst 1, 1) := by decide +kernel
theorem dX5_enters_46 : decode cX5_enters 46 = .ok (.iadd, 1) := by decide +kernel
theorem dX5_enters_47 : decode cX5_enters 47 = .ok (.iastore, 1) := by decide +kernel
theorem dX5_enters_48 : decode cX5_enters 48 = .ok (.aload_n 0, 1) := by decide +kernel
theorem dX5_enters_49 : decode cX5_enters 49 = .ok (.iload_n 1, 1) := by decide +kernel
theorem dX5_enters_50 : decode cX5_enters 50 = .ok (.invokevirtual 131, 3) := by decide +kernel
theorem dX5_enters_53 : decode cX5_enters 53 = .ok (.aload_n 0, 1) := by decide +kernel
theorem dX5_enters_54 : decode cX5_enters 54 = .ok (.getfield 53, 3) := by decide +kernel
theorem dX5_enters_57 : decode cX5_enters 57 = .ok (.iload_n 1, 1) := by decide +kernel
theorem dX5_enters_58 : decode cX5_enters 58 = .ok (.iaload, 1) := by decide +kernel
theorem dX5_enters_59 : decode cX5_enters 59 = .ok (.ireturn, 1) := by decide +kernel
theorem dX5_weekly_0 : decode cX5_weekly 0 = .ok (.aload_n 0, 1) := by decide +kernel
theorem dX5_weekly_1 : decode cX5_weekly 1 = .ok (.iload_n 1, 1) := by decide +kernel
theorem dX5_weekly_2 : decode cX5_weekly 2 = .ok (.invokevirtual 135, 3) := by decide +kernel
theorem dX5_weekly_5 : decode cX5_weekly 5 = .ok (.istore 5, 2) := by decide +kernel
theorem dX5_weekly_7 : decode cX5_weekly 7 = .ok (.iload 5, 2) := by decide +kernel
theorem dX5_weekly_9 : decode cX5_weekly 9 = .ok (.ifCond .eq 43, 3) := by decide +kernel
theorem dX5_weekly_12 : decode cX5_weekly 12 = .ok (.iload_n 2, 1) := by decide +kernel
theorem dX5_weekly_13 : decode cX5_weekly 13 = .ok (.iconst 0, 1) := by decide +kernel
theorem dX5_weekly_14 : decode cX5_weekly 14 = .ok (.bipush 6, 2) := by decide +kernel
theorem dX5_weekly_16 : decode cX5_weekly 16 = .ok (.invokestatic 75, 3) := by decide +kernel
theorem dX5_weekly_19 : decode cX5_weekly 19 = .ok (.ifCond .eq 33, 3) := by decide +kernel
theorem dX5_weekly_22 : decode cX5_weekly 22 = .ok (.iload_n 3, 1) := by decide +kernel
theorem dX5_weekly_23 : decode cX5_weekly 23 = .ok (.iconst 0, 1) := by decide +kernel
theorem dX5_weekly_24 : decode cX5_weekly 24 = .ok (.sipush 1439, 3) := by decide +kernel
theorem dX5_weekly_27 : decode cX5_weekly 27 = .ok (.invokestatic 75, 3) := by decide +kernel
theorem dX5_weekly_30 : decode cX5_weekly 30 = .ok (.ifCond .eq 22, 3) := by decide +kernel
theorem dX5_weekly_33 : decode cX5_weekly 33 = .ok (.aload_n 0, 1) := by decide +kernel
theorem dX5_weekly_34 : decode cX5_weekly 34 = .ok (.aload_n 0, 1) := by decide +kernel
theorem dX5_weekly_35 : decode cX5_weekly 35 = .ok (.getfield 47, 3) := by decide +kernel
theorem dX5_weekly_38 : decode cX5_weekly 38 = .ok (.iload_n 1, 1) := by decide +kernel
theorem dX5_weekly_39 : decode cX5_weekly 39 = .ok (.iaload, 1) := by decide +kernel
theorem dX5_weekly_40 : decode cX5_weekly 40 = .ok (.iload 4, 2) := by decide +kernel
theorem dX5_weekly_42 : decode cX5_weekly 42 = .ok (.invokevirtual 112, 3) := by decide +kernel
theorem dX5_weekly_45 : decode cX5_weekly 45 = .ok (.ifCond .eq 7, 3) := by decide +kernel
theorem dX5_weekly_48 : decode cX5_weekly 48 = .ok (.iconst 1, 1) := by decide +kernel
theorem dX5_weekly_49 : decode cX5_weekly 49 = .ok (.goto 4, 3) := by decide +kernel
theorem dX5_weekly_52 : decode cX5_weekly 52 = .ok (.iconst 0, 1) := by decide +kernel
theorem dX5_weekly_53 : decode cX5_weekly 53 = .ok (.istore 6, 2) := by decide +kernel
theorem dX5_weekly_55 : decode cX5_weekly 55 = .ok (.aload_n 0, 1) := by decide +kernel
theorem dX5_weekly_56 : decode cX5_weekly 56 = .ok (.iload 5, 2) := by decide +kernel
theorem dX5_weekly_58 : decode cX5_weekly 58 = .ok (.iload 6, 2) := by decide +kernel
theorem dX5_weekly_60 : decode cX5_weekly 60 = .ok (.iload 5, 2) := by decide +kernel
theorem dX5_weekly_62 : decode cX5_weekly 62 = .ok (.ifCond .eq 18, 3) := by decide +kernel
theorem dX5_weekly_65 : decode cX5_weekly 65 = .ok (.aload_n 0, 1) := by decide +kernel
theorem dX5_weekly_66 : decode cX5_weekly 66 = .ok (.getfield 56, 3) := by decide +kernel
theorem dX5_weekly_69 : decode cX5_weekly 69 = .ok (.iload_n 1, 1) := by decide +kernel
theorem dX5_weekly_70 : decode cX5_weekly 70 = .ok (.iaload, 1) := by decide +kernel
theorem dX5_weekly_71 : decode cX5_weekly 71 = .ok (.bipush 20, 2) := by decide +kernel
theorem dX5_weekly_73 : decode cX5_weekly 73 = .ok (.if_icmp .ge 7, 3) := by decide +kernel
theorem dX5_weekly_76 : decode cX5_weekly 76 = .ok (.iconst 1, 1) := by decide +kernel
theorem dX5_weekly_77 : decode cX5_weekly 77 = .ok (.goto 4, 3) := by decide +kernel
theorem dX5_weekly_80 : decode cX5_weekly 80 = .ok (.iconst 0, 1) := by decide +kernel
theorem dX5_weekly_81 : decode cX5_weekly 81 = .ok (.invokevirtual 80, 3) := by decide +kernel
theorem dX5_weekly_84 : decode cX5_weekly 84 = .ok (.ifCond .eq 15, 3) := by decide +kernel
theorem dX5_weekly_87 : decode cX5_weekly 87 = .ok (.aload_n 0, 1) := by decide +kernel
theorem dX5_weekly_88 : decode cX5_weekly 88 = .ok (.iload_n 1, 1) := by decide +kernel
theorem dX5_weekly_89 : decode cX5_weekly 89 = .ok (.iload_n 2, 1) := by decide +kernel
theorem dX5_weekly_90 : decode cX5_weekly 90 = .ok (.iload_n 3, 1) := by decide +kernel
theorem dX5_weekly_91 : decode cX5_weekly 91 = .ok (.iload 4, 2) := by decide +kernel
theorem dX5_weekly_93 : decode cX5_weekly 93 = .ok (.invokevirtual 138, 3) := by decide +kernel
theorem dX5_weekly_96 : decode cX5_weekly 96 = .ok (.goto 4, 3) := by decide +kernel
theorem dX5_weekly_99 : decode cX5_weekly 99 = .ok (.iconst 0, 1) := by decide +kernel
theorem dX5_weekly_100 : decode cX5_weekly 100 = .ok (.ireturn, 1) := by decide +kernel
theorem dX5_once_0 : decode cX5_once 0 = .ok (.aload_n 0, 1) := by decide +kernel
theorem dX5_once_1 : decode cX5_once 1 = .ok (.iload_n 1, 1) := by decide +kernel
theorem dX5_once_2 : decode cX5_once 2 = .ok (.invokevirtual 135, 3) := by decide +kernel
theorem dX5_once_5 : decode cX5_once 5 = .ok (.istore 5, 2) := by decide +kernel
theorem dX5_once_7 : decode cX5_once 7 = .ok (.iload 5, 2) := by decide +kernel
theorem dX5_once_9 : decode cX5_once 9 = .ok (.ifCond .eq 44, 3) := by decide +kernel
theorem dX5_once_12 : decode cX5_once 12 = .ok (.iload_n 2, 1) := by decide +kernel
theorem dX5_once_13 : decode cX5_once 13 = .ok (.iconst 0, 1) := by decide +kernel
theorem dX5_once_14 : decode cX5_once 14 = .ok (.sipush 700, 3) := by decide +kernel
theorem dX5_once_17 : decode cX5_once 17 = .ok (.invokestatic 75, 3) := by decide +kernel
theorem dX5_once_20 : decode cX5_once 20 = .ok (.ifCond .eq 33, 3) := by decide +kernel
theorem dX5_once_23 : decode cX5_once 23 = .ok (.iload_n 3, 1) := by decide +kernel
theorem dX5_once_24 : decode cX5_once 24 = .ok (.iconst 0, 1) := by decide +kernel
theorem dX5_once_25 : decode cX5_once 25 = .ok (.sipush 1439, 3) := by decide +kernel
theorem dX5_once_28 : decode cX5_once 28 = .ok (.invokestatic 75, 3) := by decide +kernel
theorem dX5_once_31 : decode cX5_once 31 = .ok (.ifCond .eq 22, 3) := by decide +kernel
theorem dX5_once_34 : decode cX5_once 34 = .ok (.aload_n 0, 1) := by decide +kernel
theorem dX5_once_35 : decode cX5_once 35 = .ok (.aload_n 0, 1) := by decide +kernel
theorem dX5_once_36 : decode cX5_once 36 = .ok (.getfield 47, 3) := by decide +kernel
theorem dX5_once_39 : decode cX5_once 39 = .ok (.iload_n 1, 1) := by decide +kernel
theorem dX5_once_40 : decode cX5_once 40 = .ok (.iaload, 1) := by decide +kernel
theorem dX5_once_41 : decode cX5_once 41 = .ok (.iload 4, 2) := by decide +kernel
theorem dX5_once_43 : decode cX5_once 43 = .ok (.invokevirtual 112, 3) := by decide +kernel
theorem dX5_once_46 : decode cX5_once 46 = .ok (.ifCond .eq 7, 3) := by decide +kernel
theorem dX5_once_49 : decode cX5_once 49 = .ok (.iconst 1, 1) := by decide +kernel
theorem dX5_once_50 : decode cX5_once 50 = .ok (.goto 4, 3) := by decide +kernel
theorem dX5_once_53 : decode cX5_once 53 = .ok (.iconst 0, 1) := by decide +kernel
theorem dX5_once_54 : decode cX5_once 54 = .ok (.istore 6, 2) := by decide +kernel
theorem dX5_once_56 : decode cX5_once 56 = .ok (.aload_n 0, 1) := by decide +kernel
theorem dX5_once_57 : decode cX5_once 57 = .ok (.iload 5, 2) := by decide +kernel
theorem dX5_once_59 : decode cX5_once 59 = .ok (.iload 6, 2) := by decide +kernel
theorem dX5_once_61 : decode cX5_once 61 = .ok (.iload 5, 2) := by decide +kernel
theorem dX5_once_63 : decode cX5_once 63 = .ok (.ifCond .eq 18, 3) := by decide +kernel
theorem dX5_once_66 : decode cX5_once 66 = .ok (.aload_n 0, 1) := by decide +kernel
theorem dX5_once_67 : decode cX5_once 67 = .ok (.getfield 56, 3) := by decide +kernel
theorem dX5_once_70 : decode cX5_once 70 = .ok (.iload_n 1, 1) := by decide +kernel
theorem dX5_once_71 : decode cX5_once 71 = .ok (.iaload, 1) := by decide +kernel
theorem dX5_once_72 : decode cX5_once 72 = .ok (.bipush 20, 2) := by decide +kernel
theorem dX5_once_74 : decode cX5_once 74 = .ok (.if_icmp .ge 7, 3) := by decide +kernel
theorem dX5_once_77 : decode cX5_once 77 = .ok (.iconst 1, 1) := by decide +kernel
theorem dX5_once_78 : decode cX5_once 78 = .ok (.goto 4, 3) := by decide +kernel
theorem dX5_once_81 : decode cX5_once 81 = .ok (.iconst 0, 1) := by decide +kernel
theorem dX5_once_82 : decode cX5_once 82 = .ok (.invokevirtual 80, 3) := by decide +kernel
theorem dX5_once_85 : decode cX5_once 85 = .ok (.ifCond .eq 18, 3) := by decide +kernel
theorem dX5_once_88 : decode cX5_once 88 = .ok (.aload_n 0, 1) := by decide +kernel
theorem dX5_once_89 : decode cX5_once 89 = .ok (.iload_n 1, 1) := by decide +kernel
theorem dX5_once_90 : decode cX5_once 90 = .ok (.bipush 10, 2) := by decide +kernel
theorem dX5_once_92 : decode cX5_once 92 = .ok (.iload_n 2, 1) := by decide +kernel
theorem dX5_once_93 : decode cX5_once 93 = .ok (.iadd, 1) := by decide +kernel
theorem dX5_once_94 : decode cX5_once 94 = .ok (.iload_n 3, 1) := by decide +kernel
theorem dX5_once_95 : decode cX5_once 95 = .ok (.iload 4, 2) := by decide +kernel
theorem dX5_once_97 : decode cX5_once 97 = .ok (.invokevirtual 138, 3) := by decide +kernel
theorem dX5_once_100 : decode cX5_once 100 = .ok (.goto 4, 3) := by decide +kernel
theorem dX5_once_103 : decode cX5_once 103 = .ok (.iconst 0, 1) := by decide +kernel
theorem dX5_once_104 : decode cX5_once 104 = .ok (.ireturn, 1) := by decide +kernel
theorem dX5_tells_0 : decode cX5_tells 0 = .ok (.aload_n 0, 1) := by decide +kernel
theorem dX5_tells_1 : decode cX5_tells 1 = .ok (.aload_n 0, 1) := by decide +kernel
theorem dX5_tells_2 : decode cX5_tells 2 = .ok (.iload_n 1, 1) := by decide +kernel
theorem dX5_tells_3 : decode cX5_tells 3 = .ok (.invokevirtual 135, 3) := by decide +kernel
theorem dX5_tells_6 : decode cX5_tells 6 = .ok (.iload_n 2, 1) := by decide +kernel
theorem dX5_tells_7 : decode cX5_tells 7 = .ok (.iconst 0, 1) := by decide +kernel
theorem dX5_tells_8 : decode cX5_tells 8 = .ok (.ldc 142, 2) := by decide +kernel
theorem dX5_tells_10 : decode cX5_tells 10 = .ok (.invokestatic 75, 3) := by decide +kernel
theorem dX5_tells_13 : decode cX5_tells 13 = .ok (.iconst 1, 1) := by decide +kernel
theorem dX5_tells_14 : decode cX5_tells 14 = .ok (.invokevirtual 80, 3) := by decide +kernel
theorem dX5_tells_17 : decode cX5_tells 17 = .ok (.ifCond .eq 12, 3) := by decide +kernel
theorem dX5_tells_20 : decode cX5_tells 20 = .ok (.aload_n 0, 1) := by decide +kernel
theorem dX5_tells_21 : decode cX5_tells 21 = .ok (.iload_n 1, 1) := by decide +kernel
theorem dX5_tells_22 : decode cX5_tells 22 = .ok (.iload_n 2, 1) := by decide +kernel
theorem dX5_tells_23 : decode cX5_tells 23 = .ok (.invokevirtual 127, 3) := by decide +kernel
theorem dX5_tells_26 : decode cX5_tells 26 = .ok (.goto 4, 3) := by decide +kernel
theorem dX5_tells_29 : decode cX5_tells 29 = .ok (.iconst 0, 1) := by decide +kernel
theorem dX5_tells_30 : decode cX5_tells 30 = .ok (.ireturn, 1) := by decide +kernel
theorem dX5_minutes_0 : decode cX5_minutes 0 = .ok (.aload_n 0, 1) := by decide +kernel
theorem dX5_minutes_1 : decode cX5_minutes 1 = .ok (.dup, 1) := by decide +kernel
theorem dX5_minutes_2 : decode cX5_minutes 2 = .ok (.getfield 101, 3) := by decide +kernel
theorem dX5_minutes_5 : decode cX5_minutes 5 = .ok (.iconst 1, 1) := by decide +kernel
theorem dX5_minutes_6 : decode cX5_minutes 6 = .ok (.iadd, 1) := by decide +kernel
theorem dX5_minutes_7 : decode cX5_minutes 7 = .ok (.putfield 101, 3) := by decide +kernel
theorem dX5_minutes_10 : decode cX5_minutes 10 = .ok (.iconst 0, 1) := by decide +kernel
theorem dX5_minutes_11 : decode cX5_minutes 11 = .ok (.istore_n 1, 1) := by decide +kernel
theorem dX5_minutes_12 : decode cX5_minutes 12 = .ok (.iload_n 1, 1) := by decide +kernel
theorem dX5_minutes_13 : decode cX5_minutes 13 = .ok (.aload_n 0, 1) := by decide +kernel
theorem dX5_minutes_14 : decode cX5_minutes 14 = .ok (.getfield 72, 3) := by decide +kernel
theorem dX5_minutes_17 : decode cX5_minutes 17 = .ok (.if_icmp .ge 38, 3) := by decide +kernel
theorem dX5_minutes_20 : decode cX5_minutes 20 = .ok (.aload_n 0, 1) := by decide +kernel
theorem dX5_minutes_21 : decode cX5_minutes 21 = .ok (.getfield 20, 3) := by decide +kernel
theorem dX5_minutes_24 : decode cX5_minutes 24 = .ok (.iload_n 1, 1) := by decide +kernel
theorem dX5_minutes_25 : decode cX5_minutes 25 = .ok (.iaload, 1) := by decide +kernel
theorem dX5_minutes_26 : decode cX5_minutes 26 = .ok (.aload_n 0, 1) := by decide +kernel
theorem dX5_minutes_27 : decode cX5_minutes 27 = .ok (.getfield 101, 3) := by decide +kernel
theorem dX5_minutes_30 : decode cX5_minutes 30 = .ok (.if_icmp .ne 19, 3) := by decide +kernel
theorem dX5_minutes_33 : decode cX5_minutes 33 = .ok (.aload_n 0, 1) := by decide +kernel
theorem dX5_minutes_34 : decode cX5_minutes 34 = .ok (.getfield 20, 3) := by decide +kernel
theorem dX5_minutes_37 : decode cX5_minutes 37 = .ok (.iload_n 1, 1) := by decide +kernel
theorem dX5_minutes_38 : decode cX5_minutes 38 = .ok (.iconst 0, 1) := by decide +kernel
theorem dX5_minutes_39 : decode cX5_minutes 39 = .ok (.iastore, 1) := by decide +kernel
theorem dX5_minutes_40 : decode cX5_minutes 40 = .ok (.aload_n 0, 1) := by decide +kernel
theorem dX5_minutes_41 : decode cX5_minutes 41 = .ok (.iload_n 1, 1) := by decide +kernel
theorem dX5_minutes_42 : decode cX5_minutes 42 = .ok (.bipush 6, 2) := by decide +kernel
theorem dX5_minutes_44 : decode cX5_minutes 44 = .ok (.ldc 79, 2) := by decide +kernel
theorem dX5_minutes_46 : decode cX5_minutes 46 = .ok (.invokevirtual 116, 3) := by decide +kernel
theorem dX5_minutes_49 : decode cX5_minutes 49 = .ok (.iinc 1 1, 3) := by decide +kernel
theorem dX5_minutes_52 : decode cX5_minutes 52 = .ok (.goto (-40), 3) := by decide +kernel
theorem dX5_minutes_55 : decode cX5_minutes 55 = .ok (.iconst 0, 1) := by decide +kernel
theorem dX5_minutes_56 : decode cX5_minutes 56 = .ok (.istore_n 1, 1) := by decide +kernel
theorem dX5_minutes_57 : decode cX5_minutes 57 = .ok (.iload_n 1, 1) := by decide +kernel
theorem dX5_minutes_58 : decode cX5_minutes 58 = .ok (.aload_n 0, 1) := by decide +kernel
theorem dX5_minutes_59 : decode cX5_minutes 59 = .ok (.getfield 92, 3) := by decide +kernel
theorem dX5_minutes_62 : decode cX5_minutes 62 = .ok (.if_icmp .ge 42, 3) := by decide +kernel
theorem dX5_minutes_65 : decode cX5_minutes 65 = .ok (.aload_n 0, 1) := by decide +kernel
theorem dX5_minutes_66 : decode cX5_minutes 66 = .ok (.getfield 38, 3) := by decide +kernel
theorem dX5_minutes_69 : decode cX5_minutes 69 = .ok (.iload_n 1, 1) := by decide +kernel
theorem dX5_minutes_70 : decode cX5_minutes 70 = .ok (.aload_n 0, 1) := by decide +kernel
theorem dX5_minutes_71 : decode cX5_minutes 71 = .ok (.getfield 38, 3) := by decide +kernel
theorem dX5_minutes_74 : decode cX5_minutes 74 = .ok (.iload_n 1, 1) := by decide +kernel
theorem dX5_minutes_75 : decode cX5_minutes 75 = .ok (.baload, 1) := by decide +kernel
theorem dX5_minutes_76 : decode cX5_minutes 76 = .ok (.ifCond .ne 16, 3) := by decide +kernel
theorem dX5_minutes_79 : decode cX5_minutes 79 = .ok (.aload_n 0, 1) := by decide +kernel
theorem dX5_minutes_80 : decode cX5_minutes 80 = .ok (.getfield 35, 3) := by decide +kernel
theorem dX5_minutes_83 : decode cX5_minutes 83 = .ok (.iload_n 1, 1) := by decide +kernel
theorem dX5_minutes_84 : decode cX5_minutes 84 = .ok (.iaload, 1) := by decide +kernel
theorem dX5_minutes_85 : decode cX5_minutes 85 = .ok (.aload_n 0, 1) := by decide +kernel
theorem dX5_minutes_86 : decode cX5_minutes 86 = .ok (.getfield 101, 3) := by decide +kernel
theorem dX5_minutes_89 : decode cX5_minutes 89 = .ok (.if_icmp .ne 7, 3) := by decide +kernel
theorem dX5_minutes_92 : decode cX5_minutes 92 = .ok (.iconst 1, 1) := by decide +kernel
theorem dX5_minutes_93 : decode cX5_minutes 93 = .ok (.goto 4, 3) := by decide +kernel
theorem dX5_minutes_96 : decode cX5_minutes 96 = .ok (.iconst 0, 1) := by decide +kernel
theorem dX5_minutes_97 : decode cX5_minutes 97 = .ok (.bastore, 1) := by decide +kernel
theorem dX5_minutes_98 : decode cX5_minutes 98 = .ok (.iinc 1 1, 3) := by decide +kernel
theorem dX5_minutes_101 : decode cX5_minutes 101 = .ok (.goto (-44), 3) := by decide +kernel
theorem dX5_minutes_104 : decode cX5_minutes 104 = .ok (.iconst 0, 1) := by decide +kernel
theorem dX5_minutes_105 : decode cX5_minutes 105 = .ok (.istore_n 1, 1) := by decide +kernel
theorem dX5_minutes_106 : decode cX5_minutes 106 = .ok (.iload_n 1, 1) := by decide +kernel
theorem dX5_minutes_107 : decode cX5_minutes 107 = .ok (.aload_n 0, 1) := by decide +kernel
theorem dX5_minutes_108 : decode cX5_minutes 108 = .ok (.getfield 124, 3) := by decide +kernel
theorem dX5_minutes_111 : decode cX5_minutes 111 = .ok (.if_icmp .ge 14, 3) := by decide +kernel
theorem dX5_minutes_114 : decode cX5_minutes 114 = .ok (.aload_n 0, 1) := by decide +kernel
theorem dX5_minutes_115 : decode cX5_minutes 115 = .ok (.iload_n 1, 1) := by decide +kernel
theorem dX5_minutes_116 : decode cX5_minutes 116 = .ok (.invokevirtual 131, 3) := by decide +kernel
theorem dX5_minutes_119 : decode cX5_minutes 119 = .ok (.iinc 1 1, 3) := by decide +kernel
theorem dX5_minutes_122 : decode cX5_minutes 122 = .ok (.goto (-16), 3) := by decide +kernel
theorem dX5_minutes_125 : decode cX5_minutes 125 = .ok (.return_, 1) := by decide +kernel
theorem dX5_pass_0 : decode cX5_pass 0 = .ok (.iload_n 1, 1) := by decide +kernel
theorem dX5_pass_1 : decode cX5_pass 1 = .ok (.iconst 1, 1) := by decide +kernel
theorem dX5_pass_2 : decode cX5_pass 2 = .ok (.sipush 5000, 3) := by decide +kernel
theorem dX5_pass_5 : decode cX5_pass 5 = .ok (.invokestatic 75, 3) := by decide +kernel
theorem dX5_pass_8 : decode cX5_pass 8 = .ok (.istore_n 2, 1) := by decide +kernel
theorem dX5_pass_9 : decode cX5_pass 9 = .ok (.aload_n 0, 1) := by decide +kernel
theorem dX5_pass_10 : decode cX5_pass 10 = .ok (.iload_n 2, 1) := by decide +kernel
theorem dX5_pass_11 : decode cX5_pass 11 = .ok (.iload_n 2, 1) := by decide +kernel
theorem dX5_pass_12 : decode cX5_pass 12 = .ok (.ifCond .eq 18, 3) := by decide +kernel
theorem dX5_pass_15 : decode cX5_pass 15 = .ok (.aload_n 0, 1) := by decide +kernel
theorem dX5_pass_16 : decode cX5_pass 16 = .ok (.getfield 101, 3) := by decide +kernel
theorem dX5_pass_19 : decode cX5_pass 19 = .ok (.iload_n 1, 1) := by decide +kernel
theorem dX5_pass_20 : decode cX5_pass 20 = .ok (.iadd, 1) := by decide +kernel
theorem dX5_pass_21 : decode cX5_pass 21 = .ok (.ldc 142, 2) := by decide +kernel
theorem dX5_pass_23 : decode cX5_pass 23 = .ok (.if_icmp .gt 7, 3) := by decide +kernel
theorem dX5_pass_26 : decode cX5_pass 26 = .ok (.iconst 1, 1) := by decide +kernel
theorem dX5_pass_27 : decode cX5_pass 27 = .ok (.goto 4, 3) := by decide +kernel
theorem dX5_pass_30 : decode cX5_pass 30 = .ok (.iconst 0, 1) := by decide +kernel
theorem dX5_pass_31 : decode cX5_pass 31 = .ok (.iconst 1, 1) := by decide +kernel
theorem dX5_pass_32 : decode cX5_pass 32 = .ok (.invokevirtual 80, 3) := by decide +kernel
theorem dX5_pass_35 : decode cX5_pass 35 = .ok (.ifCond .ne 5, 3) := by decide +kernel
theorem dX5_pass_38 : decode cX5_pass 38 = .ok (.iconst 0, 1) := by decide +kernel
theorem dX5_pass_39 : decode cX5_pass 39 = .ok (.ireturn, 1) := by decide +kernel
theorem dX5_pass_40 : decode cX5_pass 40 = .ok (.aload_n 0, 1) := by decide +kernel
theorem dX5_pass_41 : decode cX5_pass 41 = .ok (.iconst 0, 1) := by decide +kernel
theorem dX5_pass_42 : decode cX5_pass 42 = .ok (.putfield 95, 3) := by decide +kernel
theorem dX5_pass_45 : decode cX5_pass 45 = .ok (.iconst 0, 1) := by decide +kernel
theorem dX5_pass_46 : decode cX5_pass 46 = .ok (.istore_n 3, 1) := by decide +kernel
theorem dX5_pass_47 : decode cX5_pass 47 = .ok (.iload_n 3, 1) := by decide +kernel
theorem dX5_pass_48 : decode cX5_pass 48 = .ok (.iload_n 1, 1) := by decide +kernel
theorem dX5_pass_49 : decode cX5_pass 49 = .ok (.if_icmp .ge 13, 3) := by decide +kernel
theorem dX5_pass_52 : decode cX5_pass 52 = .ok (.aload_n 0, 1) := by decide +kernel
theorem dX5_pass_53 : decode cX5_pass 53 = .ok (.invokevirtual 143, 3) := by decide +kernel
theorem dX5_pass_56 : decode cX5_pass 56 = .ok (.iinc 3 1, 3) := by decide +kernel
theorem dX5_pass_59 : decode cX5_pass 59 = .ok (.goto (-12), 3) := by decide +kernel
theorem dX5_pass_62 : decode cX5_pass 62 = .ok (.aload_n 0, 1) := by decide +kernel
theorem dX5_pass_63 : decode cX5_pass 63 = .ok (.getfield 95, 3) := by decide +kernel
theorem dX5_pass_66 : decode cX5_pass 66 = .ok (.ireturn, 1) := by decide +kernel
theorem dX5_clock_0 : decode cX5_clock 0 = .ok (.aload_n 0, 1) := by decide +kernel
theorem dX5_clock_1 : decode cX5_clock 1 = .ok (.iconst 0, 1) := by decide +kernel
theorem dX5_clock_2 : decode cX5_clock 2 = .ok (.putfield 68, 3) := by decide +kernel
theorem dX5_clock_5 : decode cX5_clock 5 = .ok (.aload_n 0, 1) := by decide +kernel
theorem dX5_clock_6 : decode cX5_clock 6 = .ok (.getfield 101, 3) := by decide +kernel
theorem dX5_clock_9 : decode cX5_clock 9 = .ok (.ireturn, 1) := by decide +kernel
theorem dL_addMeasure_0 : decode cL_addMeasure 0 = .ok (.aload_n 2, 1) := by decide +kernel
theorem dL_addMeasure_1 : decode cL_addMeasure 1 = .ok (.iconst 0, 1) := by decide +kernel
theorem dL_addMeasure_2 : decode cL_addMeasure 2 = .ok (.aload_n 0, 1) := by decide +kernel
theorem dL_addMeasure_3 : decode cL_addMeasure 3 = .ok (.iload_n 1, 1) := by decide +kernel
theorem dL_addMeasure_4 : decode cL_addMeasure 4 = .ok (.invokevirtual 7, 3) := by decide +kernel
theorem dL_addMeasure_7 : decode cL_addMeasure 7 = .ok (.i2l, 1) := by decide +kernel
theorem dL_addMeasure_8 : decode cL_addMeasure 8 = .ok (.lastore, 1) := by decide +kernel
theorem dL_addMeasure_9 : decode cL_addMeasure 9 = .ok (.goto 9, 3) := by decide +kernel
theorem dL_addMeasure_12 : decode cL_addMeasure 12 = .ok (.astore_n 3, 1) := by decide +kernel
theorem dL_addMeasure_13 : decode cL_addMeasure 13 = .ok (.iconst 1, 1) := by decide +kernel
theorem dL_addMeasure_14 : decode cL_addMeasure 14 = .ok (.ireturn, 1) := by decide +kernel
theorem dL_addMeasure_15 : decode cL_addMeasure 15 = .ok (.astore_n 3, 1) := by decide +kernel
theorem dL_addMeasure_16 : decode cL_addMeasure 16 = .ok (.iconst 2, 1) := by decide +kernel
theorem dL_addMeasure_17 : decode cL_addMeasure 17 = .ok (.ireturn, 1) := by decide +kernel
theorem dL_addMeasure_18 : decode cL_addMeasure 18 = .ok (.iconst 0, 1) := by decide +kernel
theorem dL_addMeasure_19 : decode cL_addMeasure 19 = .ok (.ireturn, 1) := by decide +kernel
theorem dL_addSwitch_0 : decode cL_addSwitch 0 = .ok (.aload_n 3, 1) := by decide +kernel
theorem dL_addSwitch_1 : decode cL_addSwitch 1 = .ok (.iconst 0, 1) := by decide +kernel
theorem dL_addSwitch_2 : decode cL_addSwitch 2 = .ok (.aload_n 0, 1) := by decide +kernel
theorem dL_addSwitch_3 : decode cL_addSwitch 3 = .ok (.iload_n 1, 1) := by decide +kernel
theorem dL_addSwitch_4 : decode cL_addSwitch 4 = .ok (.iload_n 2, 1) := by decide +kernel
theorem dL_addSwitch_5 : decode cL_addSwitch 5 = .ok (.invokevirtual 17, 3) := by decide +kernel
theorem dL_addSwitch_8 : decode cL_addSwitch 8 = .ok (.i2l, 1) := by decide +kernel
theorem dL_addSwitch_9 : decode cL_addSwitch 9 = .ok (.lastore, 1) := by decide +kernel
theorem dL_addSwitch_10 : decode cL_addSwitch 10 = .ok (.goto 11, 3) := by decide +kernel
theorem dL_addSwitch_13 : decode cL_addSwitch 13 = .ok (.astore 4, 2) := by decide +kernel
theorem dL_addSwitch_15 : decode cL_addSwitch 15 = .ok (.iconst 1, 1) := by decide +kernel
theorem dL_addSwitch_16 : decode cL_addSwitch 16 = .ok (.ireturn, 1) := by decide +kernel
theorem dL_addSwitch_17 : decode cL_addSwitch 17 = .ok (.astore 4, 2) := by decide +kernel
theorem dL_addSwitch_19 : decode cL_addSwitch 19 = .ok (.iconst 2, 1) := by decide +kernel
theorem dL_addSwitch_20 : decode cL_addSwitch 20 = .ok (.ireturn, 1) := by decide +kernel
theorem dL_addSwitch_21 : decode cL_addSwitch 21 = .ok (.iconst 0, 1) := by decide +kernel
theorem dL_addSwitch_22 : decode cL_addSwitch 22 = .ok (.ireturn, 1) := by decide +kernel
theorem dL_write_0 : decode cL_write 0 = .ok (.aload 4, 2) := by decide +kernel
theorem dL_write_2 : decode cL_write 2 = .ok (.iconst 0, 1) := by decide +kernel
theorem dL_write_3 : decode cL_write 3 = .ok (.aload_n 0, 1) := by decide +kernel
theorem dL_write_4 : decode cL_write 4 = .ok (.iload_n 1, 1) := by decide +kernel
theorem dL_write_5 : decode cL_write 5 = .ok (.iload_n 2, 1) := by decide +kernel
theorem dL_write_6 : decode cL_write 6 = .ok (.iload_n 3, 1) := by decide +kernel
theorem dL_write_7 : decode cL_write 7 = .ok (.invokevirtual 21, 3) := by decide +kernel
theorem dL_write_10 : decode cL_write 10 = .ok (.i2l, 1) := by decide +kernel
theorem dL_write_11 : decode cL_write 11 = .ok (.lastore, 1) := by decide +kernel
theorem dL_write_12 : decode cL_write 12 = .ok (.goto 15, 3) := by decide +kernel
theorem dL_write_15 : decode cL_write 15 = .ok (.astore 5, 2) := by decide +kernel
theorem dL_write_17 : decode cL_write 17 = .ok (.iconst 1, 1) := by decide +kernel
theorem dL_write_18 : decode cL_write 18 = .ok (.ireturn, 1) := by decide +kernel
theorem dL_write_19 : decode cL_write 19 = .ok (.astore 5, 2) := by decide +kernel
theorem dL_write_21 : decode cL_write 21 = .ok (.iconst 2, 1) := by decide +kernel
theorem dL_write_22 : decode cL_write 22 = .ok (.ireturn, 1) := by decide +kernel
theorem dL_write_23 : decode cL_write 23 = .ok (.astore 5, 2) := by decide +kernel
theorem dL_write_25 : decode cL_write 25 = .ok (.iconst 3, 1) := by decide +kernel
theorem dL_write_26 : decode cL_write 26 = .ok (.ireturn, 1) := by decide +kernel
theorem dL_write_27 : decode cL_write 27 = .ok (.iconst 0, 1) := by decide +kernel
theorem dL_write_28 : decode cL_write 28 = .ok (.ireturn, 1) := by decide +kernel
theorem dL_value_0 : decode cL_value 0 = .ok (.aload_n 2, 1) := by decide +kernel
theorem dL_value_1 : decode cL_value 1 = .ok (.iconst 0, 1) := by decide +kernel
theorem dL_value_2 : decode cL_value 2 = .ok (.aload_n 0, 1) := by decide +kernel
theorem dL_value_3 : decode cL_value 3 = .ok (.iload_n 1, 1) := by decide +kernel
theorem dL_value_4 : decode cL_value 4 = .ok (.invokevirtual 27, 3) := by decide +kernel
theorem dL_value_7 : decode cL_value 7 = .ok (.i2l, 1) := by decide +kernel
theorem dL_value_8 : decode cL_value 8 = .ok (.lastore, 1) := by decide +kernel
theorem dL_value_9 : decode cL_value 9 = .ok (.goto 6, 3) := by decide +kernel
theorem dL_value_12 : decode cL_value 12 = .ok (.astore_n 3, 1) := by decide +kernel
theorem dL_value_13 : decode cL_value 13 = .ok (.iconst 1, 1) := by decide +kernel
theorem dL_value_14 : decode cL_value 14 = .ok (.ireturn, 1) := by decide +kernel
theorem dL_value_15 : decode cL_value 15 = .ok (.iconst 0, 1) := by decide +kernel
theorem dL_value_16 : decode cL_value 16 = .ok (.ireturn, 1) := by decide +kernel
theorem dL_command_0 : decode cL_command 0 = .ok (.aload_n 3, 1) := by decide +kernel
theorem dL_command_1 : decode cL_command 1 = .ok (.iconst 0, 1) := by decide +kernel
theorem dL_command_2 : decode cL_command 2 = .ok (.aload_n 0, 1) := by decide +kernel
theorem dL_command_3 : decode cL_command 3 = .ok (.iload_n 1, 1) := by decide +kernel
theorem dL_command_4 : decode cL_command 4 = .ok (.iload_n 2, 1) := by decide +kernel
theorem dL_command_5 : decode cL_command 5 = .ok (.invokevirtual 30, 3) := by decide +kernel
theorem dL_command_8 : decode cL_command 8 = .ok (.i2l, 1) := by decide +kernel
theorem dL_command_9 : decode cL_command 9 = .ok (.lastore, 1) := by decide +kernel
theorem dL_command_10 : decode cL_command 10 = .ok (.goto 11, 3) := by decide +kernel
theorem dL_command_13 : decode cL_command 13 = .ok (.astore 4, 2) := by decide +kernel
theorem dL_command_15 : decode cL_command 15 = .ok (.iconst 1, 1) := by decide +kernel
theorem dL_command_16 : decode cL_command 16 = .ok (.ireturn, 1) := by decide +kernel
theorem dL_command_17 : decode cL_command 17 = .ok (.astore 4, 2) := by decide +kernel
theorem dL_command_19 : decode cL_command 19 = .ok (.iconst 2, 1) := by decide +kernel
theorem dL_command_20 : decode cL_command 20 = .ok (.ireturn, 1) := by decide +kernel
theorem dL_command_21 : decode cL_command 21 = .ok (.iconst 0, 1) := by decide +kernel
theorem dL_command_22 : decode cL_command 22 = .ok (.ireturn, 1) := by decide +kernel
theorem dL_standing_0 : decode cL_standing 0 = .ok (.aload_n 2, 1) := by decide +kernel
theorem dL_standing_1 : decode cL_standing 1 = .ok (.iconst 0, 1) := by decide +kernel
theorem dL_standing_2 : decode cL_standing 2 = .ok (.aload_n 0, 1) := by decide +kernel
theorem dL_standing_3 : decode cL_standing 3 = .ok (.iload_n 1, 1) := by decide +kernel
theorem dL_standing_4 : decode cL_standing 4 = .ok (.invokevirtual 33, 3) := by decide +kernel
theorem dL_standing_7 : decode cL_standing 7 = .ok (.i2l, 1) := by decide +kernel
theorem dL_standing_8 : decode cL_standing 8 = .ok (.lastore, 1) := by decide +kernel
theorem dL_standing_9 : decode cL_standing 9 = .ok (.goto 6, 3) := by decide +kernel
theorem dL_standing_12 : decode cL_standing 12 = .ok (.astore_n 3, 1) := by decide +kernel
theorem dL_standing_13 : decode cL_standing 13 = .ok (.iconst 1, 1) := by decide +kernel
theorem dL_standing_14 : decode cL_standing 14 = .ok (.ireturn, 1) := by decide +kernel
theorem dL_standing_15 : decode cL_standing 15 = .ok (.iconst 0, 1) := by decide +kernel
theorem dL_standing_16 : decode cL_standing 16 = .ok (.ireturn, 1) := by decide +kernel
theorem dL_held_0 : decode cL_held 0 = .ok (.aload_n 2, 1) := by decide +kernel
theorem dL_held_1 : decode cL_held 1 = .ok (.iconst 0, 1) := by decide +kernel
theorem dL_held_2 : decode cL_held 2 = .ok (.aload_n 0, 1) := by decide +kernel
theorem dL_held_3 : decode cL_held 3 = .ok (.iload_n 1, 1) := by decide +kernel
theorem dL_held_4 : decode cL_held 4 = .ok (.invokevirtual 36, 3) := by decide +kernel
theorem dL_held_7 : decode cL_held 7 = .ok (.i2l, 1) := by decide +kernel
theorem dL_held_8 : decode cL_held 8 = .ok (.lastore, 1) := by decide +kernel
theorem dL_held_9 : decode cL_held 9 = .ok (.goto 6, 3) := by decide +kernel
theorem dL_held_12 : decode cL_held 12 = .ok (.astore_n 3, 1) := by decide +kernel
theorem dL_held_13 : decode cL_held 13 = .ok (.iconst 1, 1) := by decide +kernel
theorem dL_held_14 : decode cL_held 14 = .ok (.ireturn, 1) := by decide +kernel
theorem dL_held_15 : decode cL_held 15 = .ok (.iconst 0, 1) := by decide +kernel
theorem dL_held_16 : decode cL_held 16 = .ok (.ireturn, 1) := by decide +kernel
theorem dL_changes_0 : decode cL_changes 0 = .ok (.aload_n 2, 1) := by decide +kernel
theorem dL_changes_1 : decode cL_changes 1 = .ok (.iconst 0, 1) := by decide +kernel
theorem dL_changes_2 : decode cL_changes 2 = .ok (.aload_n 0, 1) := by decide +kernel
theorem dL_changes_3 : decode cL_changes 3 = .ok (.iload_n 1, 1) := by decide +kernel
theorem dL_changes_4 : decode cL_changes 4 = .ok (.invokevirtual 39, 3) := by decide +kernel
theorem dL_changes_7 : decode cL_changes 7 = .ok (.i2l, 1) := by decide +kernel
theorem dL_changes_8 : decode cL_changes 8 = .ok (.lastore, 1) := by decide +kernel
theorem dL_changes_9 : decode cL_changes 9 = .ok (.goto 6, 3) := by decide +kernel
theorem dL_changes_12 : decode cL_changes 12 = .ok (.astore_n 3, 1) := by decide +kernel
theorem dL_changes_13 : decode cL_changes 13 = .ok (.iconst 1, 1) := by decide +kernel
theorem dL_changes_14 : decode cL_changes 14 = .ok (.ireturn, 1) := by decide +kernel
theorem dL_changes_15 : decode cL_changes 15 = .ok (.iconst 0, 1) := by decide +kernel
theorem dL_changes_16 : decode cL_changes 16 = .ok (.ireturn, 1) := by decide +kernel
theorem dL_subscribe_0 : decode cL_subscribe 0 = .ok (.aload 4, 2) := by decide +kernel
theorem dL_subscribe_2 : decode cL_subscribe 2 = .ok (.iconst 0, 1) := by decide +kernel
theorem dL_subscribe_3 : decode cL_subscribe 3 = .ok (.aload_n 0, 1) := by decide +kernel
theorem dL_subscribe_4 : decode cL_subscribe 4 = .ok (.iload_n 1, 1) := by decide +kernel
theorem dL_subscribe_5 : decode cL_subscribe 5 = .ok (.iload_n 2, 1) := by decide +kernel
theorem dL_subscribe_6 : decode cL_subscribe 6 = .ok (.iload_n 3, 1) := by decide +kernel
theorem dL_subscribe_7 : decode cL_subscribe 7 = .ok (.invokevirtual 42, 3) := by decide +kernel
theorem dL_subscribe_10 : decode cL_subscribe 10 = .ok (.i2l, 1) := by decide +kernel
theorem dL_subscribe_11 : decode cL_subscribe 11 = .ok (.lastore, 1) := by decide +kernel
theorem dL_subscribe_12 : decode cL_subscribe 12 = .ok (.goto 15, 3) := by decide +kernel
theorem dL_subscribe_15 : decode cL_subscribe 15 = .ok (.astore 5, 2) := by decide +kernel
theorem dL_subscribe_17 : decode cL_subscribe 17 = .ok (.iconst 1, 1) := by decide +kernel
theorem dL_subscribe_18 : decode cL_subscribe 18 = .ok (.ireturn, 1) := by decide +kernel
theorem dL_subscribe_19 : decode cL_subscribe 19 = .ok (.astore 5, 2) := by decide +kernel
theorem dL_subscribe_21 : decode cL_subscribe 21 = .ok (.iconst 2, 1) := by decide +kernel
theorem dL_subscribe_22 : decode cL_subscribe 22 = .ok (.ireturn, 1) := by decide +kernel
theorem dL_subscribe_23 : decode cL_subscribe 23 = .ok (.astore 5, 2) := by decide +kernel
theorem dL_subscribe_25 : decode cL_subscribe 25 = .ok (.iconst 3, 1) := by decide +kernel
theorem dL_subscribe_26 : decode cL_subscribe 26 = .ok (.ireturn, 1) := by decide +kernel
theorem dL_subscribe_27 : decode cL_subscribe 27 = .ok (.iconst 0, 1) := by decide +kernel
theorem dL_subscribe_28 : decode cL_subscribe 28 = .ok (.ireturn, 1) := by decide +kernel
theorem dL_end_0 : decode cL_end 0 = .ok (.aload_n 0, 1) := by decide +kernel
theorem dL_end_1 : decode cL_end 1 = .ok (.iload_n 1, 1) := by decide +kernel
theorem dL_end_2 : decode cL_end 2 = .ok (.invokevirtual 45, 3) := by decide +kernel
theorem dL_end_5 : decode cL_end 5 = .ok (.goto 9, 3) := by decide +kernel
theorem dL_end_8 : decode cL_end 8 = .ok (.astore_n 2, 1) := by decide +kernel
theorem dL_end_9 : decode cL_end 9 = .ok (.iconst 1, 1) := by decide +kernel
theorem dL_end_10 : decode cL_end 10 = .ok (.ireturn, 1) := by decide +kernel
theorem dL_end_11 : decode cL_end 11 = .ok (.astore_n 2, 1) := by decide +kernel
theorem dL_end_12 : decode cL_end 12 = .ok (.iconst 2, 1) := by decide +kernel
theorem dL_end_13 : decode cL_end 13 = .ok (.ireturn, 1) := by decide +kernel
theorem dL_end_14 : decode cL_end 14 = .ok (.iconst 0, 1) := by decide +kernel
theorem dL_end_15 : decode cL_end 15 = .ok (.ireturn, 1) := by decide +kernel
theorem dL_goesOn_0 : decode cL_goesOn 0 = .ok (.aload_n 2, 1) := by decide +kernel
theorem dL_goesOn_1 : decode cL_goesOn 1 = .ok (.iconst 0, 1) := by decide +kernel
theorem dL_goesOn_2 : decode cL_goesOn 2 = .ok (.aload_n 0, 1) := by decide +kernel
theorem dL_goesOn_3 : decode cL_goesOn 3 = .ok (.iload_n 1, 1) := by decide +kernel
theorem dL_goesOn_4 : decode cL_goesOn 4 = .ok (.invokevirtual 49, 3) := by decide +kernel
theorem dL_goesOn_7 : decode cL_goesOn 7 = .ok (.ifCond .eq 7, 3) := by decide +kernel
theorem dL_goesOn_10 : decode cL_goesOn 10 = .ok (.lconst 1, 1) := by decide +kernel
theorem dL_goesOn_11 : decode cL_goesOn 11 = .ok (.goto 4, 3) := by decide +kernel
theorem dL_goesOn_14 : decode cL_goesOn 14 = .ok (.lconst 0, 1) := by decide +kernel
theorem dL_goesOn_15 : decode cL_goesOn 15 = .ok (.lastore, 1) := by decide +kernel
theorem dL_goesOn_16 : decode cL_goesOn 16 = .ok (.goto 6, 3) := by decide +kernel
theorem dL_goesOn_19 : decode cL_goesOn 19 = .ok (.astore_n 3, 1) := by decide +kernel
theorem dL_goesOn_20 : decode cL_goesOn 20 = .ok (.iconst 1, 1) := by decide +kernel
theorem dL_goesOn_21 : decode cL_goesOn 21 = .ok (.ireturn, 1) := by decide +kernel
theorem dL_goesOn_22 : decode cL_goesOn 22 = .ok (.iconst 0, 1) := by decide +kernel
theorem dL_goesOn_23 : decode cL_goesOn 23 = .ok (.ireturn, 1) := by decide +kernel
theorem dL_reports_0 : decode cL_reports 0 = .ok (.aload_n 2, 1) := by decide +kernel
theorem dL_reports_1 : decode cL_reports 1 = .ok (.iconst 0, 1) := by decide +kernel
theorem dL_reports_2 : decode cL_reports 2 = .ok (.aload_n 0, 1) := by decide +kernel
theorem dL_reports_3 : decode cL_reports 3 = .ok (.iload_n 1, 1) := by decide +kernel
theorem dL_reports_4 : decode cL_reports 4 = .ok (.invokevirtual 53, 3) := by decide +kernel
theorem dL_reports_7 : decode cL_reports 7 = .ok (.i2l, 1) := by decide +kernel
theorem dL_reports_8 : decode cL_reports 8 = .ok (.lastore, 1) := by decide +kernel
theorem dL_reports_9 : decode cL_reports 9 = .ok (.goto 6, 3) := by decide +kernel
theorem dL_reports_12 : decode cL_reports 12 = .ok (.astore_n 3, 1) := by decide +kernel
theorem dL_reports_13 : decode cL_reports 13 = .ok (.iconst 1, 1) := by decide +kernel
theorem dL_reports_14 : decode cL_reports 14 = .ok (.ireturn, 1) := by decide +kernel
theorem dL_reports_15 : decode cL_reports 15 = .ok (.iconst 0, 1) := by decide +kernel
theorem dL_reports_16 : decode cL_reports 16 = .ok (.ireturn, 1) := by decide +kernel
theorem dL_reported_0 : decode cL_reported 0 = .ok (.aload_n 2, 1) := by decide +kernel
theorem dL_reported_1 : decode cL_reported 1 = .ok (.iconst 0, 1) := by decide +kernel
theorem dL_reported_2 : decode cL_reported 2 = .ok (.aload_n 0, 1) := by decide +kernel
theorem dL_reported_3 : decode cL_reported 3 = .ok (.iload_n 1, 1) := by decide +kernel
theorem dL_reported_4 : decode cL_reported 4 = .ok (.invokevirtual 56, 3) := by decide +kernel
theorem dL_reported_7 : decode cL_reported 7 = .ok (.i2l, 1) := by decide +kernel
theorem dL_reported_8 : decode cL_reported 8 = .ok (.lastore, 1) := by decide +kernel
theorem dL_reported_9 : decode cL_reported 9 = .ok (.goto 6, 3) := by decide +kernel
theorem dL_reported_12 : decode cL_reported 12 = .ok (.astore_n 3, 1) := by decide +kernel
theorem dL_reported_13 : decode cL_reported 13 = .ok (.iconst 1, 1) := by decide +kernel
theorem dL_reported_14 : decode cL_reported 14 = .ok (.ireturn, 1) := by decide +kernel
theorem dL_reported_15 : decode cL_reported 15 = .ok (.iconst 0, 1) := by decide +kernel
theorem dL_reported_16 : decode cL_reported 16 = .ok (.ireturn, 1) := by decide +kernel
theorem dL_addSchedule_0 : decode cL_addSchedule 0 = .ok (.aload_n 3, 1) := by decide +kernel
theorem dL_addSchedule_1 : decode cL_addSchedule 1 = .ok (.iconst 0, 1) := by decide +kernel
theorem dL_addSchedule_2 : decode cL_addSchedule 2 = .ok (.aload_n 0, 1) := by decide +kernel
theorem dL_addSchedule_3 : decode cL_addSchedule 3 = .ok (.iload_n 1, 1) := by decide +kernel
theorem dL_addSchedule_4 : decode cL_addSchedule 4 = .ok (.iload_n 2, 1) := by decide +kernel
theorem dL_addSchedule_5 : decode cL_addSchedule 5 = .ok (.invokevirtual 59, 3) := by decide +kernel
theorem dL_addSchedule_8 : decode cL_addSchedule 8 = .ok (.i2l, 1) := by decide +kernel
theorem dL_addSchedule_9 : decode cL_addSchedule 9 = .ok (.lastore, 1) := by decide +kernel
theorem dL_addSchedule_10 : decode cL_addSchedule 10 = .ok (.goto 15, 3) := by decide +kernel
theorem dL_addSchedule_13 : decode cL_addSchedule 13 = .ok (.astore 4, 2) := by decide +kernel
theorem dL_addSchedule_15 : decode cL_addSchedule 15 = .ok (.iconst 1, 1) := by decide +kernel
theorem dL_addSchedule_16 : decode cL_addSchedule 16 = .ok (.ireturn, 1) := by decide +kernel
theorem dL_addSchedule_17 : decode cL_addSchedule 17 = .ok (.astore 4, 2) := by decide +kernel
theorem dL_addSchedule_19 : decode cL_addSchedule 19 = .ok (.iconst 2, 1) := by decide +kernel
theorem dL_addSchedule_20 : decode cL_addSchedule 20 = .ok (.ireturn, 1) := by decide +kernel
theorem dL_addSchedule_21 : decode cL_addSchedule 21 = .ok (.astore 4, 2) := by decide +kernel
theorem dL_addSchedule_23 : decode cL_addSchedule 23 = .ok (.iconst 3, 1) := by decide +kernel
theorem dL_addSchedule_24 : decode cL_addSchedule 24 = .ok (.ireturn, 1) := by decide +kernel
theorem dL_addSchedule_25 : decode cL_addSchedule 25 = .ok (.iconst 0, 1) := by decide +kernel
theorem dL_addSchedule_26 : decode cL_addSchedule 26 = .ok (.ireturn, 1) := by decide +kernel
theorem dL_weekly_0 : decode cL_weekly 0 = .ok (.aload 5, 2) := by decide +kernel
theorem dL_weekly_2 : decode cL_weekly 2 = .ok (.iconst 0, 1) := by decide +kernel
theorem dL_weekly_3 : decode cL_weekly 3 = .ok (.aload_n 0, 1) := by decide +kernel
theorem dL_weekly_4 : decode cL_weekly 4 = .ok (.iload_n 1, 1) := by decide +kernel
theorem dL_weekly_5 : decode cL_weekly 5 = .ok (.iload_n 2, 1) := by decide +kernel
theorem dL_weekly_6 : decode cL_weekly 6 = .ok (.iload_n 3, 1) := by decide +kernel
theorem dL_weekly_7 : decode cL_weekly 7 = .ok (.iload 4, 2) := by decide +kernel
theorem dL_weekly_9 : decode cL_weekly 9 = .ok (.invokevirtual 62, 3) := by decide +kernel
theorem dL_weekly_12 : decode cL_weekly 12 = .ok (.i2l, 1) := by decide +kernel
theorem dL_weekly_13 : decode cL_weekly 13 = .ok (.lastore, 1) := by decide +kernel
theorem dL_weekly_14 : decode cL_weekly 14 = .ok (.goto 15, 3) := by decide +kernel
theorem dL_weekly_17 : decode cL_weekly 17 = .ok (.astore 6, 2) := by decide +kernel
theorem dL_weekly_19 : decode cL_weekly 19 = .ok (.iconst 1, 1) := by decide +kernel
theorem dL_weekly_20 : decode cL_weekly 20 = .ok (.ireturn, 1) := by decide +kernel
theorem dL_weekly_21 : decode cL_weekly 21 = .ok (.astore 6, 2) := by decide +kernel
theorem dL_weekly_23 : decode cL_weekly 23 = .ok (.iconst 2, 1) := by decide +kernel
theorem dL_weekly_24 : decode cL_weekly 24 = .ok (.ireturn, 1) := by decide +kernel
theorem dL_weekly_25 : decode cL_weekly 25 = .ok (.astore 6, 2) := by decide +kernel
theorem dL_weekly_27 : decode cL_weekly 27 = .ok (.iconst 3, 1) := by decide +kernel
theorem dL_weekly_28 : decode cL_weekly 28 = .ok (.ireturn, 1) := by decide +kernel
theorem dL_weekly_29 : decode cL_weekly 29 = .ok (.iconst 0, 1) := by decide +kernel
theorem dL_weekly_30 : decode cL_weekly 30 = .ok (.ireturn, 1) := by decide +kernel
theorem dL_once_0 : decode cL_once 0 = .ok (.aload 5, 2) := by decide +kernel
theorem dL_once_2 : decode cL_once 2 = .ok (.iconst 0, 1) := by decide +kernel
theorem dL_once_3 : decode cL_once 3 = .ok (.aload_n 0, 1) := by decide +kernel
theorem dL_once_4 : decode cL_once 4 = .ok (.iload_n 1, 1) := by decide +kernel
theorem dL_once_5 : decode cL_once 5 = .ok (.iload_n 2, 1) := by decide +kernel
theorem dL_once_6 : decode cL_once 6 = .ok (.iload_n 3, 1) := by decide +kernel
theorem dL_once_7 : decode cL_once 7 = .ok (.iload 4, 2) := by decide +kernel
theorem dL_once_9 : decode cL_once 9 = .ok (.invokevirtual 66, 3) := by decide +kernel
theorem dL_once_12 : decode cL_once 12 = .ok (.i2l, 1) := by decide +kernel
theorem dL_once_13 : decode cL_once 13 = .ok (.lastore, 1) := by decide +kernel
theorem dL_once_14 : decode cL_once 14 = .ok (.goto 15, 3) := by decide +kernel
theorem dL_once_17 : decode cL_once 17 = .ok (.astore 6, 2) := by decide +kernel
theorem dL_once_19 : decode cL_once 19 = .ok (.iconst 1, 1) := by decide +kernel
theorem dL_once_20 : decode cL_once 20 = .ok (.ireturn, 1) := by decide +kernel
theorem dL_once_21 : decode cL_once 21 = .ok (.astore 6, 2) := by decide +kernel
theorem dL_once_23 : decode cL_once 23 = .ok (.iconst 2, 1) := by decide +kernel
theorem dL_once_24 : decode cL_once 24 = .ok (.ireturn, 1) := by decide +kernel
theorem dL_once_25 : decode cL_once 25 = .ok (.astore 6, 2) := by decide +kernel
theorem dL_once_27 : decode cL_once 27 = .ok (.iconst 3, 1) := by decide +kernel
theorem dL_once_28 : decode cL_once 28 = .ok (.ireturn, 1) := by decide +kernel
theorem dL_once_29 : decode cL_once 29 = .ok (.iconst 0, 1) := by decide +kernel
theorem dL_once_30 : decode cL_once 30 = .ok (.ireturn, 1) := by decide +kernel
theorem dL_tells_0 : decode cL_tells 0 = .ok (.aload_n 3, 1) := by decide +kernel
theorem dL_tells_1 : decode cL_tells 1 = .ok (.iconst 0, 1) := by decide +kernel
theorem dL_tells_2 : decode cL_tells 2 = .ok (.aload_n 0, 1) := by decide +kernel
theorem dL_tells_3 : decode cL_tells 3 = .ok (.iload_n 1, 1) := by decide +kernel
theorem dL_tells_4 : decode cL_tells 4 = .ok (.iload_n 2, 1) := by decide +kernel
theorem dL_tells_5 : decode cL_tells 5 = .ok (.invokevirtual 69, 3) := by decide +kernel
theorem dL_tells_8 : decode cL_tells 8 = .ok (.i2l, 1) := by decide +kernel
theorem dL_tells_9 : decode cL_tells 9 = .ok (.lastore, 1) := by decide +kernel
theorem dL_tells_10 : decode cL_tells 10 = .ok (.goto 11, 3) := by decide +kernel
theorem dL_tells_13 : decode cL_tells 13 = .ok (.astore 4, 2) := by decide +kernel
theorem dL_tells_15 : decode cL_tells 15 = .ok (.iconst 1, 1) := by decide +kernel
theorem dL_tells_16 : decode cL_tells 16 = .ok (.ireturn, 1) := by decide +kernel
theorem dL_tells_17 : decode cL_tells 17 = .ok (.astore 4, 2) := by decide +kernel
theorem dL_tells_19 : decode cL_tells 19 = .ok (.iconst 2, 1) := by decide +kernel
theorem dL_tells_20 : decode cL_tells 20 = .ok (.ireturn, 1) := by decide +kernel
theorem dL_tells_21 : decode cL_tells 21 = .ok (.iconst 0, 1) := by decide +kernel
theorem dL_tells_22 : decode cL_tells 22 = .ok (.ireturn, 1) := by decide +kernel
theorem dL_pass_0 : decode cL_pass 0 = .ok (.aload_n 2, 1) := by decide +kernel
theorem dL_pass_1 : decode cL_pass 1 = .ok (.iconst 0, 1) := by decide +kernel
theorem dL_pass_2 : decode cL_pass 2 = .ok (.aload_n 0, 1) := by decide +kernel
theorem dL_pass_3 : decode cL_pass 3 = .ok (.iload_n 1, 1) := by decide +kernel
theorem dL_pass_4 : decode cL_pass 4 = .ok (.invokevirtual 72, 3) := by decide +kernel
theorem dL_pass_7 : decode cL_pass 7 = .ok (.i2l, 1) := by decide +kernel
theorem dL_pass_8 : decode cL_pass 8 = .ok (.lastore, 1) := by decide +kernel
theorem dL_pass_9 : decode cL_pass 9 = .ok (.goto 9, 3) := by decide +kernel
theorem dL_pass_12 : decode cL_pass 12 = .ok (.astore_n 3, 1) := by decide +kernel
theorem dL_pass_13 : decode cL_pass 13 = .ok (.iconst 1, 1) := by decide +kernel
theorem dL_pass_14 : decode cL_pass 14 = .ok (.ireturn, 1) := by decide +kernel
theorem dL_pass_15 : decode cL_pass 15 = .ok (.astore_n 3, 1) := by decide +kernel
theorem dL_pass_16 : decode cL_pass 16 = .ok (.iconst 2, 1) := by decide +kernel
theorem dL_pass_17 : decode cL_pass 17 = .ok (.ireturn, 1) := by decide +kernel
theorem dL_pass_18 : decode cL_pass 18 = .ok (.iconst 0, 1) := by decide +kernel
theorem dL_pass_19 : decode cL_pass 19 = .ok (.ireturn, 1) := by decide +kernel
end
section
/-! rows over a labelled world: w f k says what the cell of the label (f, k) holds, ad f k is its address; what lies under B is never touched -/
abbrev Wd : Type := Nat → Nat → Option va_E
abbrev Ad : Type := Nat → Nat → Nat
abbrev Me : Type := Nat → Nat → Nat → Int32
def u2 (w : Wd) (f k : Nat) (e : va_E) : Wd := fun a b => if a = f ∧ b = k then some e else w a b
def a2 (ad : Ad) (f k q : Nat) : Ad := fun a b => if a = f ∧ b = k then q else ad a b
def st3 (σ : Me) (a i j : Nat) (v : Int32) : Me := fun a' i' j' => if a' = a ∧ i' = i ∧ j' = j then v else σ a' i' j'
def ab (B : Nat) : Nat → Prop := fun q => B ≤ q
def hw (D : va_G) (B : Nat) (ad : Ad) (w : Wd) (H : Heap) : Prop :=
  (∀ (f k : Nat) (e : va_E), w f k = some e → va_at D vwCl (ad f k, e) H ∧ B ≤ ad f k) ∧
  (∀ (f k f' k' : Nat) (e e' : va_E), w f k = some e → w f' k' = some e' → ad f k = ad f' k' → f = f' ∧ k = k')
theorem u2_self (w : Wd) (f k : Nat) (e : va_E) : u2 w f k e f k = some e := by simp [u2]
theorem u2_f (w : Wd) {f k f' k' : Nat} (e : va_E) (h : f' ≠ f) : u2 w f k e f' k' = w f' k' := by simp [u2, h]
theorem u2_k (w : Wd) {f k f' k' : Nat} (e : va_E) (h : k' ≠ k) : u2 w f k e f' k' = w f' k' := by simp [u2, h]
theorem hw_one {D : va_G} {B : Nat} {ad : Ad} {w : Wd} {H : Heap} (h : hw D B ad w H) {f k : Nat} {e : va_E} (he : w f k = some e) : va_P D vwCl [(ad f k, e)] H := by
  intro i q hq
  match i, hq with
  | 0, hq => cases hq; exact (h.1 f k e he).1
  | i + 1, hq => simp at hq
theorem hw_two {D : va_G} {B : Nat} {ad : Ad} {w : Wd} {H : Heap} (h : hw D B ad w H) {f k f' k' : Nat} {e e' : va_E} (he : w f k = some e) (he' : w f' k' = some e') : va_P D vwCl [(ad f k, e), (ad f' k', e')] H := by
  intro i q hq
  match i, hq with
  | 0, hq => cases hq; exact (h.1 f k e he).1
  | 1, hq => cases hq; exact (h.1 f' k' e' he').1
  | i + 2, hq => simp at hq
theorem hw_put {D : va_G} {B : Nat} {ad : Ad} {w : Wd} {H H1 : Heap} (h : hw D B ad w H) {f k : Nat} {e0 e : va_E} (he : w f k = some e0) (h1 : va_at D vwCl (ad f k, e) H1) (oq : ∀ q : Nat, q ≠ ad f k → H1[q]? = H[q]?) : hw D B ad (u2 w f k e) H1 := by
  have key : ∀ (a b : Nat) (x : va_E), u2 w f k e a b = some x → (a = f ∧ b = k ∧ x = e) ∨ (¬ (a = f ∧ b = k) ∧ w a b = some x) := by
    intro a b x hx
    unfold u2 at hx
    by_cases hc : a = f ∧ b = k
    · rw [if_pos hc] at hx
      exact Or.inl ⟨hc.1, hc.2, (Option.some.inj hx).symm⟩
    · rw [if_neg hc] at hx
      exact Or.inr ⟨hc, hx⟩
  refine ⟨fun a b x hx => ?_, fun a b a' b' x x' hx hx' hq => ?_⟩
  · rcases key a b x hx with ⟨rfl, rfl, rfl⟩ | ⟨hc, hx⟩
    · exact ⟨h1, (h.1 _ _ _ he).2⟩
    · refine ⟨(h.1 _ _ _ hx).1.kept (oq _ (fun z => hc (h.2 _ _ _ _ _ _ hx he z))), (h.1 _ _ _ hx).2⟩
  · rcases key a b x hx with ⟨e1, e2, -⟩ | ⟨hc, h3⟩ <;> rcases key a' b' x' hx' with ⟨e1', e2', -⟩ | ⟨hc', h3'⟩
    · exact ⟨e1.trans e1'.symm, e2.trans e2'.symm⟩
    · rw [e1, e2] at hq ⊢
      exact h.2 _ _ _ _ _ _ he h3' hq
    · rw [e1', e2'] at hq ⊢
      exact h.2 _ _ _ _ _ _ h3 he hq
    · exact h.2 _ _ _ _ _ _ h3 h3' hq
theorem hw_new {D : va_G} {B : Nat} {ad : Ad} {w : Wd} {H H1 : Heap} (h : hw D B ad w H) {f k : Nat} {e : va_E} (h1 : va_at D vwCl (H.size, e) H1) (hB : B ≤ H.size) (oq : ∀ q : Nat, q < H.size → H1[q]? = H[q]?) (hn : w f k = none) : hw D B (a2 ad f k H.size) (u2 w f k e) H1 := by
  have key : ∀ (a b : Nat) (x : va_E), u2 w f k e a b = some x → (a = f ∧ b = k ∧ x = e ∧ a2 ad f k H.size a b = H.size) ∨ (w a b = some x ∧ a2 ad f k H.size a b = ad a b) := by
    intro a b x hx
    unfold u2 at hx
    unfold a2
    by_cases hc : a = f ∧ b = k
    · rw [if_pos hc] at hx
      rw [if_pos hc]
      exact Or.inl ⟨hc.1, hc.2, (Option.some.inj hx).symm, rfl⟩
    · rw [if_neg hc] at hx
      rw [if_neg hc]
      exact Or.inr ⟨hx, rfl⟩
  have lt : ∀ (a b : Nat) (x : va_E), w a b = some x → ad a b < H.size := fun a b x hx => (h.1 a b x hx).1.lt
  refine ⟨fun a b x hx => ?_, fun a b a' b' x x' hx hx' hq => ?_⟩
  · rcases key a b x hx with ⟨-, -, e1, e2⟩ | ⟨hx, e2⟩
    · rw [e2, e1]; exact ⟨h1, hB⟩
    · rw [e2]; exact ⟨(h.1 _ _ _ hx).1.kept (oq _ (lt _ _ _ hx)), (h.1 _ _ _ hx).2⟩
  · rcases key a b x hx with ⟨e1, e3, -, e2⟩ | ⟨hx, e2⟩ <;> rcases key a' b' x' hx' with ⟨e1', e3', -, e2'⟩ | ⟨hx', e2'⟩ <;> rw [e2, e2'] at hq
    · exact ⟨e1.trans e1'.symm, e3.trans e3'.symm⟩
    · exact absurd hq (Nat.ne_of_gt (lt _ _ _ hx'))
    · exact absurd hq (Nat.ne_of_lt (lt _ _ _ hx))
    · exact h.2 _ _ _ _ _ _ hx hx' hq
theorem hw_eq {D : va_G} {B : Nat} {ad : Ad} {w w' : Wd} {H : Heap} (h : hw D B ad w H) (e : w = w') : hw D B ad w' H := e ▸ h
theorem hw_lt {D : va_G} {B : Nat} {ad : Ad} {w : Wd} {H : Heap} (h : hw D B ad w H) {f k : Nat} {e : va_E} (he : w f k = some e) : ad f k < H.size := (h.1 f k e he).1.lt
theorem ab_put {B a i : Nat} {H0 H H1 : Heap} {locs : List Loc} (h : va_S (ab B) H0 H locs) (z : H1.size = H.size) (o : ∀ q : Nat, q ≠ a → H1[q]? = H[q]?) (ha : B ≤ a) : va_S (ab B) H0 H1 (locs ++ [⟨a, i⟩]) := h.put z o ha
theorem ab_new {B : Nat} {H0 H H1 : Heap} {locs : List Loc} (h : va_S (ab B) H0 H locs) (z : H.size ≤ H1.size) (o : ∀ q : Nat, q < H.size → H1[q]? = H[q]?) : va_S (ab B) H0 H1 locs := ⟨Nat.le_trans h.1 z, fun x h1 h2 => (o x (Nat.lt_of_lt_of_le h1 h.1)).trans (h.2.1 x h1 h2), h.2.2⟩
/-- the classes of the arrays: ints, booleans, longs, points, subscriptions, schedules -/
def tysD (D : va_G) : List (ClassId × FieldType) := [(D.1 100, .int), (D.1 101, .boolean), (D.1 102, .long), (D.1 103, .object RX1), (D.1 104, .object RX3), (D.1 105, .object RX2)]
abbrev eI (D : va_G) (n : Nat) (f : Nat → Int32) : va_E := .inl (D.1 100, n, .inl f)
abbrev eZ (D : va_G) (n : Nat) (f : Nat → Int32) : va_E := .inl (D.1 101, n, .inl f)
abbrev eL (D : va_G) (n : Nat) (f : Nat → Int64) : va_E := .inl (D.1 102, n, .inr (.inl f))
abbrev eR (D : va_G) (t n : Nat) (f : Nat → Option Nat) : va_E := .inl (D.1 t, n, .inr (.inr (.inr (.inr f))))
/-- the texts that the class's exceptions bear, by their entries -/
def strs : List (Nat × String) := [(144, "the clock would be too high"), (154, "an argument is out of range"), (162, "the point cannot have this value"), (164, "there are as many as there may be"), (175, "there is no such point"), (178, "there is no such subscription"), (180, "there is no such schedule"), (56, "a command is held at this priority"), (99, "the subscription has ended")]
def exIA : String := "java/lang/IllegalArgumentException"
def exIS : String := "java/lang/IllegalStateException"
def exIO : String := "java/lang/IndexOutOfBoundsException"
def excs : List String := [exIA, exIS, exIO]
def sups : List String := ["java/lang/RuntimeException", "java/lang/Exception", "java/lang/Throwable"]
/-- what the tables say of the texts and of the exceptions' classes -/
def cxX (U : State) : Prop := (∀ q ∈ strs, ∃ a, vk_R RX4 q.1 q.2 a U) ∧ (∀ X ∈ excs, va_Nw (.castable X X) U) ∧ (∀ X ∈ excs, ∀ Y ∈ excs, X ≠ Y → va_Nc X Y U) ∧ ∀ X ∈ sups, va_Nw (.declares (Bundle.initS X)) U
theorem cxX_warm {s U : State} (hW : s.WarmedH U.vm) (h : cxX s) : cxX U :=
  ⟨fun q hq => (h.1 q hq).imp fun a ha => ha.warm hW, fun X hX => va_Nw.warmC hW (h.2.1 X hX), fun X hX Y hY hn => (h.2.2.1 X hX Y hY hn).moved hW.alike, fun X hX => va_Nw.warmD hW (h.2.2.2 X hX)⟩
theorem cxX_same {s U : State} (hv : U.vm = s.vm) (h : cxX s) : cxX U :=
  ⟨fun q hq => (h.1 q hq).imp fun a ha => vk_R.same hv ha, fun X hX => va_Nw.same rfl hv.symm (h.2.1 X hX), fun X hX Y hY hn => (h.2.2.1 X hX Y hY hn).moved (hv ▸ Vm.Alike.refl s.vm), fun X hX => va_Nw.same rfl hv.symm (h.2.2.2 X hX)⟩
/-- what every method of the system may take as given of its start -/
def cx (D : va_G) (B : Nat) (U : State) : Prop := va_K D vwCl (tysD D) U ∧ B ≤ U.heap.size ∧ vx_Zq Bundle.tN "UNASSIGNED_STACK" Bundle.steD (ab B) U U.heap ∧ vx_Zq Bundle.tN "SUPPRESSED_SENTINEL" Bundle.listD (ab B) U U.heap ∧ cxX U
def Pre (D : va_G) (B : Nat) (ad : Ad) (w : Wd) (av : List Value) : Array Value → State → Prop := va_Pc av (fun U => cx D B U ∧ hw D B ad w U.heap)
theorem cx_to {D : va_G} {B : Nat} {s U : State} {H : Heap} {locs : List Loc} (h : cx D B s) (hS : va_S (ab B) s.heap H locs) (hU : U.heap = H) (hW : s.WarmedH U.vm) : cx D B U := by
  obtain ⟨h1, h2, h3, h4, h5⟩ := h
  have hvm := hW.alike
  have keep : ∀ a : Nat, a < s.heap.size → ¬ ab B a → U.heap[a]? = s.heap[a]? := fun a q1 q2 => by rw [hU]; exact hS.2.1 a q1 q2
  exact ⟨va_K.moved hvm h1, Nat.le_trans h2 (by rw [hU]; exact hS.1), (h3.moved hvm).kept keep, (h4.moved hvm).kept keep, cxX_warm hW h5⟩
theorem pre_blind {D : va_G} {B : Nat} {ad : Ad} {w : Wd} {av : List Value} : FrameBlind (Pre D B ad w av) := by
  intro a U g mk h
  obtain ⟨h0, ⟨h1, h2, h3, h4, h6⟩, h5⟩ := h
  have hvm : U.vm.Alike (U.calling g mk a).vm := Vm.Alike.refl U.vm
  exact ⟨h0, ⟨va_K.moved hvm h1, h2, h3.moved hvm, h4.moved hvm, cxX_same rfl h6⟩, h5⟩
theorem w_preS {D : va_G} {B : Nat} {s : State} {ad : Ad} {w : Wd} {H : Heap} {locs : List Loc} {As : List Value} (hC : cx D B s) (hP : hw D B ad w H) (hS : va_S (ab B) s.heap H locs) : PreS s H (Pre D B ad w As) As :=
  ⟨pre_blind, fun U hU hW => ⟨rfl, cx_to hC hS hU hW, by rw [hU]; exact hP⟩⟩
theorem w_preV {D : va_G} {B : Nat} {s : State} {ad : Ad} {w : Wd} {H : Heap} {locs : List Loc} {As : List Value} {f k ci : Nat} {fs : List Value} {q : vw_C} (hC : cx D B s) (hP : hw D B ad w H) (hS : va_S (ab B) s.heap H locs) (he : w f k = some (.inr (ci, fs))) (hc : vwCl[ci]? = some q) : PreV s H q.1 (ad f k) (Pre D B ad w (.ref (ad f k) :: As)) As :=
  ⟨pre_blind, va_recv hC.1 (hw_one hP he) (q0 := 0) hc rfl, fun U hU hW => ⟨rfl, cx_to hC hS hU hW, by rw [hU]; exact hP⟩⟩
/-- the ends: an int (or boolean), nothing, a reference; the world behind it -/
abbrev Qi (D : va_G) (B : Nat) (post : Int32 → Ad × Wd → Prop) : Array Value → State → Outcome → State → Prop := va_Qi post (fun u t => hw D B u.1 u.2 t.heap) (ab B)
abbrev Qv (D : va_G) (B : Nat) (post : Ad × Wd → Prop) : Array Value → State → Outcome → State → Prop := va_Qv post (fun u t => hw D B u.1 u.2 t.heap) (ab B)
abbrev Qr (D : va_G) (B : Nat) (post : Nat → Ad × Wd → Prop) : Array Value → State → Outcome → State → Prop := va_Qr (fun _ : Ad × Wd => True) (fun u a t => hw D B u.1 u.2 t.heap ∧ post a u) (ab B)
/-- the throws: which class, in which world -/
abbrev Xc (D : va_G) (B : Nat) (post : String → Ad × Wd → Prop) : String → State → State → Prop := vx_X (fun _ : Ad × Wd => True) (fun E u t => hw D B u.1 u.2 t.heap ∧ post E u) (ab B)
theorem Qi_of {D : va_G} {B : Nat} {post : Int32 → Ad × Wd → Prop} {ad : Ad} {w : Wd} {a : Array Value} {s t : State} {H : Heap} {locs : List Loc} {r : Int32} (hp : post r (ad, w)) (hP : hw D B ad w H) (hS : va_S (ab B) s.heap H locs) (ht : t.heap = H) : Qi D B post a s (.returned (some (.int r))) t :=
  ⟨⟨r, (ad, w), rfl, hp, by show hw D B ad w t.heap; rw [ht]; exact hP⟩, hS.F ht⟩
theorem Qv_of {D : va_G} {B : Nat} {post : Ad × Wd → Prop} {ad : Ad} {w : Wd} {a : Array Value} {s t : State} {H : Heap} {locs : List Loc} (hp : post (ad, w)) (hP : hw D B ad w H) (hS : va_S (ab B) s.heap H locs) (ht : t.heap = H) : Qv D B post a s (.returned none) t :=
  ⟨⟨(ad, w), rfl, hp, by show hw D B ad w t.heap; rw [ht]; exact hP⟩, hS.F ht⟩
theorem Qr_of {D : va_G} {B : Nat} {post : Nat → Ad × Wd → Prop} {ad : Ad} {w : Wd} {a : Array Value} {s t : State} {H : Heap} {locs : List Loc} {r : Nat} (hp : post r (ad, w)) (hP : hw D B ad w H) (hS : va_S (ab B) s.heap H locs) (ht : t.heap = H) : Qr D B post a s (.returned (some (.ref r))) t :=
  ⟨⟨(ad, w), r, rfl, trivial, (by show hw D B ad w t.heap; rw [ht]; exact hP), hp⟩, hS.F ht⟩
theorem Xc_of {D : va_G} {B : Nat} {post : String → Ad × Wd → Prop} {ad : Ad} {w : Wd} {s t : State} {H : Heap} {locs : List Loc} {E : String} (hp : post E (ad, w)) (hP : hw D B ad w t.heap) (hS : va_S (ab B) s.heap H locs) (hz : H.size ≤ t.heap.size) (hk : ∀ q : Nat, q < H.size → t.heap[q]? = H[q]?) : Xc D B post E s t :=
  ⟨(ad, w), trivial, ⟨hP, hp⟩, Nat.le_trans hS.1 hz, fun q h1 h2 => (hk q (Nat.lt_of_lt_of_le h1 hS.1)).trans (hS.2.1 q h1 h2)⟩
theorem hw_kept {D : va_G} {B : Nat} {ad : Ad} {w : Wd} {H H1 : Heap} (h : hw D B ad w H) (hk : ∀ q : Nat, q < H.size → H1[q]? = H[q]?) : hw D B ad w H1 :=
  ⟨fun f k e he => ⟨(h.1 f k e he).1.kept (hk _ (hw_lt h he)), (h.1 f k e he).2⟩, h.2⟩
section WR
variable {p : Program} {l : Launch} {e : Env} {R : Room} {s : State} {m : MethodId} {args : Array Value} {below : List Frame} {meth : Method} {c : Code} {H : Heap} {locs : List Loc} {cells slots : Nat} {Q : State → Prop}
variable {cc : ByteArray} {pc : Nat} {ls : Array Slot} {rest : List Value} {D : va_G} {B : Nat} {ad : Ad} {w : Wd} {H0 : Heap}
theorem w_get (hexec : p.tables.exec = Jvm.exec) (hb : c.code = cc) {own C : String} {T : u_T} {N ci index : Nat} {Ts : List Cond} (hts : ∀ w ∈ Ts, w.before args s = true) (hin : ∀ w ∈ u_ws C T N, w ∈ Ts) (hown : s.vm.findClass own = some m.cls)
    (hC : cx D B s) (hP : hw D B ad w H) {f k : Nat} {fs : List Value} (he : w f k = some (.inr (ci, fs))) (hc : vwCl[ci]? = some (C, T, N)) (j : Nat) (hj : j < N) (hlink : (Cond.fieldLink own index (T j).1 (T j).2.1 (T j).2.2.1).before args s = true)
    {v : Value} (hv : fs[j]? = some v) (hdg : decode cc pc = .ok (.getfield index, 3)) (kk : W p l e R s m args below meth c H locs cells slots Q (F0 m (pc + 3) ls (v :: rest))) : W p l e R s m args below meth c H locs cells slots Q (F0 m pc ls (.ref (ad f k) :: rest)) :=
  va_get hexec hb hts hin hown hC.1 (hw_one hP he) 0 rfl hc j hj hlink (fun _ h => h) hv hdg kk
theorem w_put (hexec : p.tables.exec = Jvm.exec) (hb : c.code = cc) {own C : String} {T : u_T} {N ci index : Nat} {Ts : List Cond} (hts : ∀ w ∈ Ts, w.before args s = true) (hin : ∀ w ∈ u_ws C T N, w ∈ Ts) (ty0 : Nat → FieldType) (hty : ∀ k, k < N → parseFieldDescriptor (T k).2.2.1 = some (ty0 k)) (hnm : ∀ a, a < N → ∀ b, b < N → a ≠ b → (T a).2.1 ≠ (T b).2.1) (hown : s.vm.findClass own = some m.cls)
    (hC : cx D B s) (hP : hw D B ad w H) (hS : va_S (ab B) H0 H locs) {f k : Nat} {fs : List Value} (he : w f k = some (.inr (ci, fs))) (hc : vwCl[ci]? = some (C, T, N)) (j : Nat) (hj : j < N) (hlink : (Cond.fieldLink own index (T j).1 (T j).2.1 (T j).2.2.1).before args s = true) (hfin : (T j).2.2.2 = false)
    {v : Value} (hn : narrow (ty0 j) v = v) (hfit : fits (ty0 j) v = true) (hl : j < fs.length) {fs' : List Value} (hf : fs.set j v = fs') (hdg : decode cc pc = .ok (.putfield index, 3))
    (kk : ∀ (H1 : Heap) (locs1 : List Loc), hw D B ad (u2 w f k (.inr (ci, fs'))) H1 → va_S (ab B) H0 H1 locs1 → W p l e R s m args below meth c H1 locs1 cells slots Q (F0 m (pc + 3) ls rest)) : W p l e R s m args below meth c H locs cells slots Q (F0 m pc ls (v :: .ref (ad f k) :: rest)) := by
  subst hf
  have hK := hC.1
  have hap := va_apart (own := own) hts hin ty0 hty hnm hK hc
  obtain ⟨⟨r, h1, cell, q1, q2, q3, q4⟩, hBa⟩ := hP.1 f k _ he
  have hr : r = (C, T, N) := Option.some.inj (h1.symm.trans hc)
  subst hr
  obtain ⟨hSl, hfc, kC, hkC, hkind⟩ := hK.1 ci _ hc
  obtain ⟨cf, kf, fi, fd, hi, hsl⟩ := hSl j hj
  have hlay := hts _ (hin _ (u_in_lay hj))
  unfold u_lay at hlay
  rw [if_neg (by rw [hfin]; decide)] at hlay
  have hst := (u_facts hfc hkC (u_lays hts hin hj) hi).1
  have h6 := u_store hfc hkC hkind hlay hi (hty j hj) hn hfit
  refine W.putK hexec hb (f := fd) ⟨hown, hlink, ⟨_, _, _, hi⟩, hst⟩ (by rw [q2]; exact h6) q1 q3 (by rw [hsl]; exact k2_hasslot (q4 j hj)) rfl rfl hdg fun H' e1 e2 e3 => ?_
  rw [hsl] at e1 ⊢
  exact kk H' _ (hw_put hP he ⟨_, hc, t_OB.to (V := updV (vp_V fs) j v) ⟨_, e1, q2, q3, t_set q4 hap hj v⟩ (fun i _ => vp_updV_set hl v i)⟩ e3) (ab_put hS e2 e3 hBa)
theorem w_putF (hexec : p.tables.exec = Jvm.exec) (hb : c.code = cc) {own C : String} {T : u_T} {N ci index : Nat} {Ts : List Cond} (hts : ∀ w ∈ Ts, w.before args s = true) (hin : ∀ w ∈ u_ws C T N, w ∈ Ts) (ty0 : Nat → FieldType) (hty : ∀ k, k < N → parseFieldDescriptor (T k).2.2.1 = some (ty0 k)) (hnm : ∀ a, a < N → ∀ b, b < N → a ≠ b → (T a).2.1 ≠ (T b).2.1) (hown : s.vm.findClass own = some m.cls)
    (hC : cx D B s) (hP : hw D B ad w H) (hS : va_S (ab B) H0 H locs) {f k : Nat} {fs : List Value} (he : w f k = some (.inr (ci, fs))) (hc : vwCl[ci]? = some (C, T, N)) (j : Nat) (hj : j < N) (hlink : (Cond.fieldLink own index (T j).1 (T j).2.1 (T j).2.2.1).before args s = true) (hfin : (T j).2.2.2 = true) (hin2 : meth.name = "<init>") (hdecl : (T j).1 = own)
    {v : Value} (hn : narrow (ty0 j) v = v) (hfit : fits (ty0 j) v = true) (hl : j < fs.length) {fs' : List Value} (hf : fs.set j v = fs') (hdg : decode cc pc = .ok (.putfield index, 3))
    (kk : ∀ (H1 : Heap) (locs1 : List Loc), hw D B ad (u2 w f k (.inr (ci, fs'))) H1 → va_S (ab B) H0 H1 locs1 → W p l e R s m args below meth c H1 locs1 cells slots Q (F0 m (pc + 3) ls rest)) : W p l e R s m args below meth c H locs cells slots Q (F0 m pc ls (v :: .ref (ad f k) :: rest)) := by
  subst hf
  have hK := hC.1
  have hap := va_apart (own := own) hts hin ty0 hty hnm hK hc
  obtain ⟨⟨r, h1, cell, q1, q2, q3, q4⟩, hBa⟩ := hP.1 f k _ he
  have hr : r = (C, T, N) := Option.some.inj (h1.symm.trans hc)
  subst hr
  obtain ⟨hSl, hfc, kC, hkC, hkind⟩ := hK.1 ci _ hc
  obtain ⟨cf, kf, fi, fd, hi, hsl⟩ := hSl j hj
  have hlay := hts _ (hin _ (u_in_lay hj))
  unfold u_lay at hlay
  rw [if_pos hfin] at hlay
  have hst := (u_facts hfc hkC (u_lays hts hin hj) hi).1
  have hcf : m.cls = cf := by
    obtain ⟨_, _, c', _, _, _, -, -, hf', -, -, -, hown2, -⟩ := Cond.laysFinal_spec hlay
    have e1 : c' = cf := by have := hi.symm.trans hf'; simp at this; exact this.1.symm
    rw [hdecl] at hown2
    rw [← e1]; exact Option.some.inj (hown.symm.trans hown2)
  have h6 := u_fits hfc hkC hkind (Or.inr hlay) hi (hty j hj) hn hfit
  refine W.putFinK hexec hb hown hlink hi hst hcf hin2 (by rw [q2]; exact h6) q1 q3 (by rw [hsl]; exact k2_hasslot (q4 j hj)) rfl rfl hdg fun H' e1 e2 e3 => ?_
  rw [hsl] at e1 ⊢
  exact kk H' _ (hw_put hP he ⟨_, hc, t_OB.to (V := updV (vp_V fs) j v) ⟨_, e1, q2, q3, t_set q4 hap hj v⟩ (fun i _ => vp_updV_set hl v i)⟩ e3) (ab_put hS e2 e3 hBa)
theorem w_iald (hexec : p.tables.exec = Jvm.exec) (hb : c.code = cc) (hC : cx D B s) (hP : hw D B ad w H) {a k n : Nat} {f : Nat → Int32} (he : w a k = some (eI D n f)) {i : Int32} (hin : vp_in i n) (hdg : decode cc pc = .ok (.iaload, 1))
    (kk : W p l e R s m args below meth c H locs cells slots Q (F0 m (pc + 1) ls (.int (f i.toNatClampNeg) :: rest))) : W p l e R s m args below meth c H locs cells slots Q (F0 m pc ls (.int i :: .ref (ad a k) :: rest)) :=
  va_iald hexec hb hC.1 (hw_one hP he) 0 0 rfl rfl hin hdg kk
theorem w_zald (hexec : p.tables.exec = Jvm.exec) (hb : c.code = cc) (hC : cx D B s) (hP : hw D B ad w H) {a k n : Nat} {f : Nat → Int32} (he : w a k = some (eZ D n f)) {i : Int32} (hin : vp_in i n) (hdg : decode cc pc = .ok (.baload, 1))
    (kk : W p l e R s m args below meth c H locs cells slots Q (F0 m (pc + 1) ls (.int (f i.toNatClampNeg) :: rest))) : W p l e R s m args below meth c H locs cells slots Q (F0 m pc ls (.int i :: .ref (ad a k) :: rest)) :=
  va_zald hexec hb hC.1 (hw_one hP he) 0 1 rfl rfl hin hdg kk
theorem w_lald (hexec : p.tables.exec = Jvm.exec) (hb : c.code = cc) (hC : cx D B s) (hP : hw D B ad w H) {a k n : Nat} {f : Nat → Int64} (he : w a k = some (eL D n f)) {i : Int32} (hin : vp_in i n) (hdg : decode cc pc = .ok (.laload, 1))
    (kk : W p l e R s m args below meth c H locs cells slots Q (F0 m (pc + 1) ls (.long (f i.toNatClampNeg) :: rest))) : W p l e R s m args below meth c H locs cells slots Q (F0 m pc ls (.int i :: .ref (ad a k) :: rest)) :=
  va_lald hexec hb hC.1 (hw_one hP he) 0 2 rfl rfl hin hdg kk
theorem w_aald (hexec : p.tables.exec = Jvm.exec) (hb : c.code = cc) (hC : cx D B s) (hP : hw D B ad w H) (t : Nat) {C : String} (ht : (tysD D)[t]? = some (D.1 (100 + t), .object C)) {a k n : Nat} {f : Nat → Option Nat} (he : w a k = some (eR D (100 + t) n f)) {i : Int32} (hin : vp_in i n) (hdg : decode cc pc = .ok (.aaload, 1)) {r : Value} (hr : va_rf (f i.toNatClampNeg) = r)
    (kk : W p l e R s m args below meth c H locs cells slots Q (F0 m (pc + 1) ls (r :: rest))) : W p l e R s m args below meth c H locs cells slots Q (F0 m pc ls (.int i :: .ref (ad a k) :: rest)) := by
  subst hr
  exact va_aldq hexec hb hC.1 (hw_one hP he) 0 t rfl ht hin hdg kk
theorem w_alen (hexec : p.tables.exec = Jvm.exec) (hb : c.code = cc) (hC : cx D B s) (hP : hw D B ad w H) (t : Nat) {ty : FieldType} (ht : (tysD D)[t]? = some (D.1 (100 + t), ty)) {a k : Nat} {x : vp_A} (he : w a k = some (.inl (D.1 (100 + t), x))) {v : Int32} (hv : Int32.ofNat x.1 = v) (hdg : decode cc pc = .ok (.arraylength, 1))
    (kk : W p l e R s m args below meth c H locs cells slots Q (F0 m (pc + 1) ls (.int v :: rest))) : W p l e R s m args below meth c H locs cells slots Q (F0 m pc ls (.ref (ad a k) :: rest)) :=
  va_alen hexec hb hC.1 (hw_one hP he) 0 t rfl ht hv hdg kk
theorem w_iast (hexec : p.tables.exec = Jvm.exec) (hb : c.code = cc) (hC : cx D B s) (hP : hw D B ad w H) (hS : va_S (ab B) H0 H locs) {a k n : Nat} {f : Nat → Int32} (he : w a k = some (eI D n f)) {i x : Int32} (hin : vp_in i n) (hdg : decode cc pc = .ok (.iastore, 1))
    (kk : ∀ (H1 : Heap) (locs1 : List Loc), hw D B ad (u2 w a k (eI D n (upd f i.toNatClampNeg x))) H1 → va_S (ab B) H0 H1 locs1 → W p l e R s m args below meth c H1 locs1 cells slots Q (F0 m (pc + 1) ls rest)) : W p l e R s m args below meth c H locs cells slots Q (F0 m pc ls (.int x :: .int i :: .ref (ad a k) :: rest)) := by
  obtain ⟨hat, hBa⟩ := hP.1 a k _ he
  refine W.iast hexec hb hat ((hC.1.2 0 _ rfl).1 n (fun j => .int (f j))) (fun q => by cases q) (by show ¬ (i < 0 ∨ (arrV _ _ _).slots.size ≤ _); rw [arrV_size]; exact hin) rfl rfl hdg fun H1 e1 z oq => ?_
  refine kk H1 _ (hw_put hP he ?_ oq) (ab_put hS z oq hBa)
  show H1[ad a k]? = some (vp_cell _ _)
  rw [e1, vp_cell_i, vp_cell_i, arrV_store]
  congr 2
  funext q
  by_cases hq : q = i.toNatClampNeg
  · subst hq; simp [updV, upd]
  · simp [updV, upd, hq]
theorem w_zast (hexec : p.tables.exec = Jvm.exec) (hb : c.code = cc) (hC : cx D B s) (hP : hw D B ad w H) (hS : va_S (ab B) H0 H locs) {a k n : Nat} {f : Nat → Int32} (he : w a k = some (eZ D n f)) {i x : Int32} (hin : vp_in i n) (hx01 : x = 0 ∨ x = 1) (hdg : decode cc pc = .ok (.bastore, 1))
    (kk : ∀ (H1 : Heap) (locs1 : List Loc), hw D B ad (u2 w a k (eZ D n (upd f i.toNatClampNeg x))) H1 → va_S (ab B) H0 H1 locs1 → W p l e R s m args below meth c H1 locs1 cells slots Q (F0 m (pc + 1) ls rest)) : W p l e R s m args below meth c H locs cells slots Q (F0 m pc ls (.int x :: .int i :: .ref (ad a k) :: rest)) := by
  obtain ⟨hat, hBa⟩ := hP.1 a k _ he
  have hnar : narrow .boolean (.int x) = .int x := by rcases hx01 with rfl | rfl <;> rfl
  refine W.zast hexec hb hat ((hC.1.2 1 _ rfl).1 n (fun j => .int (f j))) (fun q => by cases q) (by show ¬ (i < 0 ∨ (arrV _ _ _).slots.size ≤ _); rw [arrV_size]; exact hin) rfl rfl hdg fun H1 e1 z oq => ?_
  refine kk H1 _ (hw_put hP he ?_ oq) (ab_put hS z oq hBa)
  show H1[ad a k]? = some (vp_cell _ _)
  rw [e1, hnar, vp_cell_i, vp_cell_i, arrV_store]
  congr 2
  funext q
  by_cases hq : q = i.toNatClampNeg
  · subst hq; simp [updV, upd]
  · simp [updV, upd, hq]
theorem w_last (hexec : p.tables.exec = Jvm.exec) (hb : c.code = cc) (hC : cx D B s) (hP : hw D B ad w H) (hS : va_S (ab B) H0 H locs) {a k n : Nat} {f : Nat → Int64} (he : w a k = some (eL D n f)) {i : Int32} {x : Int64} (hin : vp_in i n) (hdg : decode cc pc = .ok (.lastore, 1))
    (kk : ∀ (H1 : Heap) (locs1 : List Loc), hw D B ad (u2 w a k (eL D n (vp_updL f i.toNatClampNeg x))) H1 → va_S (ab B) H0 H1 locs1 → W p l e R s m args below meth c H1 locs1 cells slots Q (F0 m (pc + 1) ls rest)) : W p l e R s m args below meth c H locs cells slots Q (F0 m pc ls (.long x :: .int i :: .ref (ad a k) :: rest)) := by
  obtain ⟨hat, hBa⟩ := hP.1 a k _ he
  refine W.last hexec hb hat ((hC.1.2 2 _ rfl).1 n (fun j => .long (f j))) (fun q => by cases q) (by show ¬ (i < 0 ∨ (arrV _ _ _).slots.size ≤ _); rw [arrV_size]; exact hin) rfl rfl hdg fun H1 e1 z oq => ?_
  refine kk H1 _ (hw_put hP he ?_ oq) (ab_put hS z oq hBa)
  show H1[ad a k]? = some (vp_cell _ _)
  rw [e1, vp_cell_l, vp_cell_l, arrV_store]
  congr 2
  funext q
  by_cases hq : q = i.toNatClampNeg
  · subst hq; simp [updV, vp_updL]
  · simp [updV, vp_updL, hq]
theorem w_aast (hexec : p.tables.exec = Jvm.exec) (hb : c.code = cc) (hC : cx D B s) (hP : hw D B ad w H) (hS : va_S (ab B) H0 H locs) (t ci : Nat) {r : vw_C} (ht : (tysD D)[t]? = some (D.1 (100 + t), .object r.1)) (hc : vwCl[ci]? = some r) {a k n f' k' : Nat} {f : Nat → Option Nat} {vs : List Value} (he : w a k = some (eR D (100 + t) n f)) (hv : w f' k' = some (.inr (ci, vs))) {i : Int32} (hin : vp_in i n) (hdg : decode cc pc = .ok (.aastore, 1))
    (kk : ∀ (H1 : Heap) (locs1 : List Loc), hw D B ad (u2 w a k (eR D (100 + t) n (va_up f i.toNatClampNeg (some (ad f' k'))))) H1 → va_S (ab B) H0 H1 locs1 → W p l e R s m args below meth c H1 locs1 cells slots Q (F0 m (pc + 1) ls rest)) : W p l e R s m args below meth c H locs cells slots Q (F0 m pc ls (.ref (ad f' k') :: .int i :: .ref (ad a k) :: rest)) := by
  obtain ⟨hat, hBa⟩ := hP.1 a k _ he
  have hlt : i.toNatClampNeg < n := Nat.not_le.mp fun q => hin (Or.inr q)
  have h0 : ¬ i < 0 := fun q => hin (Or.inl q)
  obtain ⟨⟨r', hr', cellV, g1, g2, g3, -⟩, -⟩ := hP.1 f' k' _ hv
  have hcls := (hC.1.1 ci r hc).2
  obtain ⟨kA, comp, k1, k2, k3, -⟩ := (hC.1.2 t _ ht).2
  have hcomp : comp = D.1 ci := Option.some.inj (k3.symm.trans hcls.1)
  subst hcomp
  obtain ⟨kC, hkC, -⟩ := hcls.2
  refine W.aast hexec hb hat (fun q h => by cases h) (fun h => by cases h) k1 k2 rfl hkC ⟨h0, by show _ < (arrV _ _ _).slots.size; rw [arrV_size]; exact hlt⟩ g1 (fun q h => by rw [g3] at h; cases h) (by rw [g2]; exact hkC) (by rw [g2]; exact va_assign hcls) rfl rfl hdg fun H1 e1 z oq => ?_
  refine kk H1 _ (hw_put hP he ?_ oq) (ab_put hS z oq hBa)
  show H1[ad a k]? = some (vp_cell _ _)
  rw [e1, vp_cell_q, vp_cell_q, arrV_store]
  congr 2
  funext q
  by_cases hq : q = i.toNatClampNeg
  · subst hq; simp [updV, va_up, va_rf]
  · simp [updV, va_up, hq]
theorem w_new (hexec : p.tables.exec = Jvm.exec) (hb : c.code = cc) {own C : String} {T : u_T} {N ci index : Nat} {Ts : List Cond} (hts : ∀ w ∈ Ts, w.before args s = true) (hin : ∀ w ∈ u_ws C T N, w ∈ Ts) (ty : Nat → FieldType) (hty : ∀ k, k < N → parseFieldDescriptor (T k).2.2.1 = some (ty k)) (hown : s.vm.findClass own = some m.cls) (hcl : (Cond.classLink own index C).before args s = true) (hinst : (Cond.instantiable C N).before args s = true) (hini : (Cond.initialized C).before args s = true)
    (hC : cx D B s) (hP : hw D B ad w H) (hS : va_S (ab B) s.heap H locs) (hc : vwCl[ci]? = some (C, T, N)) {fs : List Value} (hfs : ∀ j, j < N → defaultValue (ty j) = vp_V fs j) (hcells : cells + 1 ≤ R.cells) (hslots : slots + N ≤ R.slots) (f k : Nat) (hn : w f k = none) (hdg : decode cc pc = .ok (.new index, 3))
    (kk : ∀ (q : Nat) (H1 : Heap), a2 ad f k q f k = q → hw D B (a2 ad f k q) (u2 w f k (.inr (ci, fs))) H1 → va_S (ab B) s.heap H1 locs → W p l e R s m args below meth c H1 locs (cells + 1) (slots + N) Q (F0 m (pc + 3) ls (.ref q :: rest))) : W p l e R s m args below meth c H locs cells slots Q (F0 m pc ls rest) := by
  have hKn := hC.1.1 ci _ hc
  refine W.newcK hexec hb hown hcl hinst hini rfl hdg hcells hslots hKn.2.1 rfl fun H1 kC hkC e1 z1 o1 => ?_
  refine kk H.size H1 (by simp [a2]) (hw_new hP ⟨_, hc, (u_born ty hts hin hKn hkC e1 hty).to hfs⟩ (Nat.le_trans hC.2.1 hS.1) o1 hn) (ab_new hS (by omega) o1)
theorem w_newa (hexec : p.tables.exec = Jvm.exec) (hb : c.code = cc) {atype : ArrayType} (harr : (Cond.arrayClass (newarray.typeOf atype)).before args s = true) (t : Nat) (ht : (tysD D)[t]? = some (D.1 (100 + t), newarray.typeOf atype)) (hre : ∀ C, newarray.typeOf atype ≠ .object C) (hC : cx D B s) (hP : hw D B ad w H) (hS : va_S (ab B) s.heap H locs)
    {n : Int32} {N' : Nat} {a0 : vp_A} (ha : ∀ cA : ClassId, vp_cell cA a0 = arrV cA N' (fun _ => defaultValue (newarray.typeOf atype))) (hn : ¬ n < 0) (hN : n.toNatClampNeg = N') (hbytes : N' * componentBytes (newarray.typeOf atype) ≤ 536870912) (hcells : cells + 1 ≤ R.cells) (hslots : slots + N' ≤ R.slots) (f k : Nat) (hno : w f k = none) (hdg : decode cc pc = .ok (.newarray atype, 2))
    (kk : ∀ (q : Nat) (H1 : Heap), a2 ad f k q f k = q → hw D B (a2 ad f k q) (u2 w f k (.inl (D.1 (100 + t), a0))) H1 → va_S (ab B) s.heap H1 locs → W p l e R s m args below meth c H1 locs (cells + 1) (slots + N') Q (F0 m (pc + 2) ls (.ref q :: rest))) : W p l e R s m args below meth c H locs cells slots Q (F0 m pc ls (.int n :: rest)) := by
  refine va_newaK hexec hb harr rfl hdg rfl hn hN hbytes hcells hslots rfl fun H1 cA e1 z1 o1 hAr hNm => ?_
  have hcA : cA = D.1 (100 + t) := by
    have h2 := (hC.1.2 t _ ht).2
    cases atype <;> exact Option.some.inj (hNm.symm.trans h2)
  subst hcA
  refine kk H.size H1 (by simp [a2]) (hw_new hP ?_ (Nat.le_trans hC.2.1 hS.1) o1 hno) (ab_new hS (by omega) o1)
  show H1[H.size]? = some (vp_cell _ _)
  rw [ha]
  exact e1
theorem w_newq (hexec : p.tables.exec = Jvm.exec) (hb : c.code = cc) {own C : String} {index : Nat} (hown : s.vm.findClass own = some m.cls) (hclink : (Cond.classLink own index C).before args s = true) (hover : (Cond.arrayOver (.object C)).before args s = true) (t : Nat) (ht : (tysD D)[t]? = some (D.1 (100 + t), .object C)) (hC : cx D B s) (hP : hw D B ad w H) (hS : va_S (ab B) s.heap H locs)
    {n : Int32} {N' : Nat} (hn : ¬ n < 0) (hN : n.toNatClampNeg = N') (hbytes : N' * 4 ≤ 536870912) (hcells : cells + 1 ≤ R.cells) (hslots : slots + N' ≤ R.slots) (f k : Nat) (hno : w f k = none) (hdg : decode cc pc = .ok (.anewarray index, 3))
    (kk : ∀ (q : Nat) (H1 : Heap), a2 ad f k q f k = q → hw D B (a2 ad f k q) (u2 w f k (eR D (100 + t) N' (fun _ => none))) H1 → va_S (ab B) s.heap H1 locs → W p l e R s m args below meth c H1 locs (cells + 1) (slots + N') Q (F0 m (pc + 3) ls (.ref q :: rest))) : W p l e R s m args below meth c H locs cells slots Q (F0 m pc ls (.int n :: rest)) := by
  subst hN
  refine W.anew hexec hb hown hclink hover rfl hdg rfl hn hbytes hcells hslots fun cA kA comp f1 f2 f3 f4 => ?_
  have hcA : cA = D.1 (100 + t) := by
    obtain ⟨kA', comp', -, -, -, h2⟩ := (hC.1.2 t _ ht).2
    exact Option.some.inj (f1.symm.trans h2)
  subst hcA
  generalize hH1 : H.push ({ cls := D.1 (100 + t), slots := Array.replicate n.toNatClampNeg .null, vm := .none } : Cell) = H1
  have z1 : H1.size = H.size + 1 := by rw [← hH1, Array.size_push]
  have e1 : H1[H.size]? = some (arrV (D.1 (100 + t)) n.toNatClampNeg (fun _ => .null)) := by rw [← hH1, Array.getElem?_push_size, ← arrV_new]
  have o1 : ∀ q : Nat, q < H.size → H1[q]? = H[q]? := fun q hq => by rw [← hH1, Array.getElem?_push, if_neg (Nat.ne_of_lt hq)]
  refine kk H.size H1 (by simp [a2]) (hw_new hP ?_ (Nat.le_trans hC.2.1 hS.1) o1 hno) (ab_new hS (by omega) o1)
  show H1[H.size]? = some (vp_cell _ _)
  rw [vp_cell_q]
  exact e1
theorem w_calli {post : Int32 → Ad × Wd → Prop} {st0 : List Value} {a : Array Value} {mc ms : Nat} (hr : va_Run p l e R s m args below meth c H locs cells slots mc ms (F0 m pc ls st0) rest (Qi D B post a) (ab B)) (hS : va_S (ab B) H0 H locs)
    (kk : ∀ (r : Int32) (ad1 : Ad) (w1 : Wd) (H1 : Heap) (locs1 : List Loc), post r (ad1, w1) → hw D B ad1 w1 H1 → va_S (ab B) H0 H1 locs1 → W p l e R s m args below meth c H1 locs1 (cells + mc) (slots + ms) Q (F0 m (pc + 3) ls (.int r :: rest))) : W p l e R s m args below meth c H locs cells slots Q (F0 m pc ls st0) :=
  va_calli hr hS (fun _ _ h => h) (fun _ h => h) (fun r u t H1 locs1 ht _ hp hB _ _ hS1 => kk r u.1 u.2 H1 locs1 hp (ht ▸ hB) hS1)
theorem w_callv {post : Ad × Wd → Prop} {st0 : List Value} {a : Array Value} {mc ms : Nat} (hr : va_Run p l e R s m args below meth c H locs cells slots mc ms (F0 m pc ls st0) rest (Qv D B post a) (ab B)) (hS : va_S (ab B) H0 H locs)
    (kk : ∀ (ad1 : Ad) (w1 : Wd) (H1 : Heap) (locs1 : List Loc), post (ad1, w1) → hw D B ad1 w1 H1 → va_S (ab B) H0 H1 locs1 → W p l e R s m args below meth c H1 locs1 (cells + mc) (slots + ms) Q (F0 m (pc + 3) ls rest)) : W p l e R s m args below meth c H locs cells slots Q (F0 m pc ls st0) :=
  va_callv hr hS (fun _ _ h => h) (fun _ h => h) (fun u t H1 locs1 ht _ hp hB _ _ hS1 => kk u.1 u.2 H1 locs1 hp (ht ▸ hB) hS1)
theorem w_callr {post : Nat → Ad × Wd → Prop} {st0 : List Value} {a : Array Value} {mc ms : Nat} (hr : va_Run p l e R s m args below meth c H locs cells slots mc ms (F0 m pc ls st0) rest (Qr D B post a) (ab B)) (hS : va_S (ab B) H0 H locs)
    (kk : ∀ (r : Nat) (ad1 : Ad) (w1 : Wd) (H1 : Heap) (locs1 : List Loc), post r (ad1, w1) → hw D B ad1 w1 H1 → va_S (ab B) H0 H1 locs1 → W p l e R s m args below meth c H1 locs1 (cells + mc) (slots + ms) Q (F0 m (pc + 3) ls (.ref r :: rest))) : W p l e R s m args below meth c H locs cells slots Q (F0 m pc ls st0) :=
  va_callr hr hS (fun _ _ h => h) (fun _ h => h) (fun u r t H1 locs1 ht _ _ hB _ _ hS1 => kk r u.1 u.2 H1 locs1 hB.2 (ht ▸ hB.1) hS1)
/-- calls that may throw: behind a throw, the world that it leaves -/
theorem y_calli {post : Int32 → Ad × Wd → Prop} {px : String → Ad × Wd → Prop} {st0 : List Value} {a : Array Value} {mc ms : Nat} (hr : vx_Run p l e R s m args below meth c H locs cells slots mc ms (F0 m pc ls st0) rest (Qi D B post a) (Xc D B px) (ab B)) (hS : va_S (ab B) H0 H locs)
    (kx : ∀ (E : String) (ce : Cell) (q9 : Addr) (ad1 : Ad) (w1 : Wd) (H1 : Heap) (locs1 : List Loc), px E (ad1, w1) → hw D B ad1 w1 H1 → va_S (ab B) H0 H1 locs1 → H1[q9]? = some ce → ce.vm = .none → s.vm.findClass E = some ce.cls → vx_W p l e R s m args below meth c H1 locs1 (cells + mc) (slots + ms) Q (F0 m pc ls rest) q9)
    (kk : ∀ (r : Int32) (ad1 : Ad) (w1 : Wd) (H1 : Heap) (locs1 : List Loc), post r (ad1, w1) → hw D B ad1 w1 H1 → va_S (ab B) H0 H1 locs1 → W p l e R s m args below meth c H1 locs1 (cells + mc) (slots + ms) Q (F0 m (pc + 3) ls (.int r :: rest))) : W p l e R s m args below meth c H locs cells slots Q (F0 m pc ls st0) :=
  vx_calli hr hS (fun _ _ h => h) (fun _ h => h) (fun _ _ h => h) (fun E ce q9 u t H1 locs1 ht _ _ hB _ _ hS1 h1 h2 h3 => kx E ce q9 u.1 u.2 H1 locs1 hB.2 (ht ▸ hB.1) hS1 h1 h2 h3) (fun r u t H1 locs1 ht _ hp hB _ _ hS1 => kk r u.1 u.2 H1 locs1 hp (ht ▸ hB) hS1)
theorem y_callv {post : Ad × Wd → Prop} {px : String → Ad × Wd → Prop} {st0 : List Value} {a : Array Value} {mc ms : Nat} (hr : vx_Run p l e R s m args below meth c H locs cells slots mc ms (F0 m pc ls st0) rest (Qv D B post a) (Xc D B px) (ab B)) (hS : va_S (ab B) H0 H locs)
    (kx : ∀ (E : String) (ce : Cell) (q9 : Addr) (ad1 : Ad) (w1 : Wd) (H1 : Heap) (locs1 : List Loc), px E (ad1, w1) → hw D B ad1 w1 H1 → va_S (ab B) H0 H1 locs1 → H1[q9]? = some ce → ce.vm = .none → s.vm.findClass E = some ce.cls → vx_W p l e R s m args below meth c H1 locs1 (cells + mc) (slots + ms) Q (F0 m pc ls rest) q9)
    (kk : ∀ (ad1 : Ad) (w1 : Wd) (H1 : Heap) (locs1 : List Loc), post (ad1, w1) → hw D B ad1 w1 H1 → va_S (ab B) H0 H1 locs1 → W p l e R s m args below meth c H1 locs1 (cells + mc) (slots + ms) Q (F0 m (pc + 3) ls rest)) : W p l e R s m args below meth c H locs cells slots Q (F0 m pc ls st0) :=
  vx_callv hr hS (fun _ _ h => h) (fun _ h => h) (fun _ _ h => h) (fun E ce q9 u t H1 locs1 ht _ _ hB _ _ hS1 h1 h2 h3 => kx E ce q9 u.1 u.2 H1 locs1 hB.2 (ht ▸ hB.1) hS1 h1 h2 h3) (fun u t H1 locs1 ht _ hp hB _ _ hS1 => kk u.1 u.2 H1 locs1 hp (ht ▸ hB) hS1)
theorem y_callr {post : Nat → Ad × Wd → Prop} {px : String → Ad × Wd → Prop} {st0 : List Value} {a : Array Value} {mc ms : Nat} (hr : vx_Run p l e R s m args below meth c H locs cells slots mc ms (F0 m pc ls st0) rest (Qr D B post a) (Xc D B px) (ab B)) (hS : va_S (ab B) H0 H locs)
    (kx : ∀ (E : String) (ce : Cell) (q9 : Addr) (ad1 : Ad) (w1 : Wd) (H1 : Heap) (locs1 : List Loc), px E (ad1, w1) → hw D B ad1 w1 H1 → va_S (ab B) H0 H1 locs1 → H1[q9]? = some ce → ce.vm = .none → s.vm.findClass E = some ce.cls → vx_W p l e R s m args below meth c H1 locs1 (cells + mc) (slots + ms) Q (F0 m pc ls rest) q9)
    (kk : ∀ (r : Nat) (ad1 : Ad) (w1 : Wd) (H1 : Heap) (locs1 : List Loc), post r (ad1, w1) → hw D B ad1 w1 H1 → va_S (ab B) H0 H1 locs1 → W p l e R s m args below meth c H1 locs1 (cells + mc) (slots + ms) Q (F0 m (pc + 3) ls (.ref r :: rest))) : W p l e R s m args below meth c H locs cells slots Q (F0 m pc ls st0) :=
  by
  intro T hT X
  rcases hr T hT X with ⟨v, st₀, t, T', L, h0, X', hL, e1, e2, ⟨⟨u, r, hv, -, hb⟩, hF⟩, st⟩ | ⟨q, st₀, t, T', L, E, ce, h0, X', hL, e1, e2, ⟨u, -, hb, hF⟩, hce, hcv, hcl, st⟩
  · cases hv
    obtain ⟨-, -, k3⟩ := vx_keep h0 e1 hS (fun _ _ h => h) (fun _ h => h) hL hF
    obtain ⟨t2, a1, b1⟩ := kk r u.1 u.2 T'.heap (locs ++ L) hb.2 (by rw [e1]; exact hb.1) k3 T' rfl X'
    exact ⟨t2, st t2 a1, b1⟩
  · obtain ⟨-, -, k3⟩ := vx_keep h0 e1 hS (fun _ _ h => h) (fun _ h => h) hL hF
    obtain ⟨t2, a1, b1⟩ := kx E ce q u.1 u.2 T'.heap (locs ++ L) hb.2 (by rw [e1]; exact hb.1) k3 (by rw [e1]; exact hce) hcv hcl T' rfl X'
    exact ⟨t2, st.trans a1, b1⟩
end WR
end
section
/-! what a state of the system is: memories by attribute, object and place; the cells as functions of them.
attributes: 1 isSwitch 2 first 3 least 4 until 5 changed 6 commands (by priority) 7 present; 8 of 9 increment 10 over 11 ended 12 sent 13 kept; 14 to 15 at 16 last 17 entries 18 when 19 minute 20 tells; 21 count 22 days 23 minutes 24 told (of the class's lists of entries: 2c, 2c+1); 25 clock 26 told -/
abbrev GC : Type := Nat × Nat × Nat
def loF (x : Int32) : Int32 := if x = 1 then 0 else -1000
def hiF (x : Int32) : Int32 := if x = 1 then 1 else 1000
abbrev eEn (ad : Ad) (σ : Me) (k : Nat) : va_E := .inr (0, [.ref (ad 9 k), .ref (ad 10 k), .ref (ad 11 k), .int (σ 21 k 0)])
abbrev ePt (ad : Ad) (σ : Me) (k : Nat) : va_E := .inr (1, [.int (loF (σ 1 k 0)), .int (hiF (σ 1 k 0)), .int (σ 2 k 0), .int (σ 3 k 0), .ref (ad 8 k), .int (σ 7 k 0), .int (σ 4 k 0), .int (σ 5 k 0)])
abbrev eSc (ad : Ad) (σ : Me) (k : Nat) : va_E := .inr (2, [.ref (ad 1 (σ 14 k 0).toNatClampNeg), .int (σ 15 k 0), .ref (ad 0 (2 * k)), .ref (ad 0 (2 * k + 1)), .int (σ 16 k 0)])
abbrev eSu (ad : Ad) (σ : Me) (k : Nat) : va_E := .inr (3, [.ref (ad 1 (σ 8 k 0).toNatClampNeg), .int (σ 9 k 0), .int (σ 10 k 0), .int (σ 13 k 0), .int (σ 12 k 0), .int (1 - σ 11 k 0)])
abbrev eBP (ad : Ad) (g : GC) (σ : Me) : va_E := .inr (4, [.ref (ad 7 0), .ref (ad 7 1), .ref (ad 7 2), .int (nI g.1), .int (nI g.2.1), .int (nI g.2.2), .int (σ 25 0 0), .int (σ 26 0 0)])
abbrev eMo (ad : Ad) (h : GC) (τ : Me) (th : Int32) : va_E := .inr (5, [.int (τ 25 0 0), .int (nI h.1), .int (nI h.2.1), .int (nI h.2.2), .int (τ 26 0 0), .ref (ad 12 0), .ref (ad 12 1), .ref (ad 12 2), .ref (ad 12 3), .ref (ad 12 4), .ref (ad 12 5), .ref (ad 12 6), .ref (ad 12 7), .ref (ad 12 8), .ref (ad 12 9), .ref (ad 12 10), .ref (ad 12 11), .ref (ad 12 12), .ref (ad 12 13), .ref (ad 12 14), .ref (ad 12 15), .ref (ad 12 16), .ref (ad 12 17), .ref (ad 12 18), .int th])
abbrev eOu (D : va_G) (o : Int64) : va_E := eL D 1 (fun j => if j = 0 then o else 0)
abbrev fP (ad : Ad) (f n : Nat) : Nat → Option Nat := fun j => if j < n then some (ad f j) else none
def mAr (D : va_G) (τ : Me) (k : Nat) : Option va_E :=
  match k with
  | 0 => some (eZ D 16 (fun q => τ 1 q 0))
  | 1 => some (eI D 16 (fun q => τ 2 q 0))
  | 2 => some (eI D 16 (fun q => τ 3 q 0))
  | 3 => some (eI D 16 (fun q => τ 4 q 0))
  | 4 => some (eI D 16 (fun q => τ 5 q 0))
  | 5 => some (eI D 256 (fun q => τ 6 (q / 16) (q % 16 + 1)))
  | 6 => some (eI D 30 (fun q => τ 8 q 0))
  | 7 => some (eI D 30 (fun q => τ 9 q 0))
  | 8 => some (eI D 30 (fun q => τ 10 q 0))
  | 9 => some (eZ D 30 (fun q => τ 11 q 0))
  | 10 => some (eI D 30 (fun q => τ 12 q 0))
  | 11 => some (eI D 30 (fun q => τ 13 q 0))
  | 12 => some (eI D 4 (fun q => τ 14 q 0))
  | 13 => some (eI D 4 (fun q => τ 15 q 0))
  | 14 => some (eI D 4 (fun q => τ 16 q 0))
  | 15 => some (eI D 4 (fun q => τ 17 q 0))
  | 16 => some (eI D 80 (fun q => τ 18 (q / 20) (q % 20)))
  | 17 => some (eI D 80 (fun q => τ 19 (q / 20) (q % 20)))
  | 18 => some (eI D 80 (fun q => τ 20 (q / 20) (q % 20)))
  | _ => none
def cW (D : va_G) (ad : Ad) (S : GC × Me) (T : GC × Me × Int32) (o : Int64) : Wd := fun f k =>
  match f with
  | 0 => if k < 2 * S.1.2.2 then some (eEn ad S.2 k) else none
  | 1 => if k < S.1.1 then some (ePt ad S.2 k) else none
  | 2 => if k < S.1.2.2 then some (eSc ad S.2 k) else none
  | 3 => if k < S.1.2.1 then some (eSu ad S.2 k) else none
  | 4 => if k = 0 then some (eBP ad S.1 S.2) else none
  | 5 => if k = 0 then some (eMo ad T.1 T.2.1 T.2.2) else none
  | 6 => if k = 0 then some (eOu D o) else none
  | 7 => if k = 0 then some (eR D 103 16 (fP ad 1 S.1.1)) else if k = 1 then some (eR D 104 30 (fP ad 3 S.1.2.1)) else if k = 2 then some (eR D 105 4 (fP ad 2 S.1.2.2)) else none
  | 8 => if k < S.1.1 then some (eI D 17 (S.2 6 k)) else none
  | 9 => if k < 2 * S.1.2.2 then some (eI D 20 (S.2 22 k)) else none
  | 10 => if k < 2 * S.1.2.2 then some (eI D 20 (S.2 23 k)) else none
  | 11 => if k < 2 * S.1.2.2 then some (eI D 20 (S.2 24 k)) else none
  | 12 => mAr D T.2.1 k
  | _ => none
theorem st3_n {σ : Me} {a i j a1 : Nat} {v : Int32} (h : a1 ≠ a) : st3 σ a i j v a1 = σ a1 := by funext i1 j1; simp [st3, h]
theorem st3_i {σ : Me} {a i j a1 i1 : Nat} {v : Int32} (h : i1 ≠ i) : st3 σ a i j v a1 i1 = σ a1 i1 := by funext j1; simp [st3, h]
theorem st3_s {σ : Me} {a i j : Nat} {v : Int32} : st3 σ a i j v a i = upd (σ a i) j v := by funext j1; simp [st3, upd]
theorem st3_v {σ : Me} {a i j : Nat} {v : Int32} : st3 σ a i j v a i j = v := by simp [st3]
theorem st3_j {σ : Me} {a i j a1 i1 j1 : Nat} {v : Int32} (h : j1 ≠ j) : st3 σ a i j v a1 i1 j1 = σ a1 i1 j1 := by simp [st3, h]
section CW
variable {D : va_G} {ad : Ad} {g h : GC} {σ τ : Me} {S : GC × Me} {T : GC × Me × Int32} {th : Int32} {o : Int64} {k : Nat}
theorem cW_0 (hk : k < 2 * g.2.2) : cW D ad (g, σ) T o 0 k = some (eEn ad σ k) := by show (if k < 2 * g.2.2 then _ else _) = _; rw [if_pos hk]
theorem cW_1 (hk : k < g.1) : cW D ad (g, σ) T o 1 k = some (ePt ad σ k) := by show (if k < g.1 then _ else _) = _; rw [if_pos hk]
theorem cW_2 (hk : k < g.2.2) : cW D ad (g, σ) T o 2 k = some (eSc ad σ k) := by show (if k < g.2.2 then _ else _) = _; rw [if_pos hk]
theorem cW_3 (hk : k < g.2.1) : cW D ad (g, σ) T o 3 k = some (eSu ad σ k) := by show (if k < g.2.1 then _ else _) = _; rw [if_pos hk]
theorem cW_8 (hk : k < g.1) : cW D ad (g, σ) T o 8 k = some (eI D 17 (σ 6 k)) := by show (if k < g.1 then _ else _) = _; rw [if_pos hk]
theorem cW_9 (hk : k < 2 * g.2.2) : cW D ad (g, σ) T o 9 k = some (eI D 20 (σ 22 k)) := by show (if k < 2 * g.2.2 then _ else _) = _; rw [if_pos hk]
theorem cW_10 (hk : k < 2 * g.2.2) : cW D ad (g, σ) T o 10 k = some (eI D 20 (σ 23 k)) := by show (if k < 2 * g.2.2 then _ else _) = _; rw [if_pos hk]
theorem cW_11 (hk : k < 2 * g.2.2) : cW D ad (g, σ) T o 11 k = some (eI D 20 (σ 24 k)) := by show (if k < 2 * g.2.2 then _ else _) = _; rw [if_pos hk]
theorem cW_4 : cW D ad (g, σ) T o 4 0 = some (eBP ad g σ) := rfl
theorem cW_5 : cW D ad S (h, τ, th) o 5 0 = some (eMo ad h τ th) := rfl
theorem cW_6 : cW D ad S T o 6 0 = some (eOu D o) := rfl
theorem cW_70 : cW D ad (g, σ) T o 7 0 = some (eR D 103 16 (fP ad 1 g.1)) := rfl
theorem cW_71 : cW D ad (g, σ) T o 7 1 = some (eR D 104 30 (fP ad 3 g.2.1)) := rfl
theorem cW_72 : cW D ad (g, σ) T o 7 2 = some (eR D 105 4 (fP ad 2 g.2.2)) := rfl
theorem cW_12_0 : cW D ad S (h, τ, th) o 12 0 = some (eZ D 16 (fun q => τ 1 q 0)) := rfl
theorem cW_12_1 : cW D ad S (h, τ, th) o 12 1 = some (eI D 16 (fun q => τ 2 q 0)) := rfl
theorem cW_12_2 : cW D ad S (h, τ, th) o 12 2 = some (eI D 16 (fun q => τ 3 q 0)) := rfl
theorem cW_12_3 : cW D ad S (h, τ, th) o 12 3 = some (eI D 16 (fun q => τ 4 q 0)) := rfl
theorem cW_12_4 : cW D ad S (h, τ, th) o 12 4 = some (eI D 16 (fun q => τ 5 q 0)) := rfl
theorem cW_12_5 : cW D ad S (h, τ, th) o 12 5 = some (eI D 256 (fun q => τ 6 (q / 16) (q % 16 + 1))) := rfl
theorem cW_12_6 : cW D ad S (h, τ, th) o 12 6 = some (eI D 30 (fun q => τ 8 q 0)) := rfl
theorem cW_12_7 : cW D ad S (h, τ, th) o 12 7 = some (eI D 30 (fun q => τ 9 q 0)) := rfl
theorem cW_12_8 : cW D ad S (h, τ, th) o 12 8 = some (eI D 30 (fun q => τ 10 q 0)) := rfl
theorem cW_12_9 : cW D ad S (h, τ, th) o 12 9 = some (eZ D 30 (fun q => τ 11 q 0)) := rfl
theorem cW_12_10 : cW D ad S (h, τ, th) o 12 10 = some (eI D 30 (fun q => τ 12 q 0)) := rfl
theorem cW_12_11 : cW D ad S (h, τ, th) o 12 11 = some (eI D 30 (fun q => τ 13 q 0)) := rfl
theorem cW_12_12 : cW D ad S (h, τ, th) o 12 12 = some (eI D 4 (fun q => τ 14 q 0)) := rfl
theorem cW_12_13 : cW D ad S (h, τ, th) o 12 13 = some (eI D 4 (fun q => τ 15 q 0)) := rfl
theorem cW_12_14 : cW D ad S (h, τ, th) o 12 14 = some (eI D 4 (fun q => τ 16 q 0)) := rfl
theorem cW_12_15 : cW D ad S (h, τ, th) o 12 15 = some (eI D 4 (fun q => τ 17 q 0)) := rfl
theorem cW_12_16 : cW D ad S (h, τ, th) o 12 16 = some (eI D 80 (fun q => τ 18 (q / 20) (q % 20))) := rfl
theorem cW_12_17 : cW D ad S (h, τ, th) o 12 17 = some (eI D 80 (fun q => τ 19 (q / 20) (q % 20))) := rfl
theorem cW_12_18 : cW D ad S (h, τ, th) o 12 18 = some (eI D 80 (fun q => τ 20 (q / 20) (q % 20))) := rfl
theorem pE3 (hk : k < 2 * g.2.2) (v : Int32) : u2 (cW D ad (g, σ) T o) 0 k (.inr (0, [.ref (ad 9 k), .ref (ad 10 k), .ref (ad 11 k), .int v])) = cW D ad (g, st3 σ 21 k 0 v) T o := by
  funext f1 k1
  unfold u2
  split
  · rename_i h1
    obtain ⟨rfl, rfl⟩ := h1
    simp only [cW, if_pos hk]
    simp [eEn, ePt, eSc, eSu, st3_n, st3_v]
  · rename_i h1
    match f1, h1 with
    | 0, h1 => have hk1 : k1 ≠ k := fun z => h1 ⟨rfl, z⟩; simp [cW, eEn, ePt, eSc, eSu, eBP, eMo, st3_n, st3_i hk1]
    | 1, h1 => simp [cW, eEn, ePt, eSc, eSu, eBP, eMo, st3_n, st3_v]
    | 2, h1 => simp [cW, eEn, ePt, eSc, eSu, eBP, eMo, st3_n, st3_v]
    | 3, h1 => simp [cW, eEn, ePt, eSc, eSu, eBP, eMo, st3_n, st3_v]
    | 4, h1 => simp [cW, eEn, ePt, eSc, eSu, eBP, eMo, st3_n, st3_v]
    | 5, h1 => rfl
    | 6, h1 => rfl
    | 7, h1 => rfl
    | 8, h1 => simp [cW, eEn, ePt, eSc, eSu, eBP, eMo, st3_n, st3_v]
    | 9, h1 => simp [cW, eEn, ePt, eSc, eSu, eBP, eMo, st3_n, st3_v]
    | 10, h1 => simp [cW, eEn, ePt, eSc, eSu, eBP, eMo, st3_n, st3_v]
    | 11, h1 => simp [cW, eEn, ePt, eSc, eSu, eBP, eMo, st3_n, st3_v]
    | 12, h1 => rfl
    | n + 13, h1 => rfl
theorem pP5 (hk : k < g.1) (v : Int32) : u2 (cW D ad (g, σ) T o) 1 k (.inr (1, [.int (loF (σ 1 k 0)), .int (hiF (σ 1 k 0)), .int (σ 2 k 0), .int (σ 3 k 0), .ref (ad 8 k), .int v, .int (σ 4 k 0), .int (σ 5 k 0)])) = cW D ad (g, st3 σ 7 k 0 v) T o := by
  funext f1 k1
  unfold u2
  split
  · rename_i h1
    obtain ⟨rfl, rfl⟩ := h1
    simp only [cW, if_pos hk]
    simp [eEn, ePt, eSc, eSu, st3_n, st3_v]
  · rename_i h1
    match f1, h1 with
    | 0, h1 => simp [cW, eEn, ePt, eSc, eSu, eBP, eMo, st3_n, st3_v]
    | 1, h1 => have hk1 : k1 ≠ k := fun z => h1 ⟨rfl, z⟩; simp [cW, eEn, ePt, eSc, eSu, eBP, eMo, st3_n, st3_i hk1]
    | 2, h1 => simp [cW, eEn, ePt, eSc, eSu, eBP, eMo, st3_n, st3_v]
    | 3, h1 => simp [cW, eEn, ePt, eSc, eSu, eBP, eMo, st3_n, st3_v]
    | 4, h1 => simp [cW, eEn, ePt, eSc, eSu, eBP, eMo, st3_n, st3_v]
    | 5, h1 => rfl
    | 6, h1 => rfl
    | 7, h1 => rfl
    | 8, h1 => simp [cW, eEn, ePt, eSc, eSu, eBP, eMo, st3_n, st3_v]
    | 9, h1 => simp [cW, eEn, ePt, eSc, eSu, eBP, eMo, st3_n, st3_v]
    | 10, h1 => simp [cW, eEn, ePt, eSc, eSu, eBP, eMo, st3_n, st3_v]
    | 11, h1 => simp [cW, eEn, ePt, eSc, eSu, eBP, eMo, st3_n, st3_v]
    | 12, h1 => rfl
    | n + 13, h1 => rfl
theorem pP6 (hk : k < g.1) (v : Int32) : u2 (cW D ad (g, σ) T o) 1 k (.inr (1, [.int (loF (σ 1 k 0)), .int (hiF (σ 1 k 0)), .int (σ 2 k 0), .int (σ 3 k 0), .ref (ad 8 k), .int (σ 7 k 0), .int v, .int (σ 5 k 0)])) = cW D ad (g, st3 σ 4 k 0 v) T o := by
  funext f1 k1
  unfold u2
  split
  · rename_i h1
    obtain ⟨rfl, rfl⟩ := h1
    simp only [cW, if_pos hk]
    simp [eEn, ePt, eSc, eSu, st3_n, st3_v]
  · rename_i h1
    match f1, h1 with
    | 0, h1 => simp [cW, eEn, ePt, eSc, eSu, eBP, eMo, st3_n, st3_v]
    | 1, h1 => have hk1 : k1 ≠ k := fun z => h1 ⟨rfl, z⟩; simp [cW, eEn, ePt, eSc, eSu, eBP, eMo, st3_n, st3_i hk1]
    | 2, h1 => simp [cW, eEn, ePt, eSc, eSu, eBP, eMo, st3_n, st3_v]
    | 3, h1 => simp [cW, eEn, ePt, eSc, eSu, eBP, eMo, st3_n, st3_v]
    | 4, h1 => simp [cW, eEn, ePt, eSc, eSu, eBP, eMo, st3_n, st3_v]
    | 5, h1 => rfl
    | 6, h1 => rfl
    | 7, h1 => rfl
    | 8, h1 => simp [cW, eEn, ePt, eSc, eSu, eBP, eMo, st3_n, st3_v]
    | 9, h1 => simp [cW, eEn, ePt, eSc, eSu, eBP, eMo, st3_n, st3_v]
    | 10, h1 => simp [cW, eEn, ePt, eSc, eSu, eBP, eMo, st3_n, st3_v]
    | 11, h1 => simp [cW, eEn, ePt, eSc, eSu, eBP, eMo, st3_n, st3_v]
    | 12, h1 => rfl
    | n + 13, h1 => rfl
theorem pP7 (hk : k < g.1) (v : Int32) : u2 (cW D ad (g, σ) T o) 1 k (.inr (1, [.int (loF (σ 1 k 0)), .int (hiF (σ 1 k 0)), .int (σ 2 k 0), .int (σ 3 k 0), .ref (ad 8 k), .int (σ 7 k 0), .int (σ 4 k 0), .int v])) = cW D ad (g, st3 σ 5 k 0 v) T o := by
  funext f1 k1
  unfold u2
  split
  · rename_i h1
    obtain ⟨rfl, rfl⟩ := h1
    simp only [cW, if_pos hk]
    simp [eEn, ePt, eSc, eSu, st3_n, st3_v]
  · rename_i h1
    match f1, h1 with
    | 0, h1 => simp [cW, eEn, ePt, eSc, eSu, eBP, eMo, st3_n, st3_v]
    | 1, h1 => have hk1 : k1 ≠ k := fun z => h1 ⟨rfl, z⟩; simp [cW, eEn, ePt, eSc, eSu, eBP, eMo, st3_n, st3_i hk1]
    | 2, h1 => simp [cW, eEn, ePt, eSc, eSu, eBP, eMo, st3_n, st3_v]
    | 3, h1 => simp [cW, eEn, ePt, eSc, eSu, eBP, eMo, st3_n, st3_v]
    | 4, h1 => simp [cW, eEn, ePt, eSc, eSu, eBP, eMo, st3_n, st3_v]
    | 5, h1 => rfl
    | 6, h1 => rfl
    | 7, h1 => rfl
    | 8, h1 => simp [cW, eEn, ePt, eSc, eSu, eBP, eMo, st3_n, st3_v]
    | 9, h1 => simp [cW, eEn, ePt, eSc, eSu, eBP, eMo, st3_n, st3_v]
    | 10, h1 => simp [cW, eEn, ePt, eSc, eSu, eBP, eMo, st3_n, st3_v]
    | 11, h1 => simp [cW, eEn, ePt, eSc, eSu, eBP, eMo, st3_n, st3_v]
    | 12, h1 => rfl
    | n + 13, h1 => rfl
theorem pC4 (hk : k < g.2.2) (v : Int32) : u2 (cW D ad (g, σ) T o) 2 k (.inr (2, [.ref (ad 1 (σ 14 k 0).toNatClampNeg), .int (σ 15 k 0), .ref (ad 0 (2 * k)), .ref (ad 0 (2 * k + 1)), .int v])) = cW D ad (g, st3 σ 16 k 0 v) T o := by
  funext f1 k1
  unfold u2
  split
  · rename_i h1
    obtain ⟨rfl, rfl⟩ := h1
    simp only [cW, if_pos hk]
    simp [eEn, ePt, eSc, eSu, st3_n, st3_v]
  · rename_i h1
    match f1, h1 with
    | 0, h1 => simp [cW, eEn, ePt, eSc, eSu, eBP, eMo, st3_n, st3_v]
    | 1, h1 => simp [cW, eEn, ePt, eSc, eSu, eBP, eMo, st3_n, st3_v]
    | 2, h1 => have hk1 : k1 ≠ k := fun z => h1 ⟨rfl, z⟩; simp [cW, eEn, ePt, eSc, eSu, eBP, eMo, st3_n, st3_i hk1]
    | 3, h1 => simp [cW, eEn, ePt, eSc, eSu, eBP, eMo, st3_n, st3_v]
    | 4, h1 => simp [cW, eEn, ePt, eSc, eSu, eBP, eMo, st3_n, st3_v]
    | 5, h1 => rfl
    | 6, h1 => rfl
    | 7, h1 => rfl
    | 8, h1 => simp [cW, eEn, ePt, eSc, eSu, eBP, eMo, st3_n, st3_v]
    | 9, h1 => simp [cW, eEn, ePt, eSc, eSu, eBP, eMo, st3_n, st3_v]
    | 10, h1 => simp [cW, eEn, ePt, eSc, eSu, eBP, eMo, st3_n, st3_v]
    | 11, h1 => simp [cW, eEn, ePt, eSc, eSu, eBP, eMo, st3_n, st3_v]
    | 12, h1 => rfl
    | n + 13, h1 => rfl
theorem pS3 (hk : k < g.2.1) (v : Int32) : u2 (cW D ad (g, σ) T o) 3 k (.inr (3, [.ref (ad 1 (σ 8 k 0).toNatClampNeg), .int (σ 9 k 0), .int (σ 10 k 0), .int v, .int (σ 12 k 0), .int (1 - σ 11 k 0)])) = cW D ad (g, st3 σ 13 k 0 v) T o := by
  funext f1 k1
  unfold u2
  split
  · rename_i h1
    obtain ⟨rfl, rfl⟩ := h1
    simp only [cW, if_pos hk]
    simp [eEn, ePt, eSc, eSu, st3_n, st3_v]
  · rename_i h1
    match f1, h1 with
    | 0, h1 => simp [cW, eEn, ePt, eSc, eSu, eBP, eMo, st3_n, st3_v]
    | 1, h1 => simp [cW, eEn, ePt, eSc, eSu, eBP, eMo, st3_n, st3_v]
    | 2, h1 => simp [cW, eEn, ePt, eSc, eSu, eBP, eMo, st3_n, st3_v]
    | 3, h1 => have hk1 : k1 ≠ k := fun z => h1 ⟨rfl, z⟩; simp [cW, eEn, ePt, eSc, eSu, eBP, eMo, st3_n, st3_i hk1]
    | 4, h1 => simp [cW, eEn, ePt, eSc, eSu, eBP, eMo, st3_n, st3_v]
    | 5, h1 => rfl
    | 6, h1 => rfl
    | 7, h1 => rfl
    | 8, h1 => simp [cW, eEn, ePt, eSc, eSu, eBP, eMo, st3_n, st3_v]
    | 9, h1 => simp [cW, eEn, ePt, eSc, eSu, eBP, eMo, st3_n, st3_v]
    | 10, h1 => simp [cW, eEn, ePt, eSc, eSu, eBP, eMo, st3_n, st3_v]
    | 11, h1 => simp [cW, eEn, ePt, eSc, eSu, eBP, eMo, st3_n, st3_v]
    | 12, h1 => rfl
    | n + 13, h1 => rfl
theorem pS4 (hk : k < g.2.1) (v : Int32) : u2 (cW D ad (g, σ) T o) 3 k (.inr (3, [.ref (ad 1 (σ 8 k 0).toNatClampNeg), .int (σ 9 k 0), .int (σ 10 k 0), .int (σ 13 k 0), .int v, .int (1 - σ 11 k 0)])) = cW D ad (g, st3 σ 12 k 0 v) T o := by
  funext f1 k1
  unfold u2
  split
  · rename_i h1
    obtain ⟨rfl, rfl⟩ := h1
    simp only [cW, if_pos hk]
    simp [eEn, ePt, eSc, eSu, st3_n, st3_v]
  · rename_i h1
    match f1, h1 with
    | 0, h1 => simp [cW, eEn, ePt, eSc, eSu, eBP, eMo, st3_n, st3_v]
    | 1, h1 => simp [cW, eEn, ePt, eSc, eSu, eBP, eMo, st3_n, st3_v]
    | 2, h1 => simp [cW, eEn, ePt, eSc, eSu, eBP, eMo, st3_n, st3_v]
    | 3, h1 => have hk1 : k1 ≠ k := fun z => h1 ⟨rfl, z⟩; simp [cW, eEn, ePt, eSc, eSu, eBP, eMo, st3_n, st3_i hk1]
    | 4, h1 => simp [cW, eEn, ePt, eSc, eSu, eBP, eMo, st3_n, st3_v]
    | 5, h1 => rfl
    | 6, h1 => rfl
    | 7, h1 => rfl
    | 8, h1 => simp [cW, eEn, ePt, eSc, eSu, eBP, eMo, st3_n, st3_v]
    | 9, h1 => simp [cW, eEn, ePt, eSc, eSu, eBP, eMo, st3_n, st3_v]
    | 10, h1 => simp [cW, eEn, ePt, eSc, eSu, eBP, eMo, st3_n, st3_v]
    | 11, h1 => simp [cW, eEn, ePt, eSc, eSu, eBP, eMo, st3_n, st3_v]
    | 12, h1 => rfl
    | n + 13, h1 => rfl
theorem pS5 (hk : k < g.2.1) (v : Int32) : u2 (cW D ad (g, σ) T o) 3 k (.inr (3, [.ref (ad 1 (σ 8 k 0).toNatClampNeg), .int (σ 9 k 0), .int (σ 10 k 0), .int (σ 13 k 0), .int (σ 12 k 0), .int (1 - v)])) = cW D ad (g, st3 σ 11 k 0 v) T o := by
  funext f1 k1
  unfold u2
  split
  · rename_i h1
    obtain ⟨rfl, rfl⟩ := h1
    simp only [cW, if_pos hk]
    simp [eEn, ePt, eSc, eSu, st3_n, st3_v]
  · rename_i h1
    match f1, h1 with
    | 0, h1 => simp [cW, eEn, ePt, eSc, eSu, eBP, eMo, st3_n, st3_v]
    | 1, h1 => simp [cW, eEn, ePt, eSc, eSu, eBP, eMo, st3_n, st3_v]
    | 2, h1 => simp [cW, eEn, ePt, eSc, eSu, eBP, eMo, st3_n, st3_v]
    | 3, h1 => have hk1 : k1 ≠ k := fun z => h1 ⟨rfl, z⟩; simp [cW, eEn, ePt, eSc, eSu, eBP, eMo, st3_n, st3_i hk1]
    | 4, h1 => simp [cW, eEn, ePt, eSc, eSu, eBP, eMo, st3_n, st3_v]
    | 5, h1 => rfl
    | 6, h1 => rfl
    | 7, h1 => rfl
    | 8, h1 => simp [cW, eEn, ePt, eSc, eSu, eBP, eMo, st3_n, st3_v]
    | 9, h1 => simp [cW, eEn, ePt, eSc, eSu, eBP, eMo, st3_n, st3_v]
    | 10, h1 => simp [cW, eEn, ePt, eSc, eSu, eBP, eMo, st3_n, st3_v]
    | 11, h1 => simp [cW, eEn, ePt, eSc, eSu, eBP, eMo, st3_n, st3_v]
    | 12, h1 => rfl
    | n + 13, h1 => rfl
theorem pB6 (v : Int32) : u2 (cW D ad (g, σ) T o) 4 0 (.inr (4, [.ref (ad 7 0), .ref (ad 7 1), .ref (ad 7 2), .int (nI g.1), .int (nI g.2.1), .int (nI g.2.2), .int v, .int (σ 26 0 0)])) = cW D ad (g, st3 σ 25 0 0 v) T o := by
  funext f1 k1
  unfold u2
  split
  · rename_i h1
    obtain ⟨rfl, rfl⟩ := h1
    simp [cW, eEn, ePt, eSc, eSu, eBP, eMo, st3_n, st3_v]
  · rename_i h1
    match f1, h1 with
    | 0, h1 => simp [cW, eEn, ePt, eSc, eSu, eBP, eMo, st3_n, st3_v]
    | 1, h1 => simp [cW, eEn, ePt, eSc, eSu, eBP, eMo, st3_n, st3_v]
    | 2, h1 => simp [cW, eEn, ePt, eSc, eSu, eBP, eMo, st3_n, st3_v]
    | 3, h1 => simp [cW, eEn, ePt, eSc, eSu, eBP, eMo, st3_n, st3_v]
    | 4, h1 => have hk1 : k1 ≠ 0 := fun z => h1 ⟨rfl, z⟩; simp only [cW, if_neg hk1]
    | 5, h1 => rfl
    | 6, h1 => rfl
    | 7, h1 => rfl
    | 8, h1 => simp [cW, eEn, ePt, eSc, eSu, eBP, eMo, st3_n, st3_v]
    | 9, h1 => simp [cW, eEn, ePt, eSc, eSu, eBP, eMo, st3_n, st3_v]
    | 10, h1 => simp [cW, eEn, ePt, eSc, eSu, eBP, eMo, st3_n, st3_v]
    | 11, h1 => simp [cW, eEn, ePt, eSc, eSu, eBP, eMo, st3_n, st3_v]
    | 12, h1 => rfl
    | n + 13, h1 => rfl
theorem pB7 (v : Int32) : u2 (cW D ad (g, σ) T o) 4 0 (.inr (4, [.ref (ad 7 0), .ref (ad 7 1), .ref (ad 7 2), .int (nI g.1), .int (nI g.2.1), .int (nI g.2.2), .int (σ 25 0 0), .int v])) = cW D ad (g, st3 σ 26 0 0 v) T o := by
  funext f1 k1
  unfold u2
  split
  · rename_i h1
    obtain ⟨rfl, rfl⟩ := h1
    simp [cW, eEn, ePt, eSc, eSu, eBP, eMo, st3_n, st3_v]
  · rename_i h1
    match f1, h1 with
    | 0, h1 => simp [cW, eEn, ePt, eSc, eSu, eBP, eMo, st3_n, st3_v]
    | 1, h1 => simp [cW, eEn, ePt, eSc, eSu, eBP, eMo, st3_n, st3_v]
    | 2, h1 => simp [cW, eEn, ePt, eSc, eSu, eBP, eMo, st3_n, st3_v]
    | 3, h1 => simp [cW, eEn, ePt, eSc, eSu, eBP, eMo, st3_n, st3_v]
    | 4, h1 => have hk1 : k1 ≠ 0 := fun z => h1 ⟨rfl, z⟩; simp only [cW, if_neg hk1]
    | 5, h1 => rfl
    | 6, h1 => rfl
    | 7, h1 => rfl
    | 8, h1 => simp [cW, eEn, ePt, eSc, eSu, eBP, eMo, st3_n, st3_v]
    | 9, h1 => simp [cW, eEn, ePt, eSc, eSu, eBP, eMo, st3_n, st3_v]
    | 10, h1 => simp [cW, eEn, ePt, eSc, eSu, eBP, eMo, st3_n, st3_v]
    | 11, h1 => simp [cW, eEn, ePt, eSc, eSu, eBP, eMo, st3_n, st3_v]
    | 12, h1 => rfl
    | n + 13, h1 => rfl
theorem pK8 (hk : k < g.1) (j : Nat) (v : Int32) : u2 (cW D ad (g, σ) T o) 8 k (eI D 17 (upd (σ 6 k) j v)) = cW D ad (g, st3 σ 6 k j v) T o := by
  funext f1 k1
  unfold u2
  split
  · rename_i h1
    obtain ⟨rfl, rfl⟩ := h1
    simp only [cW, if_pos hk]
    rw [st3_s]
  · rename_i h1
    match f1, h1 with
    | 0, h1 => simp [cW, eEn, ePt, eSc, eSu, eBP, eMo, st3_n, st3_v]
    | 1, h1 => simp [cW, eEn, ePt, eSc, eSu, eBP, eMo, st3_n, st3_v]
    | 2, h1 => simp [cW, eEn, ePt, eSc, eSu, eBP, eMo, st3_n, st3_v]
    | 3, h1 => simp [cW, eEn, ePt, eSc, eSu, eBP, eMo, st3_n, st3_v]
    | 4, h1 => simp [cW, eEn, ePt, eSc, eSu, eBP, eMo, st3_n, st3_v]
    | 5, h1 => rfl
    | 6, h1 => rfl
    | 7, h1 => rfl
    | 8, h1 => have hk1 : k1 ≠ k := fun z => h1 ⟨rfl, z⟩; simp [cW, eEn, ePt, eSc, eSu, eBP, eMo, st3_n, st3_i hk1]
    | 9, h1 => simp [cW, eEn, ePt, eSc, eSu, eBP, eMo, st3_n, st3_v]
    | 10, h1 => simp [cW, eEn, ePt, eSc, eSu, eBP, eMo, st3_n, st3_v]
    | 11, h1 => simp [cW, eEn, ePt, eSc, eSu, eBP, eMo, st3_n, st3_v]
    | 12, h1 => rfl
    | n + 13, h1 => rfl
theorem pK9 (hk : k < 2 * g.2.2) (j : Nat) (v : Int32) : u2 (cW D ad (g, σ) T o) 9 k (eI D 20 (upd (σ 22 k) j v)) = cW D ad (g, st3 σ 22 k j v) T o := by
  funext f1 k1
  unfold u2
  split
  · rename_i h1
    obtain ⟨rfl, rfl⟩ := h1
    simp only [cW, if_pos hk]
    rw [st3_s]
  · rename_i h1
    match f1, h1 with
    | 0, h1 => simp [cW, eEn, ePt, eSc, eSu, eBP, eMo, st3_n, st3_v]
    | 1, h1 => simp [cW, eEn, ePt, eSc, eSu, eBP, eMo, st3_n, st3_v]
    | 2, h1 => simp [cW, eEn, ePt, eSc, eSu, eBP, eMo, st3_n, st3_v]
    | 3, h1 => simp [cW, eEn, ePt, eSc, eSu, eBP, eMo, st3_n, st3_v]
    | 4, h1 => simp [cW, eEn, ePt, eSc, eSu, eBP, eMo, st3_n, st3_v]
    | 5, h1 => rfl
    | 6, h1 => rfl
    | 7, h1 => rfl
    | 8, h1 => simp [cW, eEn, ePt, eSc, eSu, eBP, eMo, st3_n, st3_v]
    | 9, h1 => have hk1 : k1 ≠ k := fun z => h1 ⟨rfl, z⟩; simp [cW, eEn, ePt, eSc, eSu, eBP, eMo, st3_n, st3_i hk1]
    | 10, h1 => simp [cW, eEn, ePt, eSc, eSu, eBP, eMo, st3_n, st3_v]
    | 11, h1 => simp [cW, eEn, ePt, eSc, eSu, eBP, eMo, st3_n, st3_v]
    | 12, h1 => rfl
    | n + 13, h1 => rfl
theorem pK10 (hk : k < 2 * g.2.2) (j : Nat) (v : Int32) : u2 (cW D ad (g, σ) T o) 10 k (eI D 20 (upd (σ 23 k) j v)) = cW D ad (g, st3 σ 23 k j v) T o := by
  funext f1 k1
  unfold u2
  split
  · rename_i h1
    obtain ⟨rfl, rfl⟩ := h1
    simp only [cW, if_pos hk]
    rw [st3_s]
  · rename_i h1
    match f1, h1 with
    | 0, h1 => simp [cW, eEn, ePt, eSc, eSu, eBP, eMo, st3_n, st3_v]
    | 1, h1 => simp [cW, eEn, ePt, eSc, eSu, eBP, eMo, st3_n, st3_v]
    | 2, h1 => simp [cW, eEn, ePt, eSc, eSu, eBP, eMo, st3_n, st3_v]
    | 3, h1 => simp [cW, eEn, ePt, eSc, eSu, eBP, eMo, st3_n, st3_v]
    | 4, h1 => simp [cW, eEn, ePt, eSc, eSu, eBP, eMo, st3_n, st3_v]
    | 5, h1 => rfl
    | 6, h1 => rfl
    | 7, h1 => rfl
    | 8, h1 => simp [cW, eEn, ePt, eSc, eSu, eBP, eMo, st3_n, st3_v]
    | 9, h1 => simp [cW, eEn, ePt, eSc, eSu, eBP, eMo, st3_n, st3_v]
    | 10, h1 => have hk1 : k1 ≠ k := fun z => h1 ⟨rfl, z⟩; simp [cW, eEn, ePt, eSc, eSu, eBP, eMo, st3_n, st3_i hk1]
    | 11, h1 => simp [cW, eEn, ePt, eSc, eSu, eBP, eMo, st3_n, st3_v]
    | 12, h1 => rfl
    | n + 13, h1 => rfl
theorem pK11 (hk : k < 2 * g.2.2) (j : Nat) (v : Int32) : u2 (cW D ad (g, σ) T o) 11 k (eI D 20 (upd (σ 24 k) j v)) = cW D ad (g, st3 σ 24 k j v) T o := by
  funext f1 k1
  unfold u2
  split
  · rename_i h1
    obtain ⟨rfl, rfl⟩ := h1
    simp only [cW, if_pos hk]
    rw [st3_s]
  · rename_i h1
    match f1, h1 with
    | 0, h1 => simp [cW, eEn, ePt, eSc, eSu, eBP, eMo, st3_n, st3_v]
    | 1, h1 => simp [cW, eEn, ePt, eSc, eSu, eBP, eMo, st3_n, st3_v]
    | 2, h1 => simp [cW, eEn, ePt, eSc, eSu, eBP, eMo, st3_n, st3_v]
    | 3, h1 => simp [cW, eEn, ePt, eSc, eSu, eBP, eMo, st3_n, st3_v]
    | 4, h1 => simp [cW, eEn, ePt, eSc, eSu, eBP, eMo, st3_n, st3_v]
    | 5, h1 => rfl
    | 6, h1 => rfl
    | 7, h1 => rfl
    | 8, h1 => simp [cW, eEn, ePt, eSc, eSu, eBP, eMo, st3_n, st3_v]
    | 9, h1 => simp [cW, eEn, ePt, eSc, eSu, eBP, eMo, st3_n, st3_v]
    | 10, h1 => simp [cW, eEn, ePt, eSc, eSu, eBP, eMo, st3_n, st3_v]
    | 11, h1 => have hk1 : k1 ≠ k := fun z => h1 ⟨rfl, z⟩; simp [cW, eEn, ePt, eSc, eSu, eBP, eMo, st3_n, st3_i hk1]
    | 12, h1 => rfl
    | n + 13, h1 => rfl
theorem pM0 (v : Int32) : u2 (cW D ad S (h, τ, th) o) 5 0 (.inr (5, [.int v, .int (nI h.1), .int (nI h.2.1), .int (nI h.2.2), .int (τ 26 0 0), .ref (ad 12 0), .ref (ad 12 1), .ref (ad 12 2), .ref (ad 12 3), .ref (ad 12 4), .ref (ad 12 5), .ref (ad 12 6), .ref (ad 12 7), .ref (ad 12 8), .ref (ad 12 9), .ref (ad 12 10), .ref (ad 12 11), .ref (ad 12 12), .ref (ad 12 13), .ref (ad 12 14), .ref (ad 12 15), .ref (ad 12 16), .ref (ad 12 17), .ref (ad 12 18), .int th])) = cW D ad S (h, st3 τ 25 0 0 v, th) o := by
  funext f1 k1
  unfold u2
  split
  · rename_i h1
    obtain ⟨rfl, rfl⟩ := h1
    simp [cW, eMo, st3_n, st3_v]
  · rename_i h1
    match f1, h1 with
    | 0, h1 => rfl
    | 1, h1 => rfl
    | 2, h1 => rfl
    | 3, h1 => rfl
    | 4, h1 => rfl
    | 5, h1 => have hk1 : k1 ≠ 0 := fun z => h1 ⟨rfl, z⟩; simp [cW, hk1]
    | 6, h1 => rfl
    | 7, h1 => rfl
    | 8, h1 => rfl
    | 9, h1 => rfl
    | 10, h1 => rfl
    | 11, h1 => rfl
    | 12, h1 =>
      show mAr D _ k1 = mAr D _ k1
      match k1 with
      | 0 => simp [mAr, st3_n]
      | 1 => simp [mAr, st3_n]
      | 2 => simp [mAr, st3_n]
      | 3 => simp [mAr, st3_n]
      | 4 => simp [mAr, st3_n]
      | 5 => simp [mAr, st3_n]
      | 6 => simp [mAr, st3_n]
      | 7 => simp [mAr, st3_n]
      | 8 => simp [mAr, st3_n]
      | 9 => simp [mAr, st3_n]
      | 10 => simp [mAr, st3_n]
      | 11 => simp [mAr, st3_n]
      | 12 => simp [mAr, st3_n]
      | 13 => simp [mAr, st3_n]
      | 14 => simp [mAr, st3_n]
      | 15 => simp [mAr, st3_n]
      | 16 => simp [mAr, st3_n]
      | 17 => simp [mAr, st3_n]
      | 18 => simp [mAr, st3_n]
      | n + 19 => rfl
    | n + 13, h1 => rfl
theorem pM4 (v : Int32) : u2 (cW D ad S (h, τ, th) o) 5 0 (.inr (5, [.int (τ 25 0 0), .int (nI h.1), .int (nI h.2.1), .int (nI h.2.2), .int v, .ref (ad 12 0), .ref (ad 12 1), .ref (ad 12 2), .ref (ad 12 3), .ref (ad 12 4), .ref (ad 12 5), .ref (ad 12 6), .ref (ad 12 7), .ref (ad 12 8), .ref (ad 12 9), .ref (ad 12 10), .ref (ad 12 11), .ref (ad 12 12), .ref (ad 12 13), .ref (ad 12 14), .ref (ad 12 15), .ref (ad 12 16), .ref (ad 12 17), .ref (ad 12 18), .int th])) = cW D ad S (h, st3 τ 26 0 0 v, th) o := by
  funext f1 k1
  unfold u2
  split
  · rename_i h1
    obtain ⟨rfl, rfl⟩ := h1
    simp [cW, eMo, st3_n, st3_v]
  · rename_i h1
    match f1, h1 with
    | 0, h1 => rfl
    | 1, h1 => rfl
    | 2, h1 => rfl
    | 3, h1 => rfl
    | 4, h1 => rfl
    | 5, h1 => have hk1 : k1 ≠ 0 := fun z => h1 ⟨rfl, z⟩; simp [cW, hk1]
    | 6, h1 => rfl
    | 7, h1 => rfl
    | 8, h1 => rfl
    | 9, h1 => rfl
    | 10, h1 => rfl
    | 11, h1 => rfl
    | 12, h1 =>
      show mAr D _ k1 = mAr D _ k1
      match k1 with
      | 0 => simp [mAr, st3_n]
      | 1 => simp [mAr, st3_n]
      | 2 => simp [mAr, st3_n]
      | 3 => simp [mAr, st3_n]
      | 4 => simp [mAr, st3_n]
      | 5 => simp [mAr, st3_n]
      | 6 => simp [mAr, st3_n]
      | 7 => simp [mAr, st3_n]
      | 8 => simp [mAr, st3_n]
      | 9 => simp [mAr, st3_n]
      | 10 => simp [mAr, st3_n]
      | 11 => simp [mAr, st3_n]
      | 12 => simp [mAr, st3_n]
      | 13 => simp [mAr, st3_n]
      | 14 => simp [mAr, st3_n]
      | 15 => simp [mAr, st3_n]
      | 16 => simp [mAr, st3_n]
      | 17 => simp [mAr, st3_n]
      | 18 => simp [mAr, st3_n]
      | n + 19 => rfl
    | n + 13, h1 => rfl
theorem pM24 (v : Int32) : u2 (cW D ad S (h, τ, th) o) 5 0 (.inr (5, [.int (τ 25 0 0), .int (nI h.1), .int (nI h.2.1), .int (nI h.2.2), .int (τ 26 0 0), .ref (ad 12 0), .ref (ad 12 1), .ref (ad 12 2), .ref (ad 12 3), .ref (ad 12 4), .ref (ad 12 5), .ref (ad 12 6), .ref (ad 12 7), .ref (ad 12 8), .ref (ad 12 9), .ref (ad 12 10), .ref (ad 12 11), .ref (ad 12 12), .ref (ad 12 13), .ref (ad 12 14), .ref (ad 12 15), .ref (ad 12 16), .ref (ad 12 17), .ref (ad 12 18), .int v])) = cW D ad S (h, τ, v) o := by
  funext f1 k1
  unfold u2
  split
  · rename_i h1
    obtain ⟨rfl, rfl⟩ := h1
    simp [cW, eMo, st3_n, st3_v]
  · rename_i h1
    match f1, h1 with
    | 0, h1 => rfl
    | 1, h1 => rfl
    | 2, h1 => rfl
    | 3, h1 => rfl
    | 4, h1 => rfl
    | 5, h1 => have hk1 : k1 ≠ 0 := fun z => h1 ⟨rfl, z⟩; simp [cW, hk1]
    | 6, h1 => rfl
    | 7, h1 => rfl
    | 8, h1 => rfl
    | 9, h1 => rfl
    | 10, h1 => rfl
    | 11, h1 => rfl
    | 12, h1 => rfl
    | n + 13, h1 => rfl
theorem pM1 (v : Nat) : u2 (cW D ad S (h, τ, th) o) 5 0 (.inr (5, [.int (τ 25 0 0), .int (nI v), .int (nI h.2.1), .int (nI h.2.2), .int (τ 26 0 0), .ref (ad 12 0), .ref (ad 12 1), .ref (ad 12 2), .ref (ad 12 3), .ref (ad 12 4), .ref (ad 12 5), .ref (ad 12 6), .ref (ad 12 7), .ref (ad 12 8), .ref (ad 12 9), .ref (ad 12 10), .ref (ad 12 11), .ref (ad 12 12), .ref (ad 12 13), .ref (ad 12 14), .ref (ad 12 15), .ref (ad 12 16), .ref (ad 12 17), .ref (ad 12 18), .int th])) = cW D ad S ((v, h.2), τ, th) o := by
  funext f1 k1
  unfold u2
  split
  · rename_i h1
    obtain ⟨rfl, rfl⟩ := h1
    simp [cW, eMo, st3_n, st3_v]
  · rename_i h1
    match f1, h1 with
    | 0, h1 => rfl
    | 1, h1 => rfl
    | 2, h1 => rfl
    | 3, h1 => rfl
    | 4, h1 => rfl
    | 5, h1 => have hk1 : k1 ≠ 0 := fun z => h1 ⟨rfl, z⟩; simp [cW, hk1]
    | 6, h1 => rfl
    | 7, h1 => rfl
    | 8, h1 => rfl
    | 9, h1 => rfl
    | 10, h1 => rfl
    | 11, h1 => rfl
    | 12, h1 => rfl
    | n + 13, h1 => rfl
theorem pM2 (v : Nat) : u2 (cW D ad S (h, τ, th) o) 5 0 (.inr (5, [.int (τ 25 0 0), .int (nI h.1), .int (nI v), .int (nI h.2.2), .int (τ 26 0 0), .ref (ad 12 0), .ref (ad 12 1), .ref (ad 12 2), .ref (ad 12 3), .ref (ad 12 4), .ref (ad 12 5), .ref (ad 12 6), .ref (ad 12 7), .ref (ad 12 8), .ref (ad 12 9), .ref (ad 12 10), .ref (ad 12 11), .ref (ad 12 12), .ref (ad 12 13), .ref (ad 12 14), .ref (ad 12 15), .ref (ad 12 16), .ref (ad 12 17), .ref (ad 12 18), .int th])) = cW D ad S ((h.1, v, h.2.2), τ, th) o := by
  funext f1 k1
  unfold u2
  split
  · rename_i h1
    obtain ⟨rfl, rfl⟩ := h1
    simp [cW, eMo, st3_n, st3_v]
  · rename_i h1
    match f1, h1 with
    | 0, h1 => rfl
    | 1, h1 => rfl
    | 2, h1 => rfl
    | 3, h1 => rfl
    | 4, h1 => rfl
    | 5, h1 => have hk1 : k1 ≠ 0 := fun z => h1 ⟨rfl, z⟩; simp [cW, hk1]
    | 6, h1 => rfl
    | 7, h1 => rfl
    | 8, h1 => rfl
    | 9, h1 => rfl
    | 10, h1 => rfl
    | 11, h1 => rfl
    | 12, h1 => rfl
    | n + 13, h1 => rfl
theorem pM3 (v : Nat) : u2 (cW D ad S (h, τ, th) o) 5 0 (.inr (5, [.int (τ 25 0 0), .int (nI h.1), .int (nI h.2.1), .int (nI v), .int (τ 26 0 0), .ref (ad 12 0), .ref (ad 12 1), .ref (ad 12 2), .ref (ad 12 3), .ref (ad 12 4), .ref (ad 12 5), .ref (ad 12 6), .ref (ad 12 7), .ref (ad 12 8), .ref (ad 12 9), .ref (ad 12 10), .ref (ad 12 11), .ref (ad 12 12), .ref (ad 12 13), .ref (ad 12 14), .ref (ad 12 15), .ref (ad 12 16), .ref (ad 12 17), .ref (ad 12 18), .int th])) = cW D ad S ((h.1, h.2.1, v), τ, th) o := by
  funext f1 k1
  unfold u2
  split
  · rename_i h1
    obtain ⟨rfl, rfl⟩ := h1
    simp [cW, eMo, st3_n, st3_v]
  · rename_i h1
    match f1, h1 with
    | 0, h1 => rfl
    | 1, h1 => rfl
    | 2, h1 => rfl
    | 3, h1 => rfl
    | 4, h1 => rfl
    | 5, h1 => have hk1 : k1 ≠ 0 := fun z => h1 ⟨rfl, z⟩; simp [cW, hk1]
    | 6, h1 => rfl
    | 7, h1 => rfl
    | 8, h1 => rfl
    | 9, h1 => rfl
    | 10, h1 => rfl
    | 11, h1 => rfl
    | 12, h1 => rfl
    | n + 13, h1 => rfl
theorem pA0 (p : Nat) (v : Int32) : u2 (cW D ad S (h, τ, th) o) 12 0 (eZ D 16 (upd (fun q => τ 1 q 0) p v)) = cW D ad S (h, st3 τ 1 p 0 v, th) o := by
  funext f1 k1
  unfold u2
  split
  · rename_i h1
    obtain ⟨rfl, rfl⟩ := h1
    show some _ = some _
    congr 4
    funext q1
    simp [upd, st3]
  · rename_i h1
    match f1, h1 with
    | 0, h1 => rfl
    | 1, h1 => rfl
    | 2, h1 => rfl
    | 3, h1 => rfl
    | 4, h1 => rfl
    | 5, h1 => simp [cW, eEn, ePt, eSc, eSu, eBP, eMo, st3_n, st3_v]
    | 6, h1 => rfl
    | 7, h1 => rfl
    | 8, h1 => rfl
    | 9, h1 => rfl
    | 10, h1 => rfl
    | 11, h1 => rfl
    | 12, h1 =>
      show mAr D _ k1 = mAr D _ k1
      match k1, h1 with
      | 0, h1 => exact absurd ⟨rfl, rfl⟩ h1
      | 1, h1 => simp [mAr, st3_n]
      | 2, h1 => simp [mAr, st3_n]
      | 3, h1 => simp [mAr, st3_n]
      | 4, h1 => simp [mAr, st3_n]
      | 5, h1 => simp [mAr, st3_n]
      | 6, h1 => simp [mAr, st3_n]
      | 7, h1 => simp [mAr, st3_n]
      | 8, h1 => simp [mAr, st3_n]
      | 9, h1 => simp [mAr, st3_n]
      | 10, h1 => simp [mAr, st3_n]
      | 11, h1 => simp [mAr, st3_n]
      | 12, h1 => simp [mAr, st3_n]
      | 13, h1 => simp [mAr, st3_n]
      | 14, h1 => simp [mAr, st3_n]
      | 15, h1 => simp [mAr, st3_n]
      | 16, h1 => simp [mAr, st3_n]
      | 17, h1 => simp [mAr, st3_n]
      | 18, h1 => simp [mAr, st3_n]
      | n + 19, h1 => rfl
    | n + 13, h1 => rfl
theorem pA1 (p : Nat) (v : Int32) : u2 (cW D ad S (h, τ, th) o) 12 1 (eI D 16 (upd (fun q => τ 2 q 0) p v)) = cW D ad S (h, st3 τ 2 p 0 v, th) o := by
  funext f1 k1
  unfold u2
  split
  · rename_i h1
    obtain ⟨rfl, rfl⟩ := h1
    show some _ = some _
    congr 4
    funext q1
    simp [upd, st3]
  · rename_i h1
    match f1, h1 with
    | 0, h1 => rfl
    | 1, h1 => rfl
    | 2, h1 => rfl
    | 3, h1 => rfl
    | 4, h1 => rfl
    | 5, h1 => simp [cW, eEn, ePt, eSc, eSu, eBP, eMo, st3_n, st3_v]
    | 6, h1 => rfl
    | 7, h1 => rfl
    | 8, h1 => rfl
    | 9, h1 => rfl
    | 10, h1 => rfl
    | 11, h1 => rfl
    | 12, h1 =>
      show mAr D _ k1 = mAr D _ k1
      match k1, h1 with
      | 0, h1 => simp [mAr, st3_n]
      | 1, h1 => exact absurd ⟨rfl, rfl⟩ h1
      | 2, h1 => simp [mAr, st3_n]
      | 3, h1 => simp [mAr, st3_n]
      | 4, h1 => simp [mAr, st3_n]
      | 5, h1 => simp [mAr, st3_n]
      | 6, h1 => simp [mAr, st3_n]
      | 7, h1 => simp [mAr, st3_n]
      | 8, h1 => simp [mAr, st3_n]
      | 9, h1 => simp [mAr, st3_n]
      | 10, h1 => simp [mAr, st3_n]
      | 11, h1 => simp [mAr, st3_n]
      | 12, h1 => simp [mAr, st3_n]
      | 13, h1 => simp [mAr, st3_n]
      | 14, h1 => simp [mAr, st3_n]
      | 15, h1 => simp [mAr, st3_n]
      | 16, h1 => simp [mAr, st3_n]
      | 17, h1 => simp [mAr, st3_n]
      | 18, h1 => simp [mAr, st3_n]
      | n + 19, h1 => rfl
    | n + 13, h1 => rfl
theorem pA2 (p : Nat) (v : Int32) : u2 (cW D ad S (h, τ, th) o) 12 2 (eI D 16 (upd (fun q => τ 3 q 0) p v)) = cW D ad S (h, st3 τ 3 p 0 v, th) o := by
  funext f1 k1
  unfold u2
  split
  · rename_i h1
    obtain ⟨rfl, rfl⟩ := h1
    show some _ = some _
    congr 4
    funext q1
    simp [upd, st3]
  · rename_i h1
    match f1, h1 with
    | 0, h1 => rfl
    | 1, h1 => rfl
    | 2, h1 => rfl
    | 3, h1 => rfl
    | 4, h1 => rfl
    | 5, h1 => simp [cW, eEn, ePt, eSc, eSu, eBP, eMo, st3_n, st3_v]
    | 6, h1 => rfl
    | 7, h1 => rfl
    | 8, h1 => rfl
    | 9, h1 => rfl
    | 10, h1 => rfl
    | 11, h1 => rfl
    | 12, h1 =>
      show mAr D _ k1 = mAr D _ k1
      match k1, h1 with
      | 0, h1 => simp [mAr, st3_n]
      | 1, h1 => simp [mAr, st3_n]
      | 2, h1 => exact absurd ⟨rfl, rfl⟩ h1
      | 3, h1 => simp [mAr, st3_n]
      | 4, h1 => simp [mAr, st3_n]
      | 5, h1 => simp [mAr, st3_n]
      | 6, h1 => simp [mAr, st3_n]
      | 7, h1 => simp [mAr, st3_n]
      | 8, h1 => simp [mAr, st3_n]
      | 9, h1 => simp [mAr, st3_n]
      | 10, h1 => simp [mAr, st3_n]
      | 11, h1 => simp [mAr, st3_n]
      | 12, h1 => simp [mAr, st3_n]
      | 13, h1 => simp [mAr, st3_n]
      | 14, h1 => simp [mAr, st3_n]
      | 15, h1 => simp [mAr, st3_n]
      | 16, h1 => simp [mAr, st3_n]
      | 17, h1 => simp [mAr, st3_n]
      | 18, h1 => simp [mAr, st3_n]
      | n + 19, h1 => rfl
    | n + 13, h1 => rfl
theorem pA3 (p : Nat) (v : Int32) : u2 (cW D ad S (h, τ, th) o) 12 3 (eI D 16 (upd (fun q => τ 4 q 0) p v)) = cW D ad S (h, st3 τ 4 p 0 v, th) o := by
  funext f1 k1
  unfold u2
  split
  · rename_i h1
    obtain ⟨rfl, rfl⟩ := h1
    show some _ = some _
    congr 4
    funext q1
    simp [upd, st3]
  · rename_i h1
    match f1, h1 with
    | 0, h1 => rfl
    | 1, h1 => rfl
    | 2, h1 => rfl
    | 3, h1 => rfl
    | 4, h1 => rfl
    | 5, h1 => simp [cW, eEn, ePt, eSc, eSu, eBP, eMo, st3_n, st3_v]
    | 6, h1 => rfl
    | 7, h1 => rfl
    | 8, h1 => rfl
    | 9, h1 => rfl
    | 10, h1 => rfl
    | 11, h1 => rfl
    | 12, h1 =>
      show mAr D _ k1 = mAr D _ k1
      match k1, h1 with
      | 0, h1 => simp [mAr, st3_n]
      | 1, h1 => simp [mAr, st3_n]
      | 2, h1 => simp [mAr, st3_n]
      | 3, h1 => exact absurd ⟨rfl, rfl⟩ h1
      | 4, h1 => simp [mAr, st3_n]
      | 5, h1 => simp [mAr, st3_n]
      | 6, h1 => simp [mAr, st3_n]
      | 7, h1 => simp [mAr, st3_n]
      | 8, h1 => simp [mAr, st3_n]
      | 9, h1 => simp [mAr, st3_n]
      | 10, h1 => simp [mAr, st3_n]
      | 11, h1 => simp [mAr, st3_n]
      | 12, h1 => simp [mAr, st3_n]
      | 13, h1 => simp [mAr, st3_n]
      | 14, h1 => simp [mAr, st3_n]
      | 15, h1 => simp [mAr, st3_n]
      | 16, h1 => simp [mAr, st3_n]
      | 17, h1 => simp [mAr, st3_n]
      | 18, h1 => simp [mAr, st3_n]
      | n + 19, h1 => rfl
    | n + 13, h1 => rfl
theorem pA4 (p : Nat) (v : Int32) : u2 (cW D ad S (h, τ, th) o) 12 4 (eI D 16 (upd (fun q => τ 5 q 0) p v)) = cW D ad S (h, st3 τ 5 p 0 v, th) o := by
  funext f1 k1
  unfold u2
  split
  · rename_i h1
    obtain ⟨rfl, rfl⟩ := h1
    show some _ = some _
    congr 4
    funext q1
    simp [upd, st3]
  · rename_i h1
    match f1, h1 with
    | 0, h1 => rfl
    | 1, h1 => rfl
    | 2, h1 => rfl
    | 3, h1 => rfl
    | 4, h1 => rfl
    | 5, h1 => simp [cW, eEn, ePt, eSc, eSu, eBP, eMo, st3_n, st3_v]
    | 6, h1 => rfl
    | 7, h1 => rfl
    | 8, h1 => rfl
    | 9, h1 => rfl
    | 10, h1 => rfl
    | 11, h1 => rfl
    | 12, h1 =>
      show mAr D _ k1 = mAr D _ k1
      match k1, h1 with
      | 0, h1 => simp [mAr, st3_n]
      | 1, h1 => simp [mAr, st3_n]
      | 2, h1 => simp [mAr, st3_n]
      | 3, h1 => simp [mAr, st3_n]
      | 4, h1 => exact absurd ⟨rfl, rfl⟩ h1
      | 5, h1 => simp [mAr, st3_n]
      | 6, h1 => simp [mAr, st3_n]
      | 7, h1 => simp [mAr, st3_n]
      | 8, h1 => simp [mAr, st3_n]
      | 9, h1 => simp [mAr, st3_n]
      | 10, h1 => simp [mAr, st3_n]
      | 11, h1 => simp [mAr, st3_n]
      | 12, h1 => simp [mAr, st3_n]
      | 13, h1 => simp [mAr, st3_n]
      | 14, h1 => simp [mAr, st3_n]
      | 15, h1 => simp [mAr, st3_n]
      | 16, h1 => simp [mAr, st3_n]
      | 17, h1 => simp [mAr, st3_n]
      | 18, h1 => simp [mAr, st3_n]
      | n + 19, h1 => rfl
    | n + 13, h1 => rfl
theorem pA5 {p j : Nat} (hj : j < 16) (v : Int32) : u2 (cW D ad S (h, τ, th) o) 12 5 (eI D 256 (upd (fun q => τ 6 (q / 16) (q % 16 + 1)) (16 * p + j) v)) = cW D ad S (h, st3 τ 6 p (j + 1) v, th) o := by
  funext f1 k1
  unfold u2
  split
  · rename_i h1
    obtain ⟨rfl, rfl⟩ := h1
    show some _ = some _
    congr 4
    funext q1
    have e : q1 = 16 * p + j ↔ (q1 / 16 = p ∧ q1 % 16 + 1 = j + 1) := by omega
    simp [upd, st3, e]
  · rename_i h1
    match f1, h1 with
    | 0, h1 => rfl
    | 1, h1 => rfl
    | 2, h1 => rfl
    | 3, h1 => rfl
    | 4, h1 => rfl
    | 5, h1 => simp [cW, eEn, ePt, eSc, eSu, eBP, eMo, st3_n, st3_v]
    | 6, h1 => rfl
    | 7, h1 => rfl
    | 8, h1 => rfl
    | 9, h1 => rfl
    | 10, h1 => rfl
    | 11, h1 => rfl
    | 12, h1 =>
      show mAr D _ k1 = mAr D _ k1
      match k1, h1 with
      | 0, h1 => simp [mAr, st3_n]
      | 1, h1 => simp [mAr, st3_n]
      | 2, h1 => simp [mAr, st3_n]
      | 3, h1 => simp [mAr, st3_n]
      | 4, h1 => simp [mAr, st3_n]
      | 5, h1 => exact absurd ⟨rfl, rfl⟩ h1
      | 6, h1 => simp [mAr, st3_n]
      | 7, h1 => simp [mAr, st3_n]
      | 8, h1 => simp [mAr, st3_n]
      | 9, h1 => simp [mAr, st3_n]
      | 10, h1 => simp [mAr, st3_n]
      | 11, h1 => simp [mAr, st3_n]
      | 12, h1 => simp [mAr, st3_n]
      | 13, h1 => simp [mAr, st3_n]
      | 14, h1 => simp [mAr, st3_n]
      | 15, h1 => simp [mAr, st3_n]
      | 16, h1 => simp [mAr, st3_n]
      | 17, h1 => simp [mAr, st3_n]
      | 18, h1 => simp [mAr, st3_n]
      | n + 19, h1 => rfl
    | n + 13, h1 => rfl
theorem pA6 (p : Nat) (v : Int32) : u2 (cW D ad S (h, τ, th) o) 12 6 (eI D 30 (upd (fun q => τ 8 q 0) p v)) = cW D ad S (h, st3 τ 8 p 0 v, th) o := by
  funext f1 k1
  unfold u2
  split
  · rename_i h1
    obtain ⟨rfl, rfl⟩ := h1
    show some _ = some _
    congr 4
    funext q1
    simp [upd, st3]
  · rename_i h1
    match f1, h1 with
    | 0, h1 => rfl
    | 1, h1 => rfl
    | 2, h1 => rfl
    | 3, h1 => rfl
    | 4, h1 => rfl
    | 5, h1 => simp [cW, eEn, ePt, eSc, eSu, eBP, eMo, st3_n, st3_v]
    | 6, h1 => rfl
    | 7, h1 => rfl
    | 8, h1 => rfl
    | 9, h1 => rfl
    | 10, h1 => rfl
    | 11, h1 => rfl
    | 12, h1 =>
      show mAr D _ k1 = mAr D _ k1
      match k1, h1 with
      | 0, h1 => simp [mAr, st3_n]
      | 1, h1 => simp [mAr, st3_n]
      | 2, h1 => simp [mAr, st3_n]
      | 3, h1 => simp [mAr, st3_n]
      | 4, h1 => simp [mAr, st3_n]
      | 5, h1 => simp [mAr, st3_n]
      | 6, h1 => exact absurd ⟨rfl, rfl⟩ h1
      | 7, h1 => simp [mAr, st3_n]
      | 8, h1 => simp [mAr, st3_n]
      | 9, h1 => simp [mAr, st3_n]
      | 10, h1 => simp [mAr, st3_n]
      | 11, h1 => simp [mAr, st3_n]
      | 12, h1 => simp [mAr, st3_n]
      | 13, h1 => simp [mAr, st3_n]
      | 14, h1 => simp [mAr, st3_n]
      | 15, h1 => simp [mAr, st3_n]
      | 16, h1 => simp [mAr, st3_n]
      | 17, h1 => simp [mAr, st3_n]
      | 18, h1 => simp [mAr, st3_n]
      | n + 19, h1 => rfl
    | n + 13, h1 => rfl
theorem pA7 (p : Nat) (v : Int32) : u2 (cW D ad S (h, τ, th) o) 12 7 (eI D 30 (upd (fun q => τ 9 q 0) p v)) = cW D ad S (h, st3 τ 9 p 0 v, th) o := by
  funext f1 k1
  unfold u2
  split
  · rename_i h1
    obtain ⟨rfl, rfl⟩ := h1
    show some _ = some _
    congr 4
    funext q1
    simp [upd, st3]
  · rename_i h1
    match f1, h1 with
    | 0, h1 => rfl
    | 1, h1 => rfl
    | 2, h1 => rfl
    | 3, h1 => rfl
    | 4, h1 => rfl
    | 5, h1 => simp [cW, eEn, ePt, eSc, eSu, eBP, eMo, st3_n, st3_v]
    | 6, h1 => rfl
    | 7, h1 => rfl
    | 8, h1 => rfl
    | 9, h1 => rfl
    | 10, h1 => rfl
    | 11, h1 => rfl
    | 12, h1 =>
      show mAr D _ k1 = mAr D _ k1
      match k1, h1 with
      | 0, h1 => simp [mAr, st3_n]
      | 1, h1 => simp [mAr, st3_n]
      | 2, h1 => simp [mAr, st3_n]
      | 3, h1 => simp [mAr, st3_n]
      | 4, h1 => simp [mAr, st3_n]
      | 5, h1 => simp [mAr, st3_n]
      | 6, h1 => simp [mAr, st3_n]
      | 7, h1 => exact absurd ⟨rfl, rfl⟩ h1
      | 8, h1 => simp [mAr, st3_n]
      | 9, h1 => simp [mAr, st3_n]
      | 10, h1 => simp [mAr, st3_n]
      | 11, h1 => simp [mAr, st3_n]
      | 12, h1 => simp [mAr, st3_n]
      | 13, h1 => simp [mAr, st3_n]
      | 14, h1 => simp [mAr, st3_n]
      | 15, h1 => simp [mAr, st3_n]
      | 16, h1 => simp [mAr, st3_n]
      | 17, h1 => simp [mAr, st3_n]
      | 18, h1 => simp [mAr, st3_n]
      | n + 19, h1 => rfl
    | n + 13, h1 => rfl
theorem pA8 (p : Nat) (v : Int32) : u2 (cW D ad S (h, τ, th) o) 12 8 (eI D 30 (upd (fun q => τ 10 q 0) p v)) = cW D ad S (h, st3 τ 10 p 0 v, th) o := by
  funext f1 k1
  unfold u2
  split
  · rename_i h1
    obtain ⟨rfl, rfl⟩ := h1
    show some _ = some _
    congr 4
    funext q1
    simp [upd, st3]
  · rename_i h1
    match f1, h1 with
    | 0, h1 => rfl
    | 1, h1 => rfl
    | 2, h1 => rfl
    | 3, h1 => rfl
    | 4, h1 => rfl
    | 5, h1 => simp [cW, eEn, ePt, eSc, eSu, eBP, eMo, st3_n, st3_v]
    | 6, h1 => rfl
    | 7, h1 => rfl
    | 8, h1 => rfl
    | 9, h1 => rfl
    | 10, h1 => rfl
    | 11, h1 => rfl
    | 12, h1 =>
      show mAr D _ k1 = mAr D _ k1
      match k1, h1 with
      | 0, h1 => simp [mAr, st3_n]
      | 1, h1 => simp [mAr, st3_n]
      | 2, h1 => simp [mAr, st3_n]
      | 3, h1 => simp [mAr, st3_n]
      | 4, h1 => simp [mAr, st3_n]
      | 5, h1 => simp [mAr, st3_n]
      | 6, h1 => simp [mAr, st3_n]
      | 7, h1 => simp [mAr, st3_n]
      | 8, h1 => exact absurd ⟨rfl, rfl⟩ h1
      | 9, h1 => simp [mAr, st3_n]
      | 10, h1 => simp [mAr, st3_n]
      | 11, h1 => simp [mAr, st3_n]
      | 12, h1 => simp [mAr, st3_n]
      | 13, h1 => simp [mAr, st3_n]
      | 14, h1 => simp [mAr, st3_n]
      | 15, h1 => simp [mAr, st3_n]
      | 16, h1 => simp [mAr, st3_n]
      | 17, h1 => simp [mAr, st3_n]
      | 18, h1 => simp [mAr, st3_n]
      | n + 19, h1 => rfl
    | n + 13, h1 => rfl
theorem pA9 (p : Nat) (v : Int32) : u2 (cW D ad S (h, τ, th) o) 12 9 (eZ D 30 (upd (fun q => τ 11 q 0) p v)) = cW D ad S (h, st3 τ 11 p 0 v, th) o := by
  funext f1 k1
  unfold u2
  split
  · rename_i h1
    obtain ⟨rfl, rfl⟩ := h1
    show some _ = some _
    congr 4
    funext q1
    simp [upd, st3]
  · rename_i h1
    match f1, h1 with
    | 0, h1 => rfl
    | 1, h1 => rfl
    | 2, h1 => rfl
    | 3, h1 => rfl
    | 4, h1 => rfl
    | 5, h1 => simp [cW, eEn, ePt, eSc, eSu, eBP, eMo, st3_n, st3_v]
    | 6, h1 => rfl
    | 7, h1 => rfl
    | 8, h1 => rfl
    | 9, h1 => rfl
    | 10, h1 => rfl
    | 11, h1 => rfl
    | 12, h1 =>
      show mAr D _ k1 = mAr D _ k1
      match k1, h1 with
      | 0, h1 => simp [mAr, st3_n]
      | 1, h1 => simp [mAr, st3_n]
      | 2, h1 => simp [mAr, st3_n]
      | 3, h1 => simp [mAr, st3_n]
      | 4, h1 => simp [mAr, st3_n]
      | 5, h1 => simp [mAr, st3_n]
      | 6, h1 => simp [mAr, st3_n]
      | 7, h1 => simp [mAr, st3_n]
      | 8, h1 => simp [mAr, st3_n]
      | 9, h1 => exact absurd ⟨rfl, rfl⟩ h1
      | 10, h1 => simp [mAr, st3_n]
      | 11, h1 => simp [mAr, st3_n]
      | 12, h1 => simp [mAr, st3_n]
      | 13, h1 => simp [mAr, st3_n]
      | 14, h1 => simp [mAr, st3_n]
      | 15, h1 => simp [mAr, st3_n]
      | 16, h1 => simp [mAr, st3_n]
      | 17, h1 => simp [mAr, st3_n]
      | 18, h1 => simp [mAr, st3_n]
      | n + 19, h1 => rfl
    | n + 13, h1 => rfl
theorem pA10 (p : Nat) (v : Int32) : u2 (cW D ad S (h, τ, th) o) 12 10 (eI D 30 (upd (fun q => τ 12 q 0) p v)) = cW D ad S (h, st3 τ 12 p 0 v, th) o := by
  funext f1 k1
  unfold u2
  split
  · rename_i h1
    obtain ⟨rfl, rfl⟩ := h1
    show some _ = some _
    congr 4
    funext q1
    simp [upd, st3]
  · rename_i h1
    match f1, h1 with
    | 0, h1 => rfl
    | 1, h1 => rfl
    | 2, h1 => rfl
    | 3, h1 => rfl
    | 4, h1 => rfl
    | 5, h1 => simp [cW, eEn, ePt, eSc, eSu, eBP, eMo, st3_n, st3_v]
    | 6, h1 => rfl
    | 7, h1 => rfl
    | 8, h1 => rfl
    | 9, h1 => rfl
    | 10, h1 => rfl
    | 11, h1 => rfl
    | 12, h1 =>
      show mAr D _ k1 = mAr D _ k1
      match k1, h1 with
      | 0, h1 => simp [mAr, st3_n]
      | 1, h1 => simp [mAr, st3_n]
      | 2, h1 => simp [mAr, st3_n]
      | 3, h1 => simp [mAr, st3_n]
      | 4, h1 => simp [mAr, st3_n]
      | 5, h1 => simp [mAr, st3_n]
      | 6, h1 => simp [mAr, st3_n]
      | 7, h1 => simp [mAr, st3_n]
      | 8, h1 => simp [mAr, st3_n]
      | 9, h1 => simp [mAr, st3_n]
      | 10, h1 => exact absurd ⟨rfl, rfl⟩ h1
      | 11, h1 => simp [mAr, st3_n]
      | 12, h1 => simp [mAr, st3_n]
      | 13, h1 => simp [mAr, st3_n]
      | 14, h1 => simp [mAr, st3_n]
      | 15, h1 => simp [mAr, st3_n]
      | 16, h1 => simp [mAr, st3_n]
      | 17, h1 => simp [mAr, st3_n]
      | 18, h1 => simp [mAr, st3_n]
      | n + 19, h1 => rfl
    | n + 13, h1 => rfl
theorem pA11 (p : Nat) (v : Int32) : u2 (cW D ad S (h, τ, th) o) 12 11 (eI D 30 (upd (fun q => τ 13 q 0) p v)) = cW D ad S (h, st3 τ 13 p 0 v, th) o := by
  funext f1 k1
  unfold u2
  split
  · rename_i h1
    obtain ⟨rfl, rfl⟩ := h1
    show some _ = some _
    congr 4
    funext q1
    simp [upd, st3]
  · rename_i h1
    match f1, h1 with
    | 0, h1 => rfl
    | 1, h1 => rfl
    | 2, h1 => rfl
    | 3, h1 => rfl
    | 4, h1 => rfl
    | 5, h1 => simp [cW, eEn, ePt, eSc, eSu, eBP, eMo, st3_n, st3_v]
    | 6, h1 => rfl
    | 7, h1 => rfl
    | 8, h1 => rfl
    | 9, h1 => rfl
    | 10, h1 => rfl
    | 11, h1 => rfl
    | 12, h1 =>
      show mAr D _ k1 = mAr D _ k1
      match k1, h1 with
      | 0, h1 => simp [mAr, st3_n]
      | 1, h1 => simp [mAr, st3_n]
      | 2, h1 => simp [mAr, st3_n]
      | 3, h1 => simp [mAr, st3_n]
      | 4, h1 => simp [mAr, st3_n]
      | 5, h1 => simp [mAr, st3_n]
      | 6, h1 => simp [mAr, st3_n]
      | 7, h1 => simp [mAr, st3_n]
      | 8, h1 => simp [mAr, st3_n]
      | 9, h1 => simp [mAr, st3_n]
      | 10, h1 => simp [mAr, st3_n]
      | 11, h1 => exact absurd ⟨rfl, rfl⟩ h1
      | 12, h1 => simp [mAr, st3_n]
      | 13, h1 => simp [mAr, st3_n]
      | 14, h1 => simp [mAr, st3_n]
      | 15, h1 => simp [mAr, st3_n]
      | 16, h1 => simp [mAr, st3_n]
      | 17, h1 => simp [mAr, st3_n]
      | 18, h1 => simp [mAr, st3_n]
      | n + 19, h1 => rfl
    | n + 13, h1 => rfl
theorem pA12 (p : Nat) (v : Int32) : u2 (cW D ad S (h, τ, th) o) 12 12 (eI D 4 (upd (fun q => τ 14 q 0) p v)) = cW D ad S (h, st3 τ 14 p 0 v, th) o := by
  funext f1 k1
  unfold u2
  split
  · rename_i h1
    obtain ⟨rfl, rfl⟩ := h1
    show some _ = some _
    congr 4
    funext q1
    simp [upd, st3]
  · rename_i h1
    match f1, h1 with
    | 0, h1 => rfl
    | 1, h1 => rfl
    | 2, h1 => rfl
    | 3, h1 => rfl
    | 4, h1 => rfl
    | 5, h1 => simp [cW, eEn, ePt, eSc, eSu, eBP, eMo, st3_n, st3_v]
    | 6, h1 => rfl
    | 7, h1 => rfl
    | 8, h1 => rfl
    | 9, h1 => rfl
    | 10, h1 => rfl
    | 11, h1 => rfl
    | 12, h1 =>
      show mAr D _ k1 = mAr D _ k1
      match k1, h1 with
      | 0, h1 => simp [mAr, st3_n]
      | 1, h1 => simp [mAr, st3_n]
      | 2, h1 => simp [mAr, st3_n]
      | 3, h1 => simp [mAr, st3_n]
      | 4, h1 => simp [mAr, st3_n]
      | 5, h1 => simp [mAr, st3_n]
      | 6, h1 => simp [mAr, st3_n]
      | 7, h1 => simp [mAr, st3_n]
      | 8, h1 => simp [mAr, st3_n]
      | 9, h1 => simp [mAr, st3_n]
      | 10, h1 => simp [mAr, st3_n]
      | 11, h1 => simp [mAr, st3_n]
      | 12, h1 => exact absurd ⟨rfl, rfl⟩ h1
      | 13, h1 => simp [mAr, st3_n]
      | 14, h1 => simp [mAr, st3_n]
      | 15, h1 => simp [mAr, st3_n]
      | 16, h1 => simp [mAr, st3_n]
      | 17, h1 => simp [mAr, st3_n]
      | 18, h1 => simp [mAr, st3_n]
      | n + 19, h1 => rfl
    | n + 13, h1 => rfl
theorem pA13 (p : Nat) (v : Int32) : u2 (cW D ad S (h, τ, th) o) 12 13 (eI D 4 (upd (fun q => τ 15 q 0) p v)) = cW D ad S (h, st3 τ 15 p 0 v, th) o := by
  funext f1 k1
  unfold u2
  split
  · rename_i h1
    obtain ⟨rfl, rfl⟩ := h1
    show some _ = some _
    congr 4
    funext q1
    simp [upd, st3]
  · rename_i h1
    match f1, h1 with
    | 0, h1 => rfl
    | 1, h1 => rfl
    | 2, h1 => rfl
    | 3, h1 => rfl
    | 4, h1 => rfl
    | 5, h1 => simp [cW, eEn, ePt, eSc, eSu, eBP, eMo, st3_n, st3_v]
    | 6, h1 => rfl
    | 7, h1 => rfl
    | 8, h1 => rfl
    | 9, h1 => rfl
    | 10, h1 => rfl
    | 11, h1 => rfl
    | 12, h1 =>
      show mAr D _ k1 = mAr D _ k1
      match k1, h1 with
      | 0, h1 => simp [mAr, st3_n]
      | 1, h1 => simp [mAr, st3_n]
      | 2, h1 => simp [mAr, st3_n]
      | 3, h1 => simp [mAr, st3_n]
      | 4, h1 => simp [mAr, st3_n]
      | 5, h1 => simp [mAr, st3_n]
      | 6, h1 => simp [mAr, st3_n]
      | 7, h1 => simp [mAr, st3_n]
      | 8, h1 => simp [mAr, st3_n]
      | 9, h1 => simp [mAr, st3_n]
      | 10, h1 => simp [mAr, st3_n]
      | 11, h1 => simp [mAr, st3_n]
      | 12, h1 => simp [mAr, st3_n]
      | 13, h1 => exact absurd ⟨rfl, rfl⟩ h1
      | 14, h1 => simp [mAr, st3_n]
      | 15, h1 => simp [mAr, st3_n]
      | 16, h1 => simp [mAr, st3_n]
      | 17, h1 => simp [mAr, st3_n]
      | 18, h1 => simp [mAr, st3_n]
      | n + 19, h1 => rfl
    | n + 13, h1 => rfl
theorem pA14 (p : Nat) (v : Int32) : u2 (cW D ad S (h, τ, th) o) 12 14 (eI D 4 (upd (fun q => τ 16 q 0) p v)) = cW D ad S (h, st3 τ 16 p 0 v, th) o := by
  funext f1 k1
  unfold u2
  split
  · rename_i h1
    obtain ⟨rfl, rfl⟩ := h1
    show some _ = some _
    congr 4
    funext q1
    simp [upd, st3]
  · rename_i h1
    match f1, h1 with
    | 0, h1 => rfl
    | 1, h1 => rfl
    | 2, h1 => rfl
    | 3, h1 => rfl
    | 4, h1 => rfl
    | 5, h1 => simp [cW, eEn, ePt, eSc, eSu, eBP, eMo, st3_n, st3_v]
    | 6, h1 => rfl
    | 7, h1 => rfl
    | 8, h1 => rfl
    | 9, h1 => rfl
    | 10, h1 => rfl
    | 11, h1 => rfl
    | 12, h1 =>
      show mAr D _ k1 = mAr D _ k1
      match k1, h1 with
      | 0, h1 => simp [mAr, st3_n]
      | 1, h1 => simp [mAr, st3_n]
      | 2, h1 => simp [mAr, st3_n]
      | 3, h1 => simp [mAr, st3_n]
      | 4, h1 => simp [mAr, st3_n]
      | 5, h1 => simp [mAr, st3_n]
      | 6, h1 => simp [mAr, st3_n]
      | 7, h1 => simp [mAr, st3_n]
      | 8, h1 => simp [mAr, st3_n]
      | 9, h1 => simp [mAr, st3_n]
      | 10, h1 => simp [mAr, st3_n]
      | 11, h1 => simp [mAr, st3_n]
      | 12, h1 => simp [mAr, st3_n]
      | 13, h1 => simp [mAr, st3_n]
      | 14, h1 => exact absurd ⟨rfl, rfl⟩ h1
      | 15, h1 => simp [mAr, st3_n]
      | 16, h1 => simp [mAr, st3_n]
      | 17, h1 => simp [mAr, st3_n]
      | 18, h1 => simp [mAr, st3_n]
      | n + 19, h1 => rfl
    | n + 13, h1 => rfl
theorem pA15 (p : Nat) (v : Int32) : u2 (cW D ad S (h, τ, th) o) 12 15 (eI D 4 (upd (fun q => τ 17 q 0) p v)) = cW D ad S (h, st3 τ 17 p 0 v, th) o := by
  funext f1 k1
  unfold u2
  split
  · rename_i h1
    obtain ⟨rfl, rfl⟩ := h1
    show some _ = some _
    congr 4
    funext q1
    simp [upd, st3]
  · rename_i h1
    match f1, h1 with
    | 0, h1 => rfl
    | 1, h1 => rfl
    | 2, h1 => rfl
    | 3, h1 => rfl
    | 4, h1 => rfl
    | 5, h1 => simp [cW, eEn, ePt, eSc, eSu, eBP, eMo, st3_n, st3_v]
    | 6, h1 => rfl
    | 7, h1 => rfl
    | 8, h1 => rfl
    | 9, h1 => rfl
    | 10, h1 => rfl
    | 11, h1 => rfl
    | 12, h1 =>
      show mAr D _ k1 = mAr D _ k1
      match k1, h1 with
      | 0, h1 => simp [mAr, st3_n]
      | 1, h1 => simp [mAr, st3_n]
      | 2, h1 => simp [mAr, st3_n]
      | 3, h1 => simp [mAr, st3_n]
      | 4, h1 => simp [mAr, st3_n]
      | 5, h1 => simp [mAr, st3_n]
      | 6, h1 => simp [mAr, st3_n]
      | 7, h1 => simp [mAr, st3_n]
      | 8, h1 => simp [mAr, st3_n]
      | 9, h1 => simp [mAr, st3_n]
      | 10, h1 => simp [mAr, st3_n]
      | 11, h1 => simp [mAr, st3_n]
      | 12, h1 => simp [mAr, st3_n]
      | 13, h1 => simp [mAr, st3_n]
      | 14, h1 => simp [mAr, st3_n]
      | 15, h1 => exact absurd ⟨rfl, rfl⟩ h1
      | 16, h1 => simp [mAr, st3_n]
      | 17, h1 => simp [mAr, st3_n]
      | 18, h1 => simp [mAr, st3_n]
      | n + 19, h1 => rfl
    | n + 13, h1 => rfl
theorem pA16 {p j : Nat} (hj : j < 20) (v : Int32) : u2 (cW D ad S (h, τ, th) o) 12 16 (eI D 80 (upd (fun q => τ 18 (q / 20) (q % 20)) (20 * p + j) v)) = cW D ad S (h, st3 τ 18 p j v, th) o := by
  funext f1 k1
  unfold u2
  split
  · rename_i h1
    obtain ⟨rfl, rfl⟩ := h1
    show some _ = some _
    congr 4
    funext q1
    have e : q1 = 20 * p + j ↔ (q1 / 20 = p ∧ q1 % 20 = j) := by omega
    simp [upd, st3, e]
  · rename_i h1
    match f1, h1 with
    | 0, h1 => rfl
    | 1, h1 => rfl
    | 2, h1 => rfl
    | 3, h1 => rfl
    | 4, h1 => rfl
    | 5, h1 => simp [cW, eEn, ePt, eSc, eSu, eBP, eMo, st3_n, st3_v]
    | 6, h1 => rfl
    | 7, h1 => rfl
    | 8, h1 => rfl
    | 9, h1 => rfl
    | 10, h1 => rfl
    | 11, h1 => rfl
    | 12, h1 =>
      show mAr D _ k1 = mAr D _ k1
      match k1, h1 with
      | 0, h1 => simp [mAr, st3_n]
      | 1, h1 => simp [mAr, st3_n]
      | 2, h1 => simp [mAr, st3_n]
      | 3, h1 => simp [mAr, st3_n]
      | 4, h1 => simp [mAr, st3_n]
      | 5, h1 => simp [mAr, st3_n]
      | 6, h1 => simp [mAr, st3_n]
      | 7, h1 => simp [mAr, st3_n]
      | 8, h1 => simp [mAr, st3_n]
      | 9, h1 => simp [mAr, st3_n]
      | 10, h1 => simp [mAr, st3_n]
      | 11, h1 => simp [mAr, st3_n]
      | 12, h1 => simp [mAr, st3_n]
      | 13, h1 => simp [mAr, st3_n]
      | 14, h1 => simp [mAr, st3_n]
      | 15, h1 => simp [mAr, st3_n]
      | 16, h1 => exact absurd ⟨rfl, rfl⟩ h1
      | 17, h1 => simp [mAr, st3_n]
      | 18, h1 => simp [mAr, st3_n]
      | n + 19, h1 => rfl
    | n + 13, h1 => rfl
theorem pA17 {p j : Nat} (hj : j < 20) (v : Int32) : u2 (cW D ad S (h, τ, th) o) 12 17 (eI D 80 (upd (fun q => τ 19 (q / 20) (q % 20)) (20 * p + j) v)) = cW D ad S (h, st3 τ 19 p j v, th) o := by
  funext f1 k1
  unfold u2
  split
  · rename_i h1
    obtain ⟨rfl, rfl⟩ := h1
    show some _ = some _
    congr 4
    funext q1
    have e : q1 = 20 * p + j ↔ (q1 / 20 = p ∧ q1 % 20 = j) := by omega
    simp [upd, st3, e]
  · rename_i h1
    match f1, h1 with
    | 0, h1 => rfl
    | 1, h1 => rfl
    | 2, h1 => rfl
    | 3, h1 => rfl
    | 4, h1 => rfl
    | 5, h1 => simp [cW, eEn, ePt, eSc, eSu, eBP, eMo, st3_n, st3_v]
    | 6, h1 => rfl
    | 7, h1 => rfl
    | 8, h1 => rfl
    | 9, h1 => rfl
    | 10, h1 => rfl
    | 11, h1 => rfl
    | 12, h1 =>
      show mAr D _ k1 = mAr D _ k1
      match k1, h1 with
      | 0, h1 => simp [mAr, st3_n]
      | 1, h1 => simp [mAr, st3_n]
      | 2, h1 => simp [mAr, st3_n]
      | 3, h1 => simp [mAr, st3_n]
      | 4, h1 => simp [mAr, st3_n]
      | 5, h1 => simp [mAr, st3_n]
      | 6, h1 => simp [mAr, st3_n]
      | 7, h1 => simp [mAr, st3_n]
      | 8, h1 => simp [mAr, st3_n]
      | 9, h1 => simp [mAr, st3_n]
      | 10, h1 => simp [mAr, st3_n]
      | 11, h1 => simp [mAr, st3_n]
      | 12, h1 => simp [mAr, st3_n]
      | 13, h1 => simp [mAr, st3_n]
      | 14, h1 => simp [mAr, st3_n]
      | 15, h1 => simp [mAr, st3_n]
      | 16, h1 => simp [mAr, st3_n]
      | 17, h1 => exact absurd ⟨rfl, rfl⟩ h1
      | 18, h1 => simp [mAr, st3_n]
      | n + 19, h1 => rfl
    | n + 13, h1 => rfl
theorem pA18 {p j : Nat} (hj : j < 20) (v : Int32) : u2 (cW D ad S (h, τ, th) o) 12 18 (eI D 80 (upd (fun q => τ 20 (q / 20) (q % 20)) (20 * p + j) v)) = cW D ad S (h, st3 τ 20 p j v, th) o := by
  funext f1 k1
  unfold u2
  split
  · rename_i h1
    obtain ⟨rfl, rfl⟩ := h1
    show some _ = some _
    congr 4
    funext q1
    have e : q1 = 20 * p + j ↔ (q1 / 20 = p ∧ q1 % 20 = j) := by omega
    simp [upd, st3, e]
  · rename_i h1
    match f1, h1 with
    | 0, h1 => rfl
    | 1, h1 => rfl
    | 2, h1 => rfl
    | 3, h1 => rfl
    | 4, h1 => rfl
    | 5, h1 => simp [cW, eEn, ePt, eSc, eSu, eBP, eMo, st3_n, st3_v]
    | 6, h1 => rfl
    | 7, h1 => rfl
    | 8, h1 => rfl
    | 9, h1 => rfl
    | 10, h1 => rfl
    | 11, h1 => rfl
    | 12, h1 =>
      show mAr D _ k1 = mAr D _ k1
      match k1, h1 with
      | 0, h1 => simp [mAr, st3_n]
      | 1, h1 => simp [mAr, st3_n]
      | 2, h1 => simp [mAr, st3_n]
      | 3, h1 => simp [mAr, st3_n]
      | 4, h1 => simp [mAr, st3_n]
      | 5, h1 => simp [mAr, st3_n]
      | 6, h1 => simp [mAr, st3_n]
      | 7, h1 => simp [mAr, st3_n]
      | 8, h1 => simp [mAr, st3_n]
      | 9, h1 => simp [mAr, st3_n]
      | 10, h1 => simp [mAr, st3_n]
      | 11, h1 => simp [mAr, st3_n]
      | 12, h1 => simp [mAr, st3_n]
      | 13, h1 => simp [mAr, st3_n]
      | 14, h1 => simp [mAr, st3_n]
      | 15, h1 => simp [mAr, st3_n]
      | 16, h1 => simp [mAr, st3_n]
      | 17, h1 => simp [mAr, st3_n]
      | 18, h1 => exact absurd ⟨rfl, rfl⟩ h1
      | n + 19, h1 => rfl
    | n + 13, h1 => rfl
theorem pO (v : Int64) : u2 (cW D ad S T o) 6 0 (eL D 1 (vp_updL (fun j => if j = 0 then o else 0) 0 v)) = cW D ad S T v := by
  funext f1 k1
  unfold u2
  split
  · rename_i h1
    obtain ⟨rfl, rfl⟩ := h1
    have e : vp_updL (fun j => if j = 0 then o else 0) 0 v = fun j => if j = 0 then v else 0 := by
      funext q1
      by_cases hq : q1 = 0 <;> simp [vp_updL, hq]
    rw [e]
    rfl
  · rename_i h1
    match f1, h1 with
    | 0, h1 => rfl
    | 1, h1 => rfl
    | 2, h1 => rfl
    | 3, h1 => rfl
    | 4, h1 => rfl
    | 5, h1 => rfl
    | 6, h1 => have hk1 : k1 ≠ 0 := fun z => h1 ⟨rfl, z⟩; simp [cW, hk1]
    | 7, h1 => rfl
    | 8, h1 => rfl
    | 9, h1 => rfl
    | 10, h1 => rfl
    | 11, h1 => rfl
    | 12, h1 => rfl
    | n + 13, h1 => rfl
end CW
end
section
/-! the document's steps, as functions of a memory: both the class and the model are held against these -/
def nth : Int32 := -100000
/-- the lowest priority from i on that has a command; 17 -/
def stF (c : Nat → Int32) : Nat → Nat → Nat
  | 0, _ => 17
  | n + 1, i => if c i = nth then stF c n (i + 1) else i
def stO (σ : Me) (k : Nat) : Nat := stF (σ 6 k) 16 1
def vaO (σ : Me) (k : Nat) : Int32 := if stO σ k < 17 then σ 6 k (stO σ k) else σ 2 k 0
theorem stF_le (c : Nat → Int32) : ∀ n i, i + n = 17 → stF c n i ≤ 17 ∧ i ≤ stF c n i
  | 0, i, h => by simp only [stF]; omega
  | n + 1, i, h => by
    have ih := stF_le c n (i + 1) (by omega)
    simp only [stF]
    split <;> omega
theorem stO_le (σ : Me) (k : Nat) : stO σ k ≤ 17 ∧ 1 ≤ stO σ k := stF_le _ 16 1 rfl
/-- how far a value lies from the one that is kept -/
def farO (v w : Int32) : Int32 := if w < v then v - w else w - v
def infS (k : Nat) (v : Int32) (s : Nat) (σ : Me) : Me :=
  if σ 8 s 0 = nI k ∧ σ 11 s 0 = 0 ∧ σ 9 s 0 ≤ farO v (σ 13 s 0) then st3 (st3 (st3 σ 13 s 0 v) 12 s 0 (σ 12 s 0 + 1)) 26 0 0 (σ 26 0 0 + 1) else σ
def infF (k : Nat) (v : Int32) : Nat → Nat → Me → Me
  | 0, _, σ => σ
  | n + 1, s, σ => infF k v n (s + 1) (infS k v s σ)
/-- a value that is another one: kept, counted, held -/
def chgF (k : Nat) (d t : Int32) (σ : Me) : Me :=
  if 0 < σ 3 k 0 then st3 (st3 (st3 (st3 σ 7 k 0 d) 5 k 0 (σ 5 k 0 + 1)) 6 k 6 d) 4 k 0 (t + σ 3 k 0) else st3 (st3 σ 7 k 0 d) 5 k 0 (σ 5 k 0 + 1)
def setF (ns k j : Nat) (v : Int32) (σ : Me) : Me :=
  if vaO (st3 σ 6 k j v) k = vaO σ k then st3 σ 6 k j v
  else infF k (vaO (st3 σ 6 k j v) k) ns 0 (chgF k (vaO (st3 σ 6 k j v) k) (σ 25 0 0) (st3 σ 6 k j v))
/-- lists of entries: is one for this day; the latest, and what it tells -/
def hasF (w : Nat → Int32) (d : Int32) (n : Nat) : Prop := ∃ i, i < n ∧ w i = d
def latF (w m t : Nat → Int32) (d x : Int32) : Nat → Int32 × Int32
  | 0 => (-1, nth)
  | n + 1 => if w n = d ∧ m n ≤ x ∧ (latF w m t d x n).1 ≤ m n then (m n, t n) else latF w m t d x n
noncomputable def bI (c : Prop) : Int32 := by classical exact if c then 1 else 0
theorem bI_t {c : Prop} (h : c) : bI c = 1 := by unfold bI; rw [if_pos h]
theorem bI_f {c : Prop} (h : ¬ c) : bI c = 0 := by unfold bI; rw [if_neg h]
theorem bI_01 (c : Prop) : bI c = 0 ∨ bI c = 1 := by
  by_cases h : c
  · exact Or.inr (bI_t h)
  · exact Or.inl (bI_f h)
theorem bI_0 {c : Prop} : bI c = 0 ↔ ¬ c := by
  by_cases h : c
  · rw [bI_t h]; exact ⟨fun q => absurd q (by decide), fun q => absurd h q⟩
  · rw [bI_f h]; exact ⟨fun _ => h, fun _ => rfl⟩
theorem bI_eq {a b : Prop} (h : a ↔ b) : bI a = bI b := by rw [propext h]
def remF (x y : Int32) : Int32 := x - x / y * y
/-- what the class's lists tell, of n1 and n2 entries -/
noncomputable def tolC (σ : Me) (c n1 n2 : Nat) (t : Int32) : Int32 := by
  classical exact if hasF (σ 22 (2 * c + 1)) (t / 1440) n2 then (latF (σ 22 (2 * c + 1)) (σ 23 (2 * c + 1)) (σ 24 (2 * c + 1)) (t / 1440) (remF t 1440) n2).2 else (latF (σ 22 (2 * c)) (σ 23 (2 * c)) (σ 24 (2 * c)) (remF (t / 1440) 7) (remF t 1440) n1).2
/-- what the model's list tells, of n entries -/
noncomputable def tolF (σ : Me) (c n : Nat) (t : Int32) : Int32 := by
  classical exact (latF (σ 18 c) (σ 19 c) (σ 20 c) (if hasF (σ 18 c) (10 + t / 1440) n then 10 + t / 1440 else remF (t / 1440) 7) (remF t 1440) n).2
abbrev nOf (x : Int32) : Nat := x.toNatClampNeg
noncomputable def tolO (σ : Me) (c : Nat) (t : Int32) : Int32 := tolF σ c (nOf (σ 17 c 0)) t
noncomputable def obeF (ns c : Nat) (σ : Me) : Me :=
  if tolO σ c (σ 25 0 0) = σ 16 c 0 then σ
  else setF ns (nOf (σ 14 c 0)) (nOf (σ 15 c 0)) (tolO σ c (σ 25 0 0)) (st3 σ 16 c 0 (tolO σ c (σ 25 0 0)))
/-- a minute: held commands whose time has passed, subscriptions, schedules -/
def relS (ns k : Nat) (σ : Me) : Me := if σ 4 k 0 = σ 25 0 0 then setF ns k 6 nth (st3 σ 4 k 0 0) else σ
def relF (ns : Nat) : Nat → Nat → Me → Me
  | 0, _, σ => σ
  | n + 1, k, σ => relF ns n (k + 1) (relS ns k σ)
noncomputable def endS (s : Nat) (σ : Me) : Me := st3 σ 11 s 0 (bI (¬ σ 11 s 0 = 0 ∨ σ 10 s 0 = σ 25 0 0))
noncomputable def endF : Nat → Nat → Me → Me
  | 0, _, σ => σ
  | n + 1, s, σ => endF n (s + 1) (endS s σ)
noncomputable def folF (ns : Nat) : Nat → Nat → Me → Me
  | 0, _, σ => σ
  | n + 1, c, σ => folF ns n (c + 1) (obeF ns c σ)
noncomputable def minF (g : GC) (σ : Me) : Me := folF g.2.1 g.2.2 0 (endF g.2.1 0 (relF g.2.1 g.1 0 (st3 σ 25 0 0 (σ 25 0 0 + 1))))
noncomputable def pasF (g : GC) : Nat → Me → Me
  | 0, σ => σ
  | n + 1, σ => pasF g n (minF g σ)
section W2
variable {p : Program} {l : Launch} {e : Env} {R : Room} {s : State} {m : MethodId} {args : Array Value} {below : List Frame} {meth : Method} {c : Code} {H : Heap} {locs : List Loc} {cells slots : Nat} {Q : State → Prop}
variable {cc : ByteArray} {pc : Nat} {ls : Array Slot} {rest : List Value} {D : va_G} {B : Nat} {ad : Ad} {w : Wd} {H0 : Heap}
theorem w_top {x v : Int32} (h : x = v) (k : W p l e R s m args below meth c H locs cells slots Q (F0 m pc ls (.int v :: rest))) : W p l e R s m args below meth c H locs cells slots Q (F0 m pc ls (.int x :: rest)) := h ▸ k
theorem w_ildN (hexec : p.tables.exec = Jvm.exec) (hb : c.code = cc) (hC : cx D B s) (hP : hw D B ad w H) {a k n : Nat} {f : Nat → Int32} (he : w a k = some (eI D n f)) {j : Nat} (hj : j < n) (hn : n < 2 ^ 31) {v : Int32} (hv : f j = v) (hdg : decode cc pc = .ok (.iaload, 1))
    (kk : W p l e R s m args below meth c H locs cells slots Q (F0 m (pc + 1) ls (.int v :: rest))) : W p l e R s m args below meth c H locs cells slots Q (F0 m pc ls (.int (nI j) :: .ref (ad a k) :: rest)) :=
  w_iald hexec hb hC hP he (vp_in_nI hj hn) hdg (by rw [nI_clamp (Nat.lt_trans hj hn), hv]; exact kk)
theorem w_zldN (hexec : p.tables.exec = Jvm.exec) (hb : c.code = cc) (hC : cx D B s) (hP : hw D B ad w H) {a k n : Nat} {f : Nat → Int32} (he : w a k = some (eZ D n f)) {j : Nat} (hj : j < n) (hn : n < 2 ^ 31) {v : Int32} (hv : f j = v) (hdg : decode cc pc = .ok (.baload, 1))
    (kk : W p l e R s m args below meth c H locs cells slots Q (F0 m (pc + 1) ls (.int v :: rest))) : W p l e R s m args below meth c H locs cells slots Q (F0 m pc ls (.int (nI j) :: .ref (ad a k) :: rest)) :=
  w_zald hexec hb hC hP he (vp_in_nI hj hn) hdg (by rw [nI_clamp (Nat.lt_trans hj hn), hv]; exact kk)
theorem w_aldN (hexec : p.tables.exec = Jvm.exec) (hb : c.code = cc) (hC : cx D B s) (hP : hw D B ad w H) (t : Nat) {C : String} (ht : (tysD D)[t]? = some (D.1 (100 + t), .object C)) {a k n : Nat} {f : Nat → Option Nat} (he : w a k = some (eR D (100 + t) n f)) {j : Nat} (hj : j < n) (hn : n < 2 ^ 31) (hdg : decode cc pc = .ok (.aaload, 1)) {r : Value} (hr : va_rf (f j) = r)
    (kk : W p l e R s m args below meth c H locs cells slots Q (F0 m (pc + 1) ls (r :: rest))) : W p l e R s m args below meth c H locs cells slots Q (F0 m pc ls (.int (nI j) :: .ref (ad a k) :: rest)) :=
  w_aald hexec hb hC hP t ht he (vp_in_nI hj hn) hdg (by rw [nI_clamp (Nat.lt_trans hj hn), hr]) kk
theorem w_istN (hexec : p.tables.exec = Jvm.exec) (hb : c.code = cc) (hC : cx D B s) (hP : hw D B ad w H) (hS : va_S (ab B) H0 H locs) {a k n : Nat} {f : Nat → Int32} (he : w a k = some (eI D n f)) {j : Nat} {x : Int32} (hj : j < n) (hn : n < 2 ^ 31) (hdg : decode cc pc = .ok (.iastore, 1))
    (kk : ∀ (H1 : Heap) (locs1 : List Loc), hw D B ad (u2 w a k (eI D n (upd f j x))) H1 → va_S (ab B) H0 H1 locs1 → W p l e R s m args below meth c H1 locs1 cells slots Q (F0 m (pc + 1) ls rest)) : W p l e R s m args below meth c H locs cells slots Q (F0 m pc ls (.int x :: .int (nI j) :: .ref (ad a k) :: rest)) :=
  w_iast hexec hb hC hP hS he (vp_in_nI hj hn) hdg (by rw [nI_clamp (Nat.lt_trans hj hn)]; exact kk)
theorem w_zstN (hexec : p.tables.exec = Jvm.exec) (hb : c.code = cc) (hC : cx D B s) (hP : hw D B ad w H) (hS : va_S (ab B) H0 H locs) {a k n : Nat} {f : Nat → Int32} (he : w a k = some (eZ D n f)) {j : Nat} {x : Int32} (hj : j < n) (hn : n < 2 ^ 31) (hx01 : x = 0 ∨ x = 1) (hdg : decode cc pc = .ok (.bastore, 1))
    (kk : ∀ (H1 : Heap) (locs1 : List Loc), hw D B ad (u2 w a k (eZ D n (upd f j x))) H1 → va_S (ab B) H0 H1 locs1 → W p l e R s m args below meth c H1 locs1 cells slots Q (F0 m (pc + 1) ls rest)) : W p l e R s m args below meth c H locs cells slots Q (F0 m pc ls (.int x :: .int (nI j) :: .ref (ad a k) :: rest)) :=
  w_zast hexec hb hC hP hS he (vp_in_nI hj hn) hx01 hdg (by rw [nI_clamp (Nat.lt_trans hj hn)]; exact kk)
/-- two references of one kind: the same just if their places are -/
theorem hw_inj {f i j : Nat} {e1 e2 : va_E} (hP : hw D B ad w H) (h1 : w f i = some e1) (h2 : w f j = some e2) : (some (ad f i) = some (ad f j)) ↔ i = j :=
  ⟨fun h => (hP.2 _ _ _ _ _ _ h1 h2 (Option.some.inj h)).2, fun h => by rw [h]⟩
end W2
section W3
variable {p : Program} {l : Launch} {e : Env} {R : Room} {s : State} {m : MethodId} {args : Array Value} {below : List Frame} {meth : Method} {c : Code} {H : Heap} {locs : List Loc} {cells slots : Nat} {Q : State → Prop}
variable {pc : Nat} {ls : Array Slot} {rest : List Value}
theorem w_top2 {x v : Int32} {a : Value} (h : x = v) (k : W p l e R s m args below meth c H locs cells slots Q (F0 m pc ls (a :: .int v :: rest))) : W p l e R s m args below meth c H locs cells slots Q (F0 m pc ls (a :: .int x :: rest)) := h ▸ k
/-- a loop: at its head, with an invariant and a measure that falls -/
theorem w_ind (Inv : Nat → Heap → List Loc → Array Slot → Prop)
    (step : ∀ (n : Nat) (H : Heap) (locs : List Loc) (ls : Array Slot), Inv n H locs ls → (∀ (n' : Nat) (H' : Heap) (locs' : List Loc) (ls' : Array Slot), n' < n → Inv n' H' locs' ls' → W p l e R s m args below meth c H' locs' cells slots Q (F0 m pc ls' [])) → W p l e R s m args below meth c H locs cells slots Q (F0 m pc ls [])) :
    ∀ (n : Nat) (H : Heap) (locs : List Loc) (ls : Array Slot), Inv n H locs ls → W p l e R s m args below meth c H locs cells slots Q (F0 m pc ls []) := by
  have key : ∀ (k n : Nat), n < k → ∀ (H : Heap) (locs : List Loc) (ls : Array Slot), Inv n H locs ls → W p l e R s m args below meth c H locs cells slots Q (F0 m pc ls []) := by
    intro k
    induction k with
    | zero => intro n hn; exact absurd hn (Nat.not_lt_zero n)
    | succ k ih => intro n hn H locs ls h; exact step n H locs ls h (fun n' H' locs' ls' h1 h2 => ih n' (by omega) H' locs' ls' h2)
  exact fun n H locs ls h => key (n + 1) n (by omega) H locs ls h
end W3
end
section
/-! what holds of every state that is reached, and that a step keeps it -/
def rg (x : Int32) : Prop := -1000 ≤ x.toInt ∧ x.toInt ≤ 1000
def inP (σ : Me) (k : Nat) (x : Int32) : Prop := loF (σ 1 k 0) ≤ x ∧ x ≤ hiF (σ 1 k 0)
def okV (σ : Me) (k : Nat) (x : Int32) : Prop := x = nth ∨ inP σ k x
def vaC (c : Nat → Int32) (f : Int32) : Int32 := if stF c 16 1 < 17 then c (stF c 16 1) else f
theorem vaO_eq (σ : Me) (k : Nat) : vaO σ k = vaC (σ 6 k) (σ 2 k 0) := rfl
theorem stF_spec (c : Nat → Int32) : ∀ n i, i + n = 17 → (∀ j, i ≤ j → j < stF c n i → c j = nth) ∧ (stF c n i < 17 → ¬ c (stF c n i) = nth)
  | 0, i, h => by
    simp only [stF]
    exact ⟨fun j h1 h2 => by omega, fun h1 => by omega⟩
  | n + 1, i, h => by
    have ih := stF_spec c n (i + 1) (by omega)
    simp only [stF]
    split
    · rename_i hc
      refine ⟨fun j h1 h2 => ?_, ih.2⟩
      rcases Nat.eq_or_lt_of_le h1 with q | q
      · rw [← q]; exact hc
      · exact ih.1 j q h2
    · rename_i hc
      exact ⟨fun j h1 h2 => by omega, fun _ => hc⟩
theorem stF_of (c : Nat → Int32) : ∀ n i p, i + n = 17 → i ≤ p → p ≤ 17 → (∀ j, i ≤ j → j < p → c j = nth) → (p < 17 → ¬ c p = nth) → stF c n i = p
  | 0, i, p, h, h1, h2, h3, h4 => by simp only [stF]; omega
  | n + 1, i, p, h, h1, h2, h3, h4 => by
    simp only [stF]
    by_cases hc : c i = nth
    · rw [if_pos hc]
      have hip : i ≠ p := fun q => by
        subst q
        exact h4 (by omega) hc
      exact stF_of c n (i + 1) p (by omega) (by omega) h2 (fun j q1 q2 => h3 j (by omega) q2) h4
    · rw [if_neg hc]
      rcases Nat.eq_or_lt_of_le h1 with q | q
      · exact q
      · exact absurd (h3 i (Nat.le_refl i) q) hc
/-- a held command shows the value that there was -/
theorem vaC_hold {c : Nat → Int32} {f : Int32} (h : ¬ vaC c f = nth) : vaC (upd c 6 (vaC c f)) f = vaC c f := by
  generalize hw : vaC c f = w at h ⊢
  have hle := stF_le c 16 1 rfl
  have hsp := stF_spec c 16 1 rfl
  by_cases h6 : stF c 16 1 < 6
  · have hlt : stF c 16 1 < 17 := by omega
    have e : stF (upd c 6 w) 16 1 = stF c 16 1 := stF_of _ 16 1 _ rfl hle.2 hle.1 (fun j q1 q2 => by rw [show upd c 6 w j = c j by simp [upd, show j ≠ 6 by omega]]; exact hsp.1 j q1 q2) (fun q => by rw [show upd c 6 w (stF c 16 1) = c (stF c 16 1) by simp [upd, show stF c 16 1 ≠ 6 by omega]]; exact hsp.2 q)
    unfold vaC
    rw [e, if_pos hlt]
    unfold vaC at hw
    rw [if_pos hlt] at hw
    rw [← hw]
    simp [upd, show stF c 16 1 ≠ 6 by omega]
  · have e : stF (upd c 6 w) 16 1 = 6 := stF_of _ 16 1 6 rfl (by omega) (by omega) (fun j q1 q2 => by rw [show upd c 6 w j = c j by simp [upd, show j ≠ 6 by omega]]; exact hsp.1 j q1 (by omega)) (fun _ => by simpa [upd] using h)
    unfold vaC
    rw [e, if_pos (by decide)]
    simp [upd]
theorem nth_toInt : nth.toInt = -100000 := by decide
theorem lo_ge (x : Int32) : -1000 ≤ (loF x).toInt := by
  unfold loF
  split <;> decide
theorem hi_le (x : Int32) : (hiF x).toInt ≤ 1000 := by
  unfold hiF
  split <;> decide
theorem inP_rg {σ : Me} {k : Nat} {x : Int32} (h : inP σ k x) : rg x := by
  have h1 := Int32.le_iff_toInt_le.mp h.1
  have h2 := Int32.le_iff_toInt_le.mp h.2
  exact ⟨Int.le_trans (lo_ge _) h1, Int.le_trans h2 (hi_le _)⟩
theorem rg_nth {x : Int32} (h : rg x) : ¬ x = nth := fun q => by
  have := h.1
  rw [q, nth_toInt] at this
  omega
/-! frames of the steps -/
theorem infS_n {k s a : Nat} {v : Int32} {σ : Me} (h1 : a ≠ 13) (h2 : a ≠ 12) (h3 : a ≠ 26) : infS k v s σ a = σ a := by
  unfold infS
  split
  · rw [st3_n h3, st3_n h2, st3_n h1]
  · rfl
theorem infS_i {k s a i : Nat} {v : Int32} {σ : Me} (h3 : a ≠ 26) (hi : i ≠ s) : infS k v s σ a i = σ a i := by
  unfold infS
  split
  · rw [st3_n h3, st3_i hi, st3_i hi]
  · rfl
theorem infF_n {k a : Nat} {v : Int32} (h1 : a ≠ 13) (h2 : a ≠ 12) (h3 : a ≠ 26) : ∀ (n s : Nat) (σ : Me), infF k v n s σ a = σ a
  | 0, s, σ => rfl
  | n + 1, s, σ => by
    show infF k v n (s + 1) (infS k v s σ) a = σ a
    rw [infF_n h1 h2 h3 n (s + 1), infS_n h1 h2 h3]
theorem infF_i {k a i : Nat} {v : Int32} (h3 : a ≠ 26) : ∀ (n s : Nat) (σ : Me), s + n ≤ i → infF k v n s σ a i = σ a i
  | 0, s, σ, h => rfl
  | n + 1, s, σ, h => by
    show infF k v n (s + 1) (infS k v s σ) a i = σ a i
    rw [infF_i h3 n (s + 1) _ (by omega), infS_i h3 (by omega)]
theorem chgF_n {k a : Nat} {d t : Int32} {σ : Me} (h7 : a ≠ 7) (h5 : a ≠ 5) (h6 : a ≠ 6) (h4 : a ≠ 4) : chgF k d t σ a = σ a := by
  unfold chgF
  split
  · rw [st3_n h4, st3_n h6, st3_n h5, st3_n h7]
  · rw [st3_n h5, st3_n h7]
theorem chgF_i {k a i : Nat} {d t : Int32} {σ : Me} (hi : i ≠ k) : chgF k d t σ a i = σ a i := by
  unfold chgF
  split
  · rw [st3_i hi, st3_i hi, st3_i hi, st3_i hi]
  · rw [st3_i hi, st3_i hi]
theorem setF_n {ns k j a : Nat} {v : Int32} {σ : Me} (h4 : a ≠ 4) (h5 : a ≠ 5) (h6 : a ≠ 6) (h7 : a ≠ 7) (h12 : a ≠ 12) (h13 : a ≠ 13) (h26 : a ≠ 26) : setF ns k j v σ a = σ a := by
  unfold setF
  split
  · rw [st3_n h6]
  · rw [infF_n h13 h12 h26, chgF_n h7 h5 h6 h4, st3_n h6]
theorem setF_i {ns k j a i : Nat} {v : Int32} {σ : Me} (h12 : a ≠ 12) (h13 : a ≠ 13) (h26 : a ≠ 26) (hi : i ≠ k) : setF ns k j v σ a i = σ a i := by
  unfold setF
  split
  · rw [st3_i hi]
  · rw [infF_n h13 h12 h26, chgF_i hi, st3_i hi]
theorem setF_s {ns k j a i : Nat} {v : Int32} {σ : Me} (h4 : a ≠ 4) (h5 : a ≠ 5) (h6 : a ≠ 6) (h7 : a ≠ 7) (h26 : a ≠ 26) (hi : ns ≤ i) : setF ns k j v σ a i = σ a i := by
  unfold setF
  split
  · rw [st3_n h6]
  · rw [infF_i h26 ns 0 _ (by omega), chgF_n h7 h5 h6 h4, st3_n h6]
def Ip (g : GC) (σ : Me) : Prop := ∀ k, k < g.1 → (σ 1 k 0 = 0 ∨ σ 1 k 0 = 1) ∧ inP σ k (σ 2 k 0) ∧ (0 ≤ (σ 3 k 0).toInt ∧ (σ 3 k 0).toInt ≤ 1000) ∧ (∀ j, j < 17 → okV σ k (σ 6 k j)) ∧ σ 7 k 0 = vaO σ k
def Is (g : GC) (σ : Me) : Prop := ∀ s, s < g.2.1 → (σ 11 s 0 = 0 ∨ σ 11 s 0 = 1) ∧ (∃ i, i < g.1 ∧ σ 8 s 0 = nI i) ∧ rg (σ 13 s 0)
/-- the class's two lists say what the model's one list says -/
def Ie (σ : Me) (c n n1 n2 : Nat) : Prop :=
  (∀ d : Nat, d ≤ 1000000 → (hasF (σ 22 (2 * c + 1)) (nI d) n2 ↔ hasF (σ 18 c) (10 + nI d) n)) ∧
  (∀ (d : Nat) (x : Int32), d ≤ 1000000 → latF (σ 22 (2 * c + 1)) (σ 23 (2 * c + 1)) (σ 24 (2 * c + 1)) (nI d) x n2 = latF (σ 18 c) (σ 19 c) (σ 20 c) (10 + nI d) x n) ∧
  (∀ (d : Nat) (x : Int32), d < 7 → latF (σ 22 (2 * c)) (σ 23 (2 * c)) (σ 24 (2 * c)) (nI d) x n1 = latF (σ 18 c) (σ 19 c) (σ 20 c) (nI d) x n)
def Ic (g : GC) (σ : Me) : Prop := ∀ c, c < g.2.2 → ∃ i j n n1 n2 : Nat, i < g.1 ∧ σ 14 c 0 = nI i ∧ 7 ≤ j ∧ j ≤ 16 ∧ σ 15 c 0 = nI j ∧ σ 17 c 0 = nI n ∧ σ 21 (2 * c) 0 = nI n1 ∧ σ 21 (2 * c + 1) 0 = nI n2 ∧ n1 + n2 = n ∧ n ≤ 20 ∧ (∀ q, q < n → okV σ i (σ 20 c q)) ∧ Ie σ c n n1 n2
def Ib (g : GC) (σ : Me) : Prop := g.1 ≤ 16 ∧ g.2.1 ≤ 30 ∧ g.2.2 ≤ 4 ∧ Ip g σ ∧ Is g σ ∧ Ic g σ
theorem vaC_ok {c : Nat → Int32} {f : Int32} {P : Int32 → Prop} (hc : ∀ j, j < 17 → c j = nth ∨ P (c j)) (hf : P f) : P (vaC c f) := by
  unfold vaC
  split
  · rename_i h
    rcases hc _ h with q | q
    · exact absurd q ((stF_spec c 16 1 rfl).2 h)
    · exact q
  · exact hf
theorem vaO_in {g : GC} {σ : Me} (h : Ip g σ) {k : Nat} (hk : k < g.1) : inP σ k (vaO σ k) := by
  obtain ⟨-, h2, -, h4, -⟩ := h k hk
  exact vaC_ok (P := inP σ k) h4 h2
theorem okV_to {σ σ' : Me} {k : Nat} {x : Int32} (h : okV σ k x) (e : σ' 1 = σ 1) : okV σ' k x := by
  unfold okV inP at h ⊢
  rw [e]
  exact h
theorem inP_to {σ σ' : Me} {k : Nat} {x : Int32} (h : inP σ k x) (e : σ' 1 = σ 1) : inP σ' k x := by
  unfold inP at h ⊢
  rw [e]
  exact h
theorem vaS_in {g : GC} {σ : Me} (h : Ip g σ) {k j : Nat} {v : Int32} (hk : k < g.1) (hv : okV σ k v) : inP σ k (vaO (st3 σ 6 k j v) k) := by
  obtain ⟨-, h2, -, h4, -⟩ := h k hk
  rw [vaO_eq, st3_s, st3_n (by decide)]
  refine vaC_ok (P := inP σ k) (fun i hi => ?_) h2
  show okV σ k (upd (σ 6 k) j v i)
  by_cases q : i = j
  · subst q; simpa [upd] using hv
  · simpa [upd, q] using h4 i hi
theorem Is_to {g : GC} {σ σ' : Me} (h : Is g σ) (e11 : σ' 11 = σ 11) (e8 : σ' 8 = σ 8) (e13 : σ' 13 = σ 13) : Is g σ' := fun s hs => by
  rw [e11, e8, e13]
  exact h s hs
theorem Is_infS {g : GC} {σ : Me} {k s : Nat} {v : Int32} (h : Is g σ) (hv : rg v) : Is g (infS k v s σ) := fun i hi => by
  obtain ⟨h1, h2, h3⟩ := h i hi
  rw [infS_n (by decide) (by decide) (by decide), infS_n (by decide) (by decide) (by decide)]
  refine ⟨h1, h2, ?_⟩
  unfold infS
  split
  · rw [st3_n (by decide), st3_n (by decide)]
    by_cases q : i = s
    · subst q; rw [st3_v]; exact hv
    · rw [st3_i q]; exact h3
  · exact h3
theorem Is_infF {g : GC} {k : Nat} {v : Int32} (hv : rg v) : ∀ (n s : Nat) (σ : Me), Is g σ → Is g (infF k v n s σ)
  | 0, s, σ, h => h
  | n + 1, s, σ, h => Is_infF hv n (s + 1) _ (Is_infS h hv)
theorem Ie_to {σ σ' : Me} {c n n1 n2 : Nat} (h : Ie σ c n n1 n2) (e18 : σ' 18 = σ 18) (e19 : σ' 19 = σ 19) (e20 : σ' 20 = σ 20) (e22 : σ' 22 = σ 22) (e23 : σ' 23 = σ 23) (e24 : σ' 24 = σ 24) : Ie σ' c n n1 n2 := by
  unfold Ie
  rw [e18, e19, e20, e22, e23, e24]
  exact h
theorem Ic_to {g : GC} {σ σ' : Me} (h : Ic g σ) (e1 : σ' 1 = σ 1) (e14 : σ' 14 = σ 14) (e15 : σ' 15 = σ 15) (e17 : σ' 17 = σ 17) (e18 : σ' 18 = σ 18) (e19 : σ' 19 = σ 19) (e20 : σ' 20 = σ 20) (e21 : σ' 21 = σ 21) (e22 : σ' 22 = σ 22) (e23 : σ' 23 = σ 23) (e24 : σ' 24 = σ 24) : Ic g σ' := fun c hc => by
  obtain ⟨i, j, n, n1, n2, h1, h2, h3, h4, h5, h6, h7, h8, h9, h10, h11, h12⟩ := h c hc
  rw [e14, e15, e17, e20, e21]
  exact ⟨i, j, n, n1, n2, h1, h2, h3, h4, h5, h6, h7, h8, h9, h10, fun q hq => okV_to (h11 q hq) e1, Ie_to h12 e18 e19 e20 e22 e23 e24⟩
theorem Ip_setF {g : GC} {ns k j : Nat} {v : Int32} {σ : Me} (h : Ip g σ) (hk : k < g.1) (hj : j < 17) (hv : okV σ k v) : Ip g (setF ns k j v σ) := fun i hi => by
  have e1 : setF ns k j v σ 1 = σ 1 := setF_n (by decide) (by decide) (by decide) (by decide) (by decide) (by decide) (by decide)
  have e2 : setF ns k j v σ 2 = σ 2 := setF_n (by decide) (by decide) (by decide) (by decide) (by decide) (by decide) (by decide)
  have e3 : setF ns k j v σ 3 = σ 3 := setF_n (by decide) (by decide) (by decide) (by decide) (by decide) (by decide) (by decide)
  obtain ⟨h1, h2, h3, h4, h5⟩ := h i hi
  rw [e1, e2, e3]
  refine ⟨h1, inP_to h2 e1, h3, ?_, ?_⟩
  · intro q hq
    refine okV_to (σ := σ) ?_ e1
    by_cases hik : i = k
    · subst hik
      have hw : okV σ i (vaO (st3 σ 6 i j v) i) := Or.inr (vaS_in h hk hv)
      have h6 : okV σ i (st3 σ 6 i j v 6 i q) := by
        rw [st3_s]
        by_cases z : q = j
        · subst z; simpa [upd] using hv
        · simpa [upd, z] using h4 q hq
      unfold setF
      split
      · exact h6
      · rw [infF_n (by decide) (by decide) (by decide)]
        unfold chgF
        split
        · rw [st3_n (by decide)]
          by_cases z : q = 6
          · subst z; rw [st3_v]; exact hw
          · rw [st3_j z, st3_n (by decide), st3_n (by decide)]; exact h6
        · rw [st3_n (by decide), st3_n (by decide)]; exact h6
    · rw [setF_i (by decide) (by decide) (by decide) hik]
      exact h4 q hq
  · by_cases hik : i = k
    · subst hik
      have hw := rg_nth (inP_rg (vaS_in h hk hv (j := j)))
      rw [vaO_eq, e2]
      unfold setF
      split
      · rename_i hc
        rw [st3_n (by decide), h5, ← hc]
        rfl
      · rw [infF_n (by decide) (by decide) (by decide), infF_n (by decide) (by decide) (by decide)]
        unfold chgF
        split
        · rw [st3_n (by decide), st3_n (by decide), st3_n (by decide), st3_v]
          rw [st3_n (by decide), st3_s, st3_n (by decide), st3_n (by decide)]
          have := vaC_hold (c := st3 σ 6 i j v 6 i) (f := st3 σ 6 i j v 2 i 0) hw
          rw [st3_n (σ := σ) (a := 6) (a1 := 2) (by decide)] at this
          exact this.symm
        · rw [st3_n (by decide), st3_v, st3_n (by decide), st3_n (by decide)]
          rw [vaO_eq, st3_n (σ := σ) (a := 6) (a1 := 2) (by decide)]
    · rw [vaO_eq, e2, setF_i (by decide) (by decide) (by decide) hik, setF_i (by decide) (by decide) (by decide) hik]
      exact h5
theorem Is_setF {g : GC} {ns k j : Nat} {v : Int32} {σ : Me} (h : Is g σ) (hp : Ip g σ) (hk : k < g.1) (hv : okV σ k v) : Is g (setF ns k j v σ) := by
  unfold setF
  split
  · exact Is_to h (st3_n (by decide)) (st3_n (by decide)) (st3_n (by decide))
  · refine Is_infF (inP_rg (vaS_in hp hk hv)) ns 0 _ (Is_to h ?_ ?_ ?_) <;> rw [chgF_n (by decide) (by decide) (by decide) (by decide), st3_n (by decide)]
theorem Ic_setF {g : GC} {ns k j : Nat} {v : Int32} {σ : Me} (h : Ic g σ) : Ic g (setF ns k j v σ) := by
  refine Ic_to h ?_ ?_ ?_ ?_ ?_ ?_ ?_ ?_ ?_ ?_ ?_ <;> exact setF_n (by decide) (by decide) (by decide) (by decide) (by decide) (by decide) (by decide)
theorem Ib_setF {g : GC} {ns k j : Nat} {v : Int32} {σ : Me} (h : Ib g σ) (hk : k < g.1) (hj : j < 17) (hv : okV σ k v) : Ib g (setF ns k j v σ) :=
  ⟨h.1, h.2.1, h.2.2.1, Ip_setF h.2.2.2.1 hk hj hv, Is_setF h.2.2.2.2.1 h.2.2.2.1 hk hv, Ic_setF h.2.2.2.2.2⟩
end
section
/-! numbers (fa_eq, fb_.. as the kit gives them for pasting) -/
theorem fa_eq (a b : Int32) : a = b ↔ a.toInt = b.toInt := Int32.toInt_inj.symm
theorem fb_rng (x : Int32) : -2147483648 ≤ x.toInt ∧ x.toInt < 2147483648 := by
  have h1 := Int32.le_toInt x
  have h2 := Int32.toInt_lt x
  omega
theorem fb_bmod {z : Int} (h1 : -2147483648 ≤ z) (h2 : z < 2147483648) : z.bmod (2 ^ 32) = z := by
  rw [Int.bmod_eq_of_le (by omega) (by omega)]
theorem fb_addI {x y : Int32} (h1 : -2147483648 ≤ x.toInt + y.toInt) (h2 : x.toInt + y.toInt < 2147483648) : (x + y).toInt = x.toInt + y.toInt := by
  rw [Int32.toInt_add, fb_bmod h1 h2]
theorem fb_subI {x y : Int32} (h1 : -2147483648 ≤ x.toInt - y.toInt) (h2 : x.toInt - y.toInt < 2147483648) : (x - y).toInt = x.toInt - y.toInt := by
  rw [Int32.toInt_sub, fb_bmod h1 h2]
theorem far_eq {v w : Int32} (hv : rg v) (hw : rg w) : (if 0 ≤ v - w then v - w else 0 - (v - w)) = farO v w := by
  obtain ⟨v1, v2⟩ := hv
  obtain ⟨w1, w2⟩ := hw
  have e1 : (v - w).toInt = v.toInt - w.toInt := fb_subI (by omega) (by omega)
  have e2 : (w - v).toInt = w.toInt - v.toInt := fb_subI (by omega) (by omega)
  have e0 : (0 : Int32).toInt = 0 := by decide
  have e3 : (0 - (v - w)).toInt = 0 - (v.toInt - w.toInt) := by rw [fb_subI (by rw [e0, e1]; omega) (by rw [e0, e1]; omega), e0, e1]
  unfold farO
  by_cases h1 : 0 ≤ v - w
  · rw [if_pos h1]
    have h2 := Int32.le_iff_toInt_le.mp h1
    rw [e0, e1] at h2
    by_cases h3 : w < v
    · rw [if_pos h3]
    · rw [if_neg h3]
      have h4 : ¬ w.toInt < v.toInt := fun q => h3 (Int32.lt_iff_toInt_lt.mpr q)
      rw [fa_eq, e1, e2]
      omega
  · rw [if_neg h1]
    have h2 : ¬ (0 : Int32).toInt ≤ (v - w).toInt := fun q => h1 (Int32.le_iff_toInt_le.mpr q)
    rw [e0, e1] at h2
    have h3 : ¬ w < v := fun q => by
      have := Int32.lt_iff_toInt_lt.mp q
      omega
    rw [if_neg h3, fa_eq, e2, e3]
    omega
/-- what a schedule tells is nothing, or a value that its point can have -/
theorem latF_ok {w m t : Nat → Int32} {d x : Int32} {P : Int32 → Prop} : ∀ n, (∀ q, q < n → t q = nth ∨ P (t q)) → (latF w m t d x n).2 = nth ∨ P (latF w m t d x n).2
  | 0, h => Or.inl rfl
  | n + 1, h => by
    simp only [latF]
    split
    · exact h n (Nat.lt_succ_self n)
    · exact latF_ok n (fun q hq => h q (Nat.lt_succ_of_lt hq))
theorem tolO_ok {g : GC} {σ : Me} (hg : g.1 ≤ 16) (h : Ic g σ) {c : Nat} (hc : c < g.2.2) (t : Int32) : okV σ (nOf (σ 14 c 0)) (tolO σ c t) := by
  obtain ⟨i, j, n, n1, n2, h1, h2, h3, h4, h5, h6, h7, h8, h9, h10, h11, h12⟩ := h c hc
  have e1 : nOf (σ 14 c 0) = i := by rw [h2]; exact nI_clamp (by omega)
  have e2 : nOf (σ 17 c 0) = n := by rw [h6]; exact nI_clamp (by omega)
  unfold okV tolO tolF
  rw [e1, e2]
  exact latF_ok (P := inP σ i) n h11
theorem Ib_st {g : GC} {σ : Me} {a i j : Nat} {v : Int32} (h : Ib g σ) (hn : ∀ b ∈ [1, 2, 3, 6, 7, 8, 11, 13, 14, 15, 17, 18, 19, 20, 21, 22, 23, 24], b ≠ a) : Ib g (st3 σ a i j v) := by
  have e : ∀ b ∈ [1, 2, 3, 6, 7, 8, 11, 13, 14, 15, 17, 18, 19, 20, 21, 22, 23, 24], st3 σ a i j v b = σ b := fun b hb => st3_n (hn b hb)
  obtain ⟨h1, h2, h3, h4, h5, h6⟩ := h
  refine ⟨h1, h2, h3, fun k hk => ?_, Is_to h5 (e _ (by decide)) (e _ (by decide)) (e _ (by decide)), Ic_to h6 (e _ (by decide)) (e _ (by decide)) (e _ (by decide)) (e _ (by decide)) (e _ (by decide)) (e _ (by decide)) (e _ (by decide)) (e _ (by decide)) (e _ (by decide)) (e _ (by decide)) (e _ (by decide))⟩
  obtain ⟨q1, q2, q3, q4, q5⟩ := h4 k hk
  rw [vaO_eq, e 1 (by decide), e 2 (by decide), e 3 (by decide), e 6 (by decide), e 7 (by decide)]
  exact ⟨q1, inP_to q2 (e 1 (by decide)), q3, fun z hz => okV_to (q4 z hz) (e 1 (by decide)), q5⟩
theorem st3_self {σ : Me} {a i j : Nat} : st3 σ a i j (σ a i j) = σ := by
  funext a1 i1 j1
  unfold st3
  split
  · rename_i h
    obtain ⟨rfl, rfl, rfl⟩ := h
    rfl
  · rfl
/-! time: until when a point is held, until when a subscription goes on -/
def Tu (q : Nat) (σ : Me) (k : Nat) : Prop := ∃ u : Nat, σ 4 k 0 = nI u ∧ u ≤ 2000000 ∧ (u = 0 ∨ q ≤ u)
def To (q : Nat) (σ : Me) (s : Nat) : Prop := (σ 11 s 0 = 0 ∨ σ 11 s 0 = 1) ∧ ∃ v : Nat, σ 10 s 0 = nI v ∧ v ≤ 2000000 ∧ (σ 11 s 0 = 1 ∨ q ≤ v)
theorem chgF_7 {k : Nat} {d t : Int32} {σ : Me} : chgF k d t σ 7 k 0 = d := by
  unfold chgF
  split
  · rw [st3_n (by decide), st3_n (by decide), st3_n (by decide), st3_v]
  · rw [st3_n (by decide), st3_v]
theorem chgF_4 {k : Nat} {d t : Int32} {σ : Me} : chgF k d t σ 4 k 0 = if 0 < σ 3 k 0 then t + σ 3 k 0 else σ 4 k 0 := by
  unfold chgF
  split
  · rw [st3_v]
  · rw [st3_n (by decide), st3_n (by decide)]
theorem setF_4 {ns k j : Nat} {v : Int32} {σ : Me} : setF ns k j v σ 4 k 0 = σ 4 k 0 ∨ (0 < σ 3 k 0 ∧ setF ns k j v σ 4 k 0 = σ 25 0 0 + σ 3 k 0) := by
  unfold setF
  split
  · left; rw [st3_n (by decide)]
  · rw [infF_n (by decide) (by decide) (by decide), chgF_4, st3_n (by decide), st3_n (by decide)]
    by_cases h : 0 < σ 3 k 0
    · rw [if_pos h]; exact Or.inr ⟨h, rfl⟩
    · rw [if_neg h]; exact Or.inl rfl
theorem nI_of_toInt {x : Int32} (h : 0 ≤ x.toInt) : x = nI x.toInt.toNat := by
  have h2 := (fb_rng x).2
  rw [fa_eq, nI_toInt (by omega)]
  omega
theorem Tu_setF {g : GC} {q t ns k j i : Nat} {v : Int32} {σ : Me} (hp : Ip g σ) (hk : k < g.1) (ht : σ 25 0 0 = nI t) (ht2 : t ≤ 1000000) (hq : q ≤ t + 1) (h : Tu q σ i) : Tu q (setF ns k j v σ) i := by
  by_cases hik : i = k
  · subst hik
    rcases setF_4 (ns := ns) (k := i) (j := j) (v := v) (σ := σ) with e | ⟨h0, e⟩
    · unfold Tu; rw [e]; exact h
    · obtain ⟨-, -, ⟨h1, h2⟩, -⟩ := hp i hk
      have h3 := Int32.lt_iff_toInt_lt.mp h0
      have e0 : (0 : Int32).toInt = 0 := by decide
      rw [e0] at h3
      refine ⟨t + (σ 3 i 0).toInt.toNat, ?_, by omega, Or.inr (by omega)⟩
      rw [e, ht, ← nI_add, ← nI_of_toInt h1]
  · unfold Tu; rw [setF_i (by decide) (by decide) (by decide) hik]; exact h
/-- a point that this step has changed is held for longer than now -/
theorem Tu_setF0 {g : GC} {t ns k j : Nat} {v : Int32} {σ : Me} (hp : Ip g σ) (hk : k < g.1) (ht : σ 25 0 0 = nI t) (ht2 : t ≤ 1000000) (h : σ 4 k 0 = 0) : Tu (t + 1) (setF ns k j v σ) k :=
  Tu_setF hp hk ht ht2 (Nat.le_refl _) ⟨0, h, by omega, Or.inl rfl⟩
theorem relS_n {ns k a : Nat} {σ : Me} (h4 : a ≠ 4) (h5 : a ≠ 5) (h6 : a ≠ 6) (h7 : a ≠ 7) (h12 : a ≠ 12) (h13 : a ≠ 13) (h26 : a ≠ 26) : relS ns k σ a = σ a := by
  unfold relS
  split
  · rw [setF_n h4 h5 h6 h7 h12 h13 h26, st3_n h4]
  · rfl
theorem relS_i {ns k i : Nat} {σ : Me} (hi : i ≠ k) : relS ns k σ 4 i = σ 4 i := by
  unfold relS
  split
  · rw [setF_i (by decide) (by decide) (by decide) hi, st3_i hi]
  · rfl
theorem nth_ok (σ : Me) (k : Nat) : okV σ k nth := Or.inl rfl
theorem Ib_relS {g : GC} {ns k : Nat} {σ : Me} (h : Ib g σ) (hk : k < g.1) : Ib g (relS ns k σ) := by
  unfold relS
  split
  · exact Ib_setF (Ib_st h (by decide)) hk (by decide) (nth_ok _ _)
  · exact h
theorem Tu_relS {g : GC} {t ns k : Nat} {σ : Me} (hI : Ib g σ) (hk : k < g.1) (ht : σ 25 0 0 = nI t) (ht0 : 0 < t) (ht2 : t ≤ 1000000) (h : Tu t σ k) : Tu (t + 1) (relS ns k σ) k := by
  unfold relS
  split
  · exact Tu_setF0 (Ib_st hI (by decide)).2.2.2.1 hk (by rw [st3_n (by decide)]; exact ht) ht2 st3_v
  · rename_i hc
    obtain ⟨u, h1, h2, h3⟩ := h
    refine ⟨u, h1, h2, ?_⟩
    rcases h3 with q | q
    · exact Or.inl q
    · refine Or.inr ?_
      rcases Nat.eq_or_lt_of_le q with z | z
      · exact absurd (by rw [h1, ht, z]) hc
      · exact z
theorem Tu_mono {q q' : Nat} {σ : Me} {k : Nat} (h : Tu q σ k) (hq : q' ≤ q) : Tu q' σ k := by
  obtain ⟨u, h1, h2, h3⟩ := h
  exact ⟨u, h1, h2, h3.imp id (Nat.le_trans hq)⟩
theorem relF_n {a ns : Nat} (h4 : a ≠ 4) (h5 : a ≠ 5) (h6 : a ≠ 6) (h7 : a ≠ 7) (h12 : a ≠ 12) (h13 : a ≠ 13) (h26 : a ≠ 26) : ∀ (n k : Nat) (σ : Me), relF ns n k σ a = σ a
  | 0, k, σ => rfl
  | n + 1, k, σ => by
    show relF ns n (k + 1) (relS ns k σ) a = σ a
    rw [relF_n h4 h5 h6 h7 h12 h13 h26 n, relS_n h4 h5 h6 h7 h12 h13 h26]
theorem Ib_relF {g : GC} {ns : Nat} : ∀ (n k : Nat) (σ : Me), k + n ≤ g.1 → Ib g σ → Ib g (relF ns n k σ)
  | 0, k, σ, hk, h => h
  | n + 1, k, σ, hk, h => Ib_relF n (k + 1) _ (by omega) (Ib_relS h (by omega))
theorem Tu_relF {g : GC} {t ns : Nat} (ht0 : 0 < t) (ht2 : t ≤ 1000000) : ∀ (n k : Nat) (σ : Me), k + n = g.1 → Ib g σ → σ 25 0 0 = nI t → (∀ i, i < g.1 → Tu (if i < k then t + 1 else t) σ i) → ∀ i, i < g.1 → Tu (t + 1) (relF ns n k σ) i
  | 0, k, σ, hk, hI, ht, h => fun i hi => by
    have := h i hi
    rw [if_pos (by omega)] at this
    exact this
  | n + 1, k, σ, hk, hI, ht, h => by
    refine Tu_relF ht0 ht2 n (k + 1) _ (by omega) (Ib_relS hI (by omega)) ?_ ?_
    · rw [relS_n (by decide) (by decide) (by decide) (by decide) (by decide) (by decide) (by decide)]; exact ht
    · intro i hi
      by_cases hik : i = k
      · subst hik
        rw [if_pos (by omega)]
        have h1 := h i hi
        rw [if_neg (by omega)] at h1
        exact Tu_relS hI hi ht ht0 ht2 h1
      · have h1 := h i hi
        unfold Tu
        rw [relS_i hik]
        by_cases q : i < k
        · rw [if_pos (by omega)]; rw [if_pos q] at h1; exact h1
        · rw [if_neg (by omega)]; rw [if_neg q] at h1; exact h1
theorem endS_n {a s : Nat} {σ : Me} (h : a ≠ 11) : endS s σ a = σ a := st3_n h
theorem endF_n {a : Nat} (h : a ≠ 11) : ∀ (n s : Nat) (σ : Me), endF n s σ a = σ a
  | 0, s, σ => rfl
  | n + 1, s, σ => by
    show endF n (s + 1) (endS s σ) a = σ a
    rw [endF_n h n, endS_n h]
theorem Ib_endS {g : GC} {s : Nat} {σ : Me} (h : Ib g σ) : Ib g (endS s σ) := by
  obtain ⟨h1, h2, h3, h4, h5, h6⟩ := h
  refine ⟨h1, h2, h3, fun k hk => ?_, fun i hi => ?_, Ic_to h6 (endS_n (by decide)) (endS_n (by decide)) (endS_n (by decide)) (endS_n (by decide)) (endS_n (by decide)) (endS_n (by decide)) (endS_n (by decide)) (endS_n (by decide)) (endS_n (by decide)) (endS_n (by decide)) (endS_n (by decide))⟩
  · obtain ⟨q1, q2, q3, q4, q5⟩ := h4 k hk
    rw [vaO_eq, endS_n (by decide), endS_n (by decide), endS_n (by decide), endS_n (by decide), endS_n (by decide)]
    exact ⟨q1, inP_to q2 (endS_n (by decide)), q3, fun z hz => okV_to (q4 z hz) (endS_n (by decide)), q5⟩
  · obtain ⟨q1, q2, q3⟩ := h5 i hi
    rw [endS_n (a := 8) (by decide), endS_n (a := 13) (by decide)]
    refine ⟨?_, q2, q3⟩
    unfold endS
    by_cases z : i = s
    · subst z; rw [st3_v]; exact bI_01 _
    · rw [st3_i z]; exact q1
theorem Ib_endF {g : GC} : ∀ (n s : Nat) (σ : Me), Ib g σ → Ib g (endF n s σ)
  | 0, s, σ, h => h
  | n + 1, s, σ, h => Ib_endF n (s + 1) _ (Ib_endS h)
theorem To_endS {t s : Nat} {σ : Me} (ht : σ 25 0 0 = nI t) (ht2 : t ≤ 1000000) (h : To t σ s) : To (t + 1) (endS s σ) s := by
  obtain ⟨h0, v, h1, h2, h3⟩ := h
  have e11 : endS s σ 11 s 0 = bI (¬ σ 11 s 0 = 0 ∨ σ 10 s 0 = σ 25 0 0) := st3_v
  unfold To
  rw [e11, endS_n (by decide)]
  refine ⟨bI_01 _, v, h1, h2, ?_⟩
  by_cases hc : ¬ σ 11 s 0 = 0 ∨ σ 10 s 0 = σ 25 0 0
  · exact Or.inl (bI_t hc)
  · refine Or.inr ?_
    have c1 : σ 11 s 0 = 0 := Classical.not_not.mp (fun q => hc (Or.inl q))
    have c2 : ¬ σ 10 s 0 = σ 25 0 0 := fun q => hc (Or.inr q)
    rcases h3 with q | q
    · rw [c1] at q; exact absurd q (by decide)
    · rcases Nat.eq_or_lt_of_le q with z | z
      · exact absurd (by rw [h1, ht, z]) c2
      · exact z
theorem endS_i {s i : Nat} {σ : Me} (h : i ≠ s) : endS s σ 11 i = σ 11 i := st3_i h
theorem To_endF {g : GC} {t : Nat} (ht2 : t ≤ 1000000) : ∀ (n s : Nat) (σ : Me), s + n = g.2.1 → σ 25 0 0 = nI t → (∀ i, i < g.2.1 → To (if i < s then t + 1 else t) σ i) → ∀ i, i < g.2.1 → To (t + 1) (endF n s σ) i
  | 0, s, σ, hs, ht, h => fun i hi => by
    have := h i hi
    rw [if_pos (by omega)] at this
    exact this
  | n + 1, s, σ, hs, ht, h => by
    refine To_endF ht2 n (s + 1) _ (by omega) (by rw [endS_n (by decide)]; exact ht) ?_
    intro i hi
    by_cases his : i = s
    · subst his
      rw [if_pos (by omega)]
      have h1 := h i hi
      rw [if_neg (by omega)] at h1
      exact To_endS ht ht2 h1
    · have h1 := h i hi
      unfold To
      rw [endS_i his, endS_n (by decide)]
      by_cases q : i < s
      · rw [if_pos (by omega)]; rw [if_pos q] at h1; exact h1
      · rw [if_neg (by omega)]; rw [if_neg q] at h1; exact h1
theorem obeF_n {ns c a : Nat} {σ : Me} (h4 : a ≠ 4) (h5 : a ≠ 5) (h6 : a ≠ 6) (h7 : a ≠ 7) (h12 : a ≠ 12) (h13 : a ≠ 13) (h16 : a ≠ 16) (h26 : a ≠ 26) : obeF ns c σ a = σ a := by
  unfold obeF
  split
  · rfl
  · rw [setF_n h4 h5 h6 h7 h12 h13 h26, st3_n h16]
theorem Ib_obeF {g : GC} {ns c : Nat} {σ : Me} (h : Ib g σ) (hc : c < g.2.2) : Ib g (obeF ns c σ) := by
  unfold obeF
  split
  · exact h
  · have hok := tolO_ok h.1 h.2.2.2.2.2 hc (σ 25 0 0)
    obtain ⟨i, j, n, n1, n2, h1, h2, h3, h4, h5, -⟩ := h.2.2.2.2.2 c hc
    have e1 : nOf (σ 14 c 0) = i := by rw [h2]; exact nI_clamp (by have := h.1; omega)
    have e2 : nOf (σ 15 c 0) = j := by rw [h5]; exact nI_clamp (by omega)
    rw [e1] at hok
    rw [e1, e2]
    exact Ib_setF (Ib_st h (by decide)) h1 (by omega) (okV_to hok (st3_n (by decide)))
theorem Tu_obeF {g : GC} {q t ns c i : Nat} {σ : Me} (hI : Ib g σ) (hc : c < g.2.2) (ht : σ 25 0 0 = nI t) (ht2 : t ≤ 1000000) (hq : q ≤ t + 1) (h : Tu q σ i) : Tu q (obeF ns c σ) i := by
  unfold obeF
  split
  · exact h
  · obtain ⟨i1, j, n, n1, n2, h1, h2, -⟩ := hI.2.2.2.2.2 c hc
    have e1 : nOf (σ 14 c 0) = i1 := by rw [h2]; exact nI_clamp (by have := hI.1; omega)
    rw [e1]
    exact Tu_setF (Ib_st hI (by decide)).2.2.2.1 h1 (by rw [st3_n (by decide)]; exact ht) ht2 hq (by unfold Tu; rw [st3_n (by decide)]; exact h)
theorem folF_n {ns a : Nat} (h4 : a ≠ 4) (h5 : a ≠ 5) (h6 : a ≠ 6) (h7 : a ≠ 7) (h12 : a ≠ 12) (h13 : a ≠ 13) (h16 : a ≠ 16) (h26 : a ≠ 26) : ∀ (n c : Nat) (σ : Me), folF ns n c σ a = σ a
  | 0, c, σ => rfl
  | n + 1, c, σ => by
    show folF ns n (c + 1) (obeF ns c σ) a = σ a
    rw [folF_n h4 h5 h6 h7 h12 h13 h16 h26 n, obeF_n h4 h5 h6 h7 h12 h13 h16 h26]
theorem Ib_folF {g : GC} {ns : Nat} : ∀ (n c : Nat) (σ : Me), c + n ≤ g.2.2 → Ib g σ → Ib g (folF ns n c σ)
  | 0, c, σ, hc, h => h
  | n + 1, c, σ, hc, h => Ib_folF n (c + 1) _ (by omega) (Ib_obeF h (by omega))
theorem Tu_folF {g : GC} {q t ns i : Nat} (ht2 : t ≤ 1000000) (hq : q ≤ t + 1) : ∀ (n c : Nat) (σ : Me), c + n ≤ g.2.2 → Ib g σ → σ 25 0 0 = nI t → Tu q σ i → Tu q (folF ns n c σ) i
  | 0, c, σ, hc, hI, ht, h => h
  | n + 1, c, σ, hc, hI, ht, h => Tu_folF ht2 hq n (c + 1) _ (by omega) (Ib_obeF hI (by omega)) (by rw [obeF_n (by decide) (by decide) (by decide) (by decide) (by decide) (by decide) (by decide) (by decide)]; exact ht) (Tu_obeF hI (by omega) ht ht2 hq h)
theorem To_to {q s : Nat} {σ σ' : Me} (h : To q σ s) (e11 : σ' 11 = σ 11) (e10 : σ' 10 = σ 10) : To q σ' s := by
  unfold To
  rw [e11, e10]
  exact h
/-- a state at rest, at the minute t -/
def Rs (g : GC) (t : Nat) (σ : Me) : Prop := Ib g σ ∧ σ 25 0 0 = nI t ∧ t ≤ 1000000 ∧ (∀ k, k < g.1 → Tu (t + 1) σ k) ∧ (∀ s, s < g.2.1 → To (t + 1) σ s)
theorem Rs_min {g : GC} {t : Nat} {σ : Me} (h : Rs g t σ) (ht : t + 1 ≤ 1000000) : Rs g (t + 1) (minF g σ) := by
  obtain ⟨h1, h2, h3, h4, h5⟩ := h
  unfold minF
  have e0 : st3 σ 25 0 0 (σ 25 0 0 + 1) 25 0 0 = nI (t + 1) := by rw [st3_v, h2, nI_1]
  have i0 : Ib g (st3 σ 25 0 0 (σ 25 0 0 + 1)) := Ib_st h1 (by decide)
  have i1 := Ib_relF (ns := g.2.1) g.1 0 _ (by omega) i0
  have e1 : relF g.2.1 g.1 0 (st3 σ 25 0 0 (σ 25 0 0 + 1)) 25 0 0 = nI (t + 1) := by rw [relF_n (by decide) (by decide) (by decide) (by decide) (by decide) (by decide) (by decide)]; exact e0
  have u1 := Tu_relF (g := g) (ns := g.2.1) (Nat.succ_pos t) ht g.1 0 _ (by omega) i0 e0 (fun i hi => by rw [if_neg (by omega)]; unfold Tu; rw [st3_n (by decide)]; exact h4 i hi)
  have o1 : ∀ s, s < g.2.1 → To (t + 1) (relF g.2.1 g.1 0 (st3 σ 25 0 0 (σ 25 0 0 + 1))) s := fun s hs => To_to (h5 s hs) (by rw [relF_n (by decide) (by decide) (by decide) (by decide) (by decide) (by decide) (by decide), st3_n (by decide)]) (by rw [relF_n (by decide) (by decide) (by decide) (by decide) (by decide) (by decide) (by decide), st3_n (by decide)])
  have i2 := Ib_endF g.2.1 0 _ i1
  have e2 : endF g.2.1 0 (relF g.2.1 g.1 0 (st3 σ 25 0 0 (σ 25 0 0 + 1))) 25 0 0 = nI (t + 1) := by rw [endF_n (by decide)]; exact e1
  have o2 := To_endF (g := g) ht g.2.1 0 _ (by omega) e1 (fun i hi => by rw [if_neg (by omega)]; exact o1 i hi)
  refine ⟨Ib_folF g.2.2 0 _ (by omega) i2, ?_, ht, fun k hk => ?_, fun s hs => ?_⟩
  · rw [folF_n (by decide) (by decide) (by decide) (by decide) (by decide) (by decide) (by decide) (by decide)]; exact e2
  · refine Tu_folF ht (Nat.le_refl _) g.2.2 0 _ (by omega) i2 e2 ?_
    unfold Tu
    rw [endF_n (by decide)]
    exact u1 k hk
  · exact To_to (o2 s hs) (folF_n (by decide) (by decide) (by decide) (by decide) (by decide) (by decide) (by decide) (by decide) _ _ _) (folF_n (by decide) (by decide) (by decide) (by decide) (by decide) (by decide) (by decide) (by decide) _ _ _)
theorem Rs_pas {g : GC} : ∀ (n t : Nat) (σ : Me), Rs g t σ → t + n ≤ 1000000 → Rs g (t + n) (pasF g n σ)
  | 0, t, σ, h, hn => h
  | n + 1, t, σ, h, hn => by
    have := Rs_pas n (t + 1) _ (Rs_min h (by omega)) (by omega)
    rw [show t + (n + 1) = t + 1 + n by omega]
    exact this
/-- both sides' lists tell the same -/
theorem tol_eq {σ : Me} {c n n1 n2 t : Nat} (h6 : σ 17 c 0 = nI n) (hn : n ≤ 20) (hE : Ie σ c n n1 n2) (ht : t ≤ 1000000) : tolC σ c n1 n2 (nI t) = tolO σ c (nI t) := by
  obtain ⟨hA, hB, hC⟩ := hE
  have e1 : nI t / 1440 = nI (t / 1440) := pk_div (a := t) (d := 1440) (by omega) (by decide) (by decide)
  have e2 : remF (nI (t / 1440)) 7 = nI (t / 1440 % 7) := pk_rem (a := t / 1440) (d := 7) (by omega) (by decide) (by decide)
  have e3 : nOf (σ 17 c 0) = n := by rw [h6]; exact nI_clamp (by omega)
  have hd : t / 1440 ≤ 1000000 := by omega
  unfold tolC tolO tolF
  rw [e1, e2, e3]
  by_cases hc : hasF (σ 22 (2 * c + 1)) (nI (t / 1440)) n2
  · rw [if_pos hc, if_pos ((hA _ hd).mp hc), hB _ _ hd]
  · rw [if_neg hc, if_neg (fun z => hc ((hA _ hd).mpr z)), hC _ _ (Nat.mod_lt _ (by decide))]
end
section
set_option maxHeartbeats 4000000 in
set_option maxRecDepth 100000 in
theorem c_X0_hasDay (l : Launch) (D : va_G) (B : Nat) (ad : Ad) (g : GC) (σ : Me) (T : GC × Me × Int32) (o : Int64) (k n : Nat) (hk : k < 2 * g.2.2) (hn : σ 21 k 0 = nI n) (h20 : n ≤ 20) (d : Int32) : Met l yX0_hasDay wsX0_hasDay ({ frames := 0, cells := 0, slots := 0, locals := 0 }) (Pre D B ad (cW D ad (g, σ) T o) [.ref (ad 0 k), .int d]) (Qi D B (fun r u => u = (ad, cW D ad (g, σ) T o) ∧ r = bI (hasF (σ 22 k) d n))) 0 0 (ab B) := by
  refine Met.ofW (cc := cX0_hasDay) (maxL := 3) (ret := (some .boolean)) (by decide) rfl ?_
  intro p e s m args below meth c s₁ Bd hml hv
  obtain ⟨rfl, hC, hP⟩ := hv
  have hx := Bd.exec
  have hb := Bd.bytes
  have hr := Bd.returns
  have hts := atoms_spec (ws := wsX0_hasDay) Bd.pre
  have hown : s.vm.findClass RX0 = some m.cls := findClass_of_methodNamed Bd.named
  have hlocks := Bd.notSynchronized
  have hS : va_S (ab B) s.heap s.heap [] := va_S.rf
  have hl := lv_entry ([.ref (ad 0 k), .int d]) (n := 3) (Nat.le_of_ble_eq_true rfl)
  rw [lg_entry_eq]
  generalize (lg_sl ([.ref (ad 0 k), .int d]) ++ List.replicate (3 - (lg_sl ([.ref (ad 0 k), .int d])).length) Slot.unset).toArray = ls at hl ⊢
  have hl : lv_has ls 3 [(0, .ref (ad 0 k)), (1, .int d)] := hl
  refine lv_iconst (v := 0) hx hb dX0_hasDay_0 (by decide) ?_
  refine lv_istore_n (lv' := [(2, .int 0), (0, .ref (ad 0 k)), (1, .int d)]) hx hb dX0_hasDay_1 rfl hl (by decide) rfl (fun ls hl => ?_)
  refine w_ind (fun n9 H locs ls => ∃ i : Nat, i + n9 = n ∧ (∀ j, j < i → ¬ σ 22 k j = d) ∧ hw D B ad (cW D ad (g, σ) T o) H ∧ va_S (ab B) s.heap H locs ∧ lv_has ls 3 [(2, .int (nI i)), (0, .ref (ad 0 k)), (1, .int d)]) ?_ n _ _ _ ⟨0, by omega, fun j hj => absurd hj (Nat.not_lt_zero j), hP, hS, lv_sub hl [0, 1, 2] rfl⟩
  intro n9 H locs ls hI ih
  obtain ⟨i, hi, hno, hP, hS, hl⟩ := hI
  refine lv_iload_n hx hb dX0_hasDay_2 rfl (lv_at hl 0 rfl) ?_
  refine lv_aload_n hx hb dX0_hasDay_3 rfl (lv_at hl 1 rfl) ?_
  refine w_get hx hb hts (by decide +kernel) hown hC hP (cW_0 hk) rfl 3 (by decide) (hts (.fieldLink RX0 21 "BuildingPoints$Entries" "count" "I") (by decide +kernel)) rfl dX0_hasDay_4 ?_
  refine w_top (v := nI n) hn ?_
  refine lv_icmp_ge (tgt := 28) hx hb dX0_hasDay_7 (by decide) (fun c_7 => ?_) (fun c_7 => ?_)
  · have hin : n ≤ i := Nat.not_lt.mp (fun z => absurd c_7 (nI_ge z (by omega)))
    refine lv_iconst (v := 0) hx hb dX0_hasDay_28 (by decide) ?_
    exact W.zret (v := 0) hx hb hr rfl (fun t ht hW => Qi_of ⟨rfl, (bI_f (fun ⟨j, h1, h2⟩ => hno j (by omega) h2)).symm⟩ hP hS ht) hS.2.2 dX0_hasDay_29
  · have hin : i < n := Nat.not_le.mp (fun z => c_7 (nI_le z (by omega)))
    refine lv_aload_n hx hb dX0_hasDay_10 rfl (lv_at hl 1 rfl) ?_
    refine w_get hx hb hts (by decide +kernel) hown hC hP (cW_0 hk) rfl 0 (by decide) (hts (.fieldLink RX0 9 "BuildingPoints$Entries" "days" "[I") (by decide +kernel)) rfl dX0_hasDay_11 ?_
    refine lv_iload_n hx hb dX0_hasDay_14 rfl (lv_at hl 0 rfl) ?_
    refine w_ildN hx hb hC hP (cW_9 hk) (by omega) (by decide) (v := σ 22 k i) rfl dX0_hasDay_15 ?_
    refine lv_iload_n hx hb dX0_hasDay_16 rfl (lv_at hl 2 rfl) ?_
    refine lv_icmp_ne (tgt := 22) hx hb dX0_hasDay_17 (by decide) (fun c_17 => ?_) (fun c_17 => ?_)
    · refine lv_iinc (v := nI (i + 1)) (lv' := [(2, .int (nI (i + 1))), (0, .ref (ad 0 k)), (1, .int d)]) hx hb dX0_hasDay_22 hl (k := 0) rfl (nI_add i 1) (by decide) rfl (fun ls hl => ?_)
      refine lv_goto (tgt := 2) hx hb dX0_hasDay_25 (by decide) ?_
      exact ih (n9 - 1) _ _ _ (by omega) ⟨i + 1, by omega, fun j hj => by rcases Nat.lt_succ_iff_lt_or_eq.mp hj with q | q; exact hno j q; rw [q]; exact c_17, hP, hS, lv_sub hl [0, 1, 2] rfl⟩
    · refine lv_iconst (v := 1) hx hb dX0_hasDay_20 (by decide) ?_
      exact W.zret (v := 1) hx hb hr rfl (fun t ht hW => Qi_of ⟨rfl, (bI_t ⟨i, hin, c_17⟩).symm⟩ hP hS ht) hS.2.2 dX0_hasDay_21
set_option maxHeartbeats 4000000 in
set_option maxRecDepth 100000 in
theorem c_X0_latest (l : Launch) (D : va_G) (B : Nat) (ad : Ad) (g : GC) (σ : Me) (T : GC × Me × Int32) (o : Int64) (k n : Nat) (hk : k < 2 * g.2.2) (hn : σ 21 k 0 = nI n) (h20 : n ≤ 20) (d x : Int32) : Met l yX0_latest wsX0_latest ({ frames := 0, cells := 0, slots := 0, locals := 0 }) (Pre D B ad (cW D ad (g, σ) T o) [.ref (ad 0 k), .int d, .int x]) (Qi D B (fun r u => u = (ad, cW D ad (g, σ) T o) ∧ r = (latF (σ 22 k) (σ 23 k) (σ 24 k) d x n).2)) 0 0 (ab B) := by
  refine Met.ofW (cc := cX0_latest) (maxL := 6) (ret := (some .int)) (by decide) rfl ?_
  intro p e s m args below meth c s₁ Bd hml hv
  obtain ⟨rfl, hC, hP⟩ := hv
  have hx := Bd.exec
  have hb := Bd.bytes
  have hr := Bd.returns
  have hts := atoms_spec (ws := wsX0_latest) Bd.pre
  have hown : s.vm.findClass RX0 = some m.cls := findClass_of_methodNamed Bd.named
  have hlocks := Bd.notSynchronized
  have hS : va_S (ab B) s.heap s.heap [] := va_S.rf
  have hl := lv_entry ([.ref (ad 0 k), .int d, .int x]) (n := 6) (Nat.le_of_ble_eq_true rfl)
  rw [lg_entry_eq]
  generalize (lg_sl ([.ref (ad 0 k), .int d, .int x]) ++ List.replicate (6 - (lg_sl ([.ref (ad 0 k), .int d, .int x])).length) Slot.unset).toArray = ls at hl ⊢
  have hl : lv_has ls 6 [(0, .ref (ad 0 k)), (1, .int d), (2, .int x)] := hl
  refine lv_iconst (v := (-1)) hx hb dX0_latest_0 (by decide) ?_
  refine lv_istore_n (lv' := [(3, .int (-1)), (0, .ref (ad 0 k)), (1, .int d), (2, .int x)]) hx hb dX0_latest_1 rfl hl (by decide) rfl (fun ls hl => ?_)
  refine lv_ldc (v := (-100000)) hx hb hown (hts (.constant RX0 25 (-100000)) (by decide +kernel)) dX0_latest_2 ?_
  refine w_top (v := nth) rfl ?_
  refine lv_istore (lv' := [(4, .int nth), (3, .int (-1)), (0, .ref (ad 0 k)), (1, .int d), (2, .int x)]) hx hb dX0_latest_4 hl (by decide) rfl (fun ls hl => ?_)
  refine lv_iconst (v := 0) hx hb dX0_latest_6 (by decide) ?_
  refine lv_istore (lv' := [(5, .int 0), (4, .int nth), (3, .int (-1)), (0, .ref (ad 0 k)), (1, .int d), (2, .int x)]) hx hb dX0_latest_7 hl (by decide) rfl (fun ls hl => ?_)
  refine w_ind (fun n9 H locs ls => ∃ i : Nat, i + n9 = n ∧ hw D B ad (cW D ad (g, σ) T o) H ∧ va_S (ab B) s.heap H locs ∧ lv_has ls 6 [(5, .int (nI i)), (3, .int (latF (σ 22 k) (σ 23 k) (σ 24 k) d x i).1), (4, .int (latF (σ 22 k) (σ 23 k) (σ 24 k) d x i).2), (0, .ref (ad 0 k)), (1, .int d), (2, .int x)]) ?_ n _ _ _ ⟨0, by omega, hP, hS, lv_sub hl [0, 2, 1, 3, 4, 5] rfl⟩
  intro n9 H locs ls hI ih
  obtain ⟨i, hi, hP, hS, hl⟩ := hI
  refine lv_iload hx hb dX0_latest_9 (lv_at hl 0 rfl) ?_
  refine lv_aload_n hx hb dX0_latest_11 rfl (lv_at hl 3 rfl) ?_
  refine w_get hx hb hts (by decide +kernel) hown hC hP (cW_0 hk) rfl 3 (by decide) (hts (.fieldLink RX0 21 "BuildingPoints$Entries" "count" "I") (by decide +kernel)) rfl dX0_latest_12 ?_
  refine w_top (v := nI n) hn ?_
  refine lv_icmp_ge (tgt := 74) hx hb dX0_latest_15 (by decide) (fun c_15 => ?_) (fun c_15 => ?_)
  · have hin : n ≤ i := Nat.not_lt.mp (fun z => absurd c_15 (nI_ge z (by omega)))
    refine lv_iload hx hb dX0_latest_74 (lv_at hl 2 rfl) ?_
    exact W.iret (v := ((latF (σ 22 k) (σ 23 k) (σ 24 k) d x i).2)) hx hb hr (fun t ht hW => Qi_of ⟨rfl, by rw [show i = n by omega]⟩ hP hS ht) hS.2.2 dX0_latest_76
  · have hin : i < n := Nat.not_le.mp (fun z => c_15 (nI_le z (by omega)))
    refine lv_aload_n hx hb dX0_latest_18 rfl (lv_at hl 3 rfl) ?_
    refine w_get hx hb hts (by decide +kernel) hown hC hP (cW_0 hk) rfl 0 (by decide) (hts (.fieldLink RX0 9 "BuildingPoints$Entries" "days" "[I") (by decide +kernel)) rfl dX0_latest_19 ?_
    refine lv_iload hx hb dX0_latest_22 (lv_at hl 0 rfl) ?_
    refine w_ildN hx hb hC hP (cW_9 hk) (by omega) (by decide) (v := σ 22 k i) rfl dX0_latest_24 ?_
    refine lv_iload_n hx hb dX0_latest_25 rfl (lv_at hl 4 rfl) ?_
    refine lv_icmp_ne (tgt := 68) hx hb dX0_latest_26 (by decide) (fun c_26 => ?_) (fun c_26 => ?_)
    · refine lv_iinc (v := nI (i + 1)) (lv' := [(5, .int (nI (i + 1))), (3, .int ((latF (σ 22 k) (σ 23 k) (σ 24 k) d x i).1)), (4, .int ((latF (σ 22 k) (σ 23 k) (σ 24 k) d x i).2)), (0, .ref (ad 0 k)), (1, .int d), (2, .int x)]) hx hb dX0_latest_68 hl (k := 0) rfl (nI_add i 1) (by decide) rfl (fun ls hl => ?_)
      refine lv_goto (tgt := 9) hx hb dX0_latest_71 (by decide) ?_
      have E9 : latF (σ 22 k) (σ 23 k) (σ 24 k) d x (i + 1) = latF (σ 22 k) (σ 23 k) (σ 24 k) d x i := by
        simp only [latF]
        exact if_neg (fun z => c_26 z.1)
      exact ih (n9 - 1) _ _ _ (by omega) ⟨i + 1, by omega, hP, hS, by rw [E9]; exact lv_sub hl [0, 1, 2, 3, 4, 5] rfl⟩
    · refine lv_aload_n hx hb dX0_latest_29 rfl (lv_at hl 3 rfl) ?_
      refine w_get hx hb hts (by decide +kernel) hown hC hP (cW_0 hk) rfl 1 (by decide) (hts (.fieldLink RX0 15 "BuildingPoints$Entries" "minutes" "[I") (by decide +kernel)) rfl dX0_latest_30 ?_
      refine lv_iload hx hb dX0_latest_33 (lv_at hl 0 rfl) ?_
      refine w_ildN hx hb hC hP (cW_10 hk) (by omega) (by decide) (v := σ 23 k i) rfl dX0_latest_35 ?_
      refine lv_iload_n hx hb dX0_latest_36 rfl (lv_at hl 5 rfl) ?_
      refine lv_icmp_gt (tgt := 68) hx hb dX0_latest_37 (by decide) (fun c_37 => ?_) (fun c_37 => ?_)
      · refine lv_iinc (v := nI (i + 1)) (lv' := [(5, .int (nI (i + 1))), (3, .int ((latF (σ 22 k) (σ 23 k) (σ 24 k) d x i).1)), (4, .int ((latF (σ 22 k) (σ 23 k) (σ 24 k) d x i).2)), (0, .ref (ad 0 k)), (1, .int d), (2, .int x)]) hx hb dX0_latest_68 hl (k := 0) rfl (nI_add i 1) (by decide) rfl (fun ls hl => ?_)
        refine lv_goto (tgt := 9) hx hb dX0_latest_71 (by decide) ?_
        have E9 : latF (σ 22 k) (σ 23 k) (σ 24 k) d x (i + 1) = latF (σ 22 k) (σ 23 k) (σ 24 k) d x i := by
          simp only [latF]
          exact if_neg (fun z => absurd z.2.1 (Int32.not_le.mpr c_37))
        exact ih (n9 - 1) _ _ _ (by omega) ⟨i + 1, by omega, hP, hS, by rw [E9]; exact lv_sub hl [0, 1, 2, 3, 4, 5] rfl⟩
      · refine lv_aload_n hx hb dX0_latest_40 rfl (lv_at hl 3 rfl) ?_
        refine w_get hx hb hts (by decide +kernel) hown hC hP (cW_0 hk) rfl 1 (by decide) (hts (.fieldLink RX0 15 "BuildingPoints$Entries" "minutes" "[I") (by decide +kernel)) rfl dX0_latest_41 ?_
        refine lv_iload hx hb dX0_latest_44 (lv_at hl 0 rfl) ?_
        refine w_ildN hx hb hC hP (cW_10 hk) (by omega) (by decide) (v := σ 23 k i) rfl dX0_latest_46 ?_
        refine lv_iload_n hx hb dX0_latest_47 rfl (lv_at hl 1 rfl) ?_
        refine lv_icmp_lt (tgt := 68) hx hb dX0_latest_48 (by decide) (fun c_48 => ?_) (fun c_48 => ?_)
        · refine lv_iinc (v := nI (i + 1)) (lv' := [(5, .int (nI (i + 1))), (3, .int ((latF (σ 22 k) (σ 23 k) (σ 24 k) d x i).1)), (4, .int ((latF (σ 22 k) (σ 23 k) (σ 24 k) d x i).2)), (0, .ref (ad 0 k)), (1, .int d), (2, .int x)]) hx hb dX0_latest_68 hl (k := 0) rfl (nI_add i 1) (by decide) rfl (fun ls hl => ?_)
          refine lv_goto (tgt := 9) hx hb dX0_latest_71 (by decide) ?_
          have E9 : latF (σ 22 k) (σ 23 k) (σ 24 k) d x (i + 1) = latF (σ 22 k) (σ 23 k) (σ 24 k) d x i := by
            simp only [latF]
            exact if_neg (fun z => absurd z.2.2 (Int32.not_le.mpr c_48))
          exact ih (n9 - 1) _ _ _ (by omega) ⟨i + 1, by omega, hP, hS, by rw [E9]; exact lv_sub hl [0, 1, 2, 3, 4, 5] rfl⟩
        · refine lv_aload_n hx hb dX0_latest_51 rfl (lv_at hl 3 rfl) ?_
          refine w_get hx hb hts (by decide +kernel) hown hC hP (cW_0 hk) rfl 1 (by decide) (hts (.fieldLink RX0 15 "BuildingPoints$Entries" "minutes" "[I") (by decide +kernel)) rfl dX0_latest_52 ?_
          refine lv_iload hx hb dX0_latest_55 (lv_at hl 0 rfl) ?_
          refine w_ildN hx hb hC hP (cW_10 hk) (by omega) (by decide) (v := σ 23 k i) rfl dX0_latest_57 ?_
          refine lv_istore_n (lv' := [(3, .int (σ 23 k i)), (5, .int (nI i)), (4, .int ((latF (σ 22 k) (σ 23 k) (σ 24 k) d x i).2)), (0, .ref (ad 0 k)), (1, .int d), (2, .int x)]) hx hb dX0_latest_58 rfl hl (by decide) rfl (fun ls hl => ?_)
          refine lv_aload_n hx hb dX0_latest_59 rfl (lv_at hl 3 rfl) ?_
          refine w_get hx hb hts (by decide +kernel) hown hC hP (cW_0 hk) rfl 2 (by decide) (hts (.fieldLink RX0 18 "BuildingPoints$Entries" "told" "[I") (by decide +kernel)) rfl dX0_latest_60 ?_
          refine lv_iload hx hb dX0_latest_63 (lv_at hl 1 rfl) ?_
          refine w_ildN hx hb hC hP (cW_11 hk) (by omega) (by decide) (v := σ 24 k i) rfl dX0_latest_65 ?_
          refine lv_istore (lv' := [(4, .int (σ 24 k i)), (3, .int (σ 23 k i)), (5, .int (nI i)), (0, .ref (ad 0 k)), (1, .int d), (2, .int x)]) hx hb dX0_latest_66 hl (by decide) rfl (fun ls hl => ?_)
          refine lv_iinc (v := nI (i + 1)) (lv' := [(5, .int (nI (i + 1))), (4, .int (σ 24 k i)), (3, .int (σ 23 k i)), (0, .ref (ad 0 k)), (1, .int d), (2, .int x)]) hx hb dX0_latest_68 hl (k := 2) rfl (nI_add i 1) (by decide) rfl (fun ls hl => ?_)
          refine lv_goto (tgt := 9) hx hb dX0_latest_71 (by decide) ?_
          have E9 : latF (σ 22 k) (σ 23 k) (σ 24 k) d x (i + 1) = (σ 23 k i, σ 24 k i) := by
            simp only [latF]
            exact if_pos ⟨c_26, Int32.not_lt.mp c_37, Int32.not_lt.mp c_48⟩
          exact ih (n9 - 1) _ _ _ (by omega) ⟨i + 1, by omega, hP, hS, by rw [E9]; exact lv_sub hl [0, 2, 1, 3, 4, 5] rfl⟩
set_option maxHeartbeats 4000000 in
set_option maxRecDepth 100000 in
theorem c_X0_add (l : Launch) (D : va_G) (B : Nat) (ad : Ad) (g : GC) (σ : Me) (T : GC × Me × Int32) (o : Int64) (k n : Nat) (hk : k < 2 * g.2.2) (hn : σ 21 k 0 = nI n) (h20 : n < 20) (d x v : Int32) : Met l yX0_add wsX0_add ({ frames := 0, cells := 0, slots := 0, locals := 0 }) (Pre D B ad (cW D ad (g, σ) T o) [.ref (ad 0 k), .int d, .int x, .int v]) (Qv D B (fun u => u = (ad, cW D ad (g, st3 (st3 (st3 (st3 σ 22 k n d) 23 k n x) 24 k n v) 21 k 0 (nI (n + 1))) T o))) 0 0 (ab B) := by
  refine Met.ofW (cc := cX0_add) (maxL := 4) (ret := none) (by decide) rfl ?_
  intro p e s m args below meth c s₁ Bd hml hv
  obtain ⟨rfl, hC, hP⟩ := hv
  have hx := Bd.exec
  have hb := Bd.bytes
  have hr := Bd.returns
  have hts := atoms_spec (ws := wsX0_add) Bd.pre
  have hown : s.vm.findClass RX0 = some m.cls := findClass_of_methodNamed Bd.named
  have hlocks := Bd.notSynchronized
  have hS : va_S (ab B) s.heap s.heap [] := va_S.rf
  have hl := lv_entry ([.ref (ad 0 k), .int d, .int x, .int v]) (n := 4) (Nat.le_of_ble_eq_true rfl)
  rw [lg_entry_eq]
  generalize (lg_sl ([.ref (ad 0 k), .int d, .int x, .int v]) ++ List.replicate (4 - (lg_sl ([.ref (ad 0 k), .int d, .int x, .int v])).length) Slot.unset).toArray = ls at hl ⊢
  have hl : lv_has ls 4 [(0, .ref (ad 0 k)), (1, .int d), (2, .int x), (3, .int v)] := hl
  refine lv_aload_n hx hb dX0_add_0 rfl (lv_at hl 0 rfl) ?_
  refine w_get hx hb hts (by decide +kernel) hown hC hP (cW_0 hk) rfl 3 (by decide) (hts (.fieldLink RX0 21 "BuildingPoints$Entries" "count" "I") (by decide +kernel)) rfl dX0_add_1 ?_
  refine w_top (v := nI n) (by simpa [st3] using hn) ?_
  refine lv_bipush (v := (20)) hx hb dX0_add_4 (by decide) ?_
  refine lv_icmp_ge (tgt := 49) hx hb dX0_add_6 (by decide) (fun c_6 => ?_) (fun c_6 => ?_)
  · exact absurd c_6 (nI_ge h20 (by decide))
  · refine lv_aload_n hx hb dX0_add_9 rfl (lv_at hl 0 rfl) ?_
    refine w_get hx hb hts (by decide +kernel) hown hC hP (cW_0 hk) rfl 0 (by decide) (hts (.fieldLink RX0 9 "BuildingPoints$Entries" "days" "[I") (by decide +kernel)) rfl dX0_add_10 ?_
    refine lv_aload_n hx hb dX0_add_13 rfl (lv_at hl 0 rfl) ?_
    refine w_get hx hb hts (by decide +kernel) hown hC hP (cW_0 hk) rfl 3 (by decide) (hts (.fieldLink RX0 21 "BuildingPoints$Entries" "count" "I") (by decide +kernel)) rfl dX0_add_14 ?_
    refine w_top (v := nI n) (by simpa [st3] using hn) ?_
    refine lv_iload_n hx hb dX0_add_17 rfl (lv_at hl 1 rfl) ?_
    refine w_istN hx hb hC hP hS (cW_9 hk) (by omega) (by decide) dX0_add_18 (fun H locs hP hS => ?_)
    have hP := hw_eq hP (pK9 hk n _)
    refine lv_aload_n hx hb dX0_add_19 rfl (lv_at hl 0 rfl) ?_
    refine w_get hx hb hts (by decide +kernel) hown hC hP (cW_0 hk) rfl 1 (by decide) (hts (.fieldLink RX0 15 "BuildingPoints$Entries" "minutes" "[I") (by decide +kernel)) rfl dX0_add_20 ?_
    refine lv_aload_n hx hb dX0_add_23 rfl (lv_at hl 0 rfl) ?_
    refine w_get hx hb hts (by decide +kernel) hown hC hP (cW_0 hk) rfl 3 (by decide) (hts (.fieldLink RX0 21 "BuildingPoints$Entries" "count" "I") (by decide +kernel)) rfl dX0_add_24 ?_
    refine w_top (v := nI n) (by simpa [st3] using hn) ?_
    refine lv_iload_n hx hb dX0_add_27 rfl (lv_at hl 2 rfl) ?_
    refine w_istN hx hb hC hP hS (cW_10 hk) (by omega) (by decide) dX0_add_28 (fun H locs hP hS => ?_)
    have hP := hw_eq hP (pK10 hk n _)
    refine lv_aload_n hx hb dX0_add_29 rfl (lv_at hl 0 rfl) ?_
    refine w_get hx hb hts (by decide +kernel) hown hC hP (cW_0 hk) rfl 2 (by decide) (hts (.fieldLink RX0 18 "BuildingPoints$Entries" "told" "[I") (by decide +kernel)) rfl dX0_add_30 ?_
    refine lv_aload_n hx hb dX0_add_33 rfl (lv_at hl 0 rfl) ?_
    refine w_get hx hb hts (by decide +kernel) hown hC hP (cW_0 hk) rfl 3 (by decide) (hts (.fieldLink RX0 21 "BuildingPoints$Entries" "count" "I") (by decide +kernel)) rfl dX0_add_34 ?_
    refine w_top (v := nI n) (by simpa [st3] using hn) ?_
    refine lv_iload_n hx hb dX0_add_37 rfl (lv_at hl 3 rfl) ?_
    refine w_istN hx hb hC hP hS (cW_11 hk) (by omega) (by decide) dX0_add_38 (fun H locs hP hS => ?_)
    have hP := hw_eq hP (pK11 hk n _)
    refine lv_aload_n hx hb dX0_add_39 rfl (lv_at hl 0 rfl) ?_
    refine lv_dup hx hb dX0_add_40 rfl ?_
    refine w_get hx hb hts (by decide +kernel) hown hC hP (cW_0 hk) rfl 3 (by decide) (hts (.fieldLink RX0 21 "BuildingPoints$Entries" "count" "I") (by decide +kernel)) rfl dX0_add_41 ?_
    refine w_top (v := nI n) (by simpa [st3] using hn) ?_
    refine lv_iconst (v := 1) hx hb dX0_add_44 (by decide) ?_
    refine lv_iadd hx hb dX0_add_45 ?_
    refine w_top (v := nI (n + 1)) (nI_1 n) ?_
    refine w_put hx hb hts (by decide +kernel) tyX0 tyX0_ok nmX0 hown hC hP hS (cW_0 hk) rfl 3 (by decide) (hts (.fieldLink RX0 21 "BuildingPoints$Entries" "count" "I") (by decide +kernel)) rfl rfl rfl (Nat.le_of_ble_eq_true rfl) rfl dX0_add_46 (fun H locs hP hS => ?_)
    have hP := hw_eq hP (pE3 hk _)
    exact W.vret hx hb hr (fun t ht hW => Qv_of (by rfl) hP hS ht) hS.2.2 dX0_add_49
set_option maxHeartbeats 4000000 in
set_option maxRecDepth 100000 in
theorem c_X1_canHave (l : Launch) (D : va_G) (B : Nat) (ad : Ad) (g : GC) (σ : Me) (T : GC × Me × Int32) (o : Int64) (k : Nat) (hk : k < g.1) (v : Int32) : Met l yX1_canHave wsX1_canHave ({ frames := 0, cells := 0, slots := 0, locals := 0 }) (Pre D B ad (cW D ad (g, σ) T o) [.ref (ad 1 k), .int v]) (Qi D B (fun r u => u = (ad, cW D ad (g, σ) T o) ∧ r = bI (loF (σ 1 k 0) ≤ v ∧ v ≤ hiF (σ 1 k 0)))) 0 0 (ab B) := by
  refine Met.ofW (cc := cX1_canHave) (maxL := 2) (ret := (some .boolean)) (by decide) rfl ?_
  intro p e s m args below meth c s₁ Bd hml hv
  obtain ⟨rfl, hC, hP⟩ := hv
  have hx := Bd.exec
  have hb := Bd.bytes
  have hr := Bd.returns
  have hts := atoms_spec (ws := wsX1_canHave) Bd.pre
  have hown : s.vm.findClass RX1 = some m.cls := findClass_of_methodNamed Bd.named
  have hlocks := Bd.notSynchronized
  have hS : va_S (ab B) s.heap s.heap [] := va_S.rf
  have hl := lv_entry ([.ref (ad 1 k), .int v]) (n := 2) (Nat.le_of_ble_eq_true rfl)
  rw [lg_entry_eq]
  generalize (lg_sl ([.ref (ad 1 k), .int v]) ++ List.replicate (2 - (lg_sl ([.ref (ad 1 k), .int v])).length) Slot.unset).toArray = ls at hl ⊢
  have hl : lv_has ls 2 [(0, .ref (ad 1 k)), (1, .int v)] := hl
  refine lv_iload_n hx hb dX1_canHave_0 rfl (lv_at hl 1 rfl) ?_
  refine lv_aload_n hx hb dX1_canHave_1 rfl (lv_at hl 0 rfl) ?_
  refine w_get hx hb hts (by decide +kernel) hown hC hP (cW_1 hk) rfl 0 (by decide) (hts (.fieldLink RX1 9 "BuildingPoints$Point" "lowest" "I") (by decide +kernel)) rfl dX1_canHave_2 ?_
  refine lv_icmp_lt (tgt := 20) hx hb dX1_canHave_5 (by decide) (fun c_5 => ?_) (fun c_5 => ?_)
  · refine lv_iconst (v := 0) hx hb dX1_canHave_20 (by decide) ?_
    exact W.zret (v := 0) hx hb hr rfl (fun t ht hW => Qi_of ⟨rfl, (bI_f (fun z => absurd z.1 (Int32.not_le.mpr c_5))).symm⟩ hP hS ht) hS.2.2 dX1_canHave_21
  · refine lv_iload_n hx hb dX1_canHave_8 rfl (lv_at hl 1 rfl) ?_
    refine lv_aload_n hx hb dX1_canHave_9 rfl (lv_at hl 0 rfl) ?_
    refine w_get hx hb hts (by decide +kernel) hown hC hP (cW_1 hk) rfl 1 (by decide) (hts (.fieldLink RX1 15 "BuildingPoints$Point" "highest" "I") (by decide +kernel)) rfl dX1_canHave_10 ?_
    refine lv_icmp_gt (tgt := 20) hx hb dX1_canHave_13 (by decide) (fun c_13 => ?_) (fun c_13 => ?_)
    · refine lv_iconst (v := 0) hx hb dX1_canHave_20 (by decide) ?_
      exact W.zret (v := 0) hx hb hr rfl (fun t ht hW => Qi_of ⟨rfl, (bI_f (fun z => absurd z.2 (Int32.not_le.mpr c_13))).symm⟩ hP hS ht) hS.2.2 dX1_canHave_21
    · refine lv_iconst (v := 1) hx hb dX1_canHave_16 (by decide) ?_
      refine lv_goto (tgt := 21) hx hb dX1_canHave_17 (by decide) ?_
      exact W.zret (v := 1) hx hb hr rfl (fun t ht hW => Qi_of ⟨rfl, (bI_t ⟨Int32.not_lt.mp c_5, Int32.not_lt.mp c_13⟩).symm⟩ hP hS ht) hS.2.2 dX1_canHave_21
set_option maxHeartbeats 4000000 in
set_option maxRecDepth 100000 in
theorem c_X1_isHeld (l : Launch) (D : va_G) (B : Nat) (ad : Ad) (g : GC) (σ : Me) (T : GC × Me × Int32) (o : Int64) (k : Nat) (hk : k < g.1) : Met l yX1_isHeld wsX1_isHeld ({ frames := 0, cells := 0, slots := 0, locals := 0 }) (Pre D B ad (cW D ad (g, σ) T o) [.ref (ad 1 k)]) (Qi D B (fun r u => u = (ad, cW D ad (g, σ) T o) ∧ r = bI (¬ σ 4 k 0 = 0))) 0 0 (ab B) := by
  refine Met.ofW (cc := cX1_isHeld) (maxL := 1) (ret := (some .boolean)) (by decide) rfl ?_
  intro p e s m args below meth c s₁ Bd hml hv
  obtain ⟨rfl, hC, hP⟩ := hv
  have hx := Bd.exec
  have hb := Bd.bytes
  have hr := Bd.returns
  have hts := atoms_spec (ws := wsX1_isHeld) Bd.pre
  have hown : s.vm.findClass RX1 = some m.cls := findClass_of_methodNamed Bd.named
  have hlocks := Bd.notSynchronized
  have hS : va_S (ab B) s.heap s.heap [] := va_S.rf
  have hl := lv_entry ([.ref (ad 1 k)]) (n := 1) (Nat.le_of_ble_eq_true rfl)
  rw [lg_entry_eq]
  generalize (lg_sl ([.ref (ad 1 k)]) ++ List.replicate (1 - (lg_sl ([.ref (ad 1 k)])).length) Slot.unset).toArray = ls at hl ⊢
  have hl : lv_has ls 1 [(0, .ref (ad 1 k))] := hl
  refine lv_aload_n hx hb dX1_isHeld_0 rfl (lv_at hl 0 rfl) ?_
  refine w_get hx hb hts (by decide +kernel) hown hC hP (cW_1 hk) rfl 6 (by decide) (hts (.fieldLink RX1 38 "BuildingPoints$Point" "heldUntil" "I") (by decide +kernel)) rfl dX1_isHeld_1 ?_
  refine lv_if_eq (tgt := 11) hx hb dX1_isHeld_4 (by decide) (fun c_4 => ?_) (fun c_4 => ?_)
  · refine lv_iconst (v := 0) hx hb dX1_isHeld_11 (by decide) ?_
    exact W.zret (v := 0) hx hb hr rfl (fun t ht hW => Qi_of ⟨rfl, (bI_f (fun z => z c_4)).symm⟩ hP hS ht) hS.2.2 dX1_isHeld_12
  · refine lv_iconst (v := 1) hx hb dX1_isHeld_7 (by decide) ?_
    refine lv_goto (tgt := 12) hx hb dX1_isHeld_8 (by decide) ?_
    exact W.zret (v := 1) hx hb hr rfl (fun t ht hW => Qi_of ⟨rfl, (bI_t c_4).symm⟩ hP hS ht) hS.2.2 dX1_isHeld_12
set_option maxHeartbeats 4000000 in
set_option maxRecDepth 100000 in
theorem c_X1_lowestCommanded (l : Launch) (D : va_G) (B : Nat) (ad : Ad) (g : GC) (σ : Me) (T : GC × Me × Int32) (o : Int64) (k : Nat) (hk : k < g.1) : Met l yX1_lowestCommanded wsX1_lowestCommanded ({ frames := 0, cells := 0, slots := 0, locals := 0 }) (Pre D B ad (cW D ad (g, σ) T o) [.ref (ad 1 k)]) (Qi D B (fun r u => u = (ad, cW D ad (g, σ) T o) ∧ r = nI (stO σ k))) 0 0 (ab B) := by
  refine Met.ofW (cc := cX1_lowestCommanded) (maxL := 2) (ret := (some .int)) (by decide) rfl ?_
  intro p e s m args below meth c s₁ Bd hml hv
  obtain ⟨rfl, hC, hP⟩ := hv
  have hx := Bd.exec
  have hb := Bd.bytes
  have hr := Bd.returns
  have hts := atoms_spec (ws := wsX1_lowestCommanded) Bd.pre
  have hown : s.vm.findClass RX1 = some m.cls := findClass_of_methodNamed Bd.named
  have hlocks := Bd.notSynchronized
  have hS : va_S (ab B) s.heap s.heap [] := va_S.rf
  have hl := lv_entry ([.ref (ad 1 k)]) (n := 2) (Nat.le_of_ble_eq_true rfl)
  rw [lg_entry_eq]
  generalize (lg_sl ([.ref (ad 1 k)]) ++ List.replicate (2 - (lg_sl ([.ref (ad 1 k)])).length) Slot.unset).toArray = ls at hl ⊢
  have hl : lv_has ls 2 [(0, .ref (ad 1 k))] := hl
  refine lv_iconst (v := 1) hx hb dX1_lowestCommanded_0 (by decide) ?_
  refine lv_istore_n (lv' := [(1, .int 1), (0, .ref (ad 1 k))]) hx hb dX1_lowestCommanded_1 rfl hl (by decide) rfl (fun ls hl => ?_)
  refine w_ind (fun n9 H locs ls => ∃ i : Nat, i + n9 = 17 ∧ stO σ k = stF (σ 6 k) n9 i ∧ hw D B ad (cW D ad (g, σ) T o) H ∧ va_S (ab B) s.heap H locs ∧ lv_has ls 2 [(1, .int (nI i)), (0, .ref (ad 1 k))]) ?_ 16 _ _ _ ⟨1, rfl, rfl, hP, hS, lv_sub hl [0, 1] rfl⟩
  intro n9 H locs ls hI ih
  obtain ⟨i, hi, hst, hP, hS, hl⟩ := hI
  refine lv_iload_n hx hb dX1_lowestCommanded_2 rfl (lv_at hl 0 rfl) ?_
  refine lv_aload_n hx hb dX1_lowestCommanded_3 rfl (lv_at hl 1 rfl) ?_
  refine w_get hx hb hts (by decide +kernel) hown hC hP (cW_1 hk) rfl 4 (by decide) (hts (.fieldLink RX1 24 "BuildingPoints$Point" "commands" "[I") (by decide +kernel)) rfl dX1_lowestCommanded_4 ?_
  refine w_alen hx hb hC hP 0 rfl (cW_8 hk) (v := 17) rfl dX1_lowestCommanded_7 ?_
  refine lv_icmp_ge (tgt := 30) hx hb dX1_lowestCommanded_8 (by decide) (fun c_8 => ?_) (fun c_8 => ?_)
  · have hin : 17 ≤ i := Nat.not_lt.mp (fun z => absurd c_8 (nI_ge z (by decide)))
    refine lv_bipush (v := (17)) hx hb dX1_lowestCommanded_30 (by decide) ?_
    exact W.iret (v := 17) hx hb hr (fun t ht hW => Qi_of ⟨rfl, by rw [hst, show n9 = 0 by omega]; rfl⟩ hP hS ht) hS.2.2 dX1_lowestCommanded_32
  · have hin : i < 17 := Nat.not_le.mp (fun z => c_8 (nI_le z (by omega)))
    obtain ⟨n8, rfl⟩ : ∃ n8, n9 = n8 + 1 := ⟨n9 - 1, by omega⟩
    refine lv_aload_n hx hb dX1_lowestCommanded_11 rfl (lv_at hl 1 rfl) ?_
    refine w_get hx hb hts (by decide +kernel) hown hC hP (cW_1 hk) rfl 4 (by decide) (hts (.fieldLink RX1 24 "BuildingPoints$Point" "commands" "[I") (by decide +kernel)) rfl dX1_lowestCommanded_12 ?_
    refine lv_iload_n hx hb dX1_lowestCommanded_15 rfl (lv_at hl 0 rfl) ?_
    refine w_ildN hx hb hC hP (cW_8 hk) (by omega) (by decide) (v := σ 6 k i) rfl dX1_lowestCommanded_16 ?_
    refine lv_ldc (v := (-100000)) hx hb hown (hts (.constant RX1 28 (-100000)) (by decide +kernel)) dX1_lowestCommanded_17 ?_
    refine w_top (v := nth) rfl ?_
    refine lv_icmp_eq (tgt := 24) hx hb dX1_lowestCommanded_19 (by decide) (fun c_19 => ?_) (fun c_19 => ?_)
    · refine lv_iinc (v := nI (i + 1)) (lv' := [(1, .int (nI (i + 1))), (0, .ref (ad 1 k))]) hx hb dX1_lowestCommanded_24 hl (k := 0) rfl (nI_add i 1) (by decide) rfl (fun ls hl => ?_)
      refine lv_goto (tgt := 2) hx hb dX1_lowestCommanded_27 (by decide) ?_
      exact ih n8 _ _ _ (by omega) ⟨i + 1, by omega, by rw [hst]; simp only [stF]; rw [if_pos c_19], hP, hS, lv_sub hl [0, 1] rfl⟩
    · refine lv_iload_n hx hb dX1_lowestCommanded_22 rfl (lv_at hl 0 rfl) ?_
      exact W.iret (v := (nI i)) hx hb hr (fun t ht hW => Qi_of ⟨rfl, by rw [hst]; simp only [stF]; rw [if_neg c_19]⟩ hP hS ht) hS.2.2 dX1_lowestCommanded_23
set_option maxHeartbeats 4000000 in
set_option maxRecDepth 100000 in
theorem c_X1_dueValue (l : Launch) (D : va_G) (B : Nat) (ad : Ad) (g : GC) (σ : Me) (T : GC × Me × Int32) (o : Int64) (k : Nat) (hk : k < g.1) : Met l yX1_dueValue wsX1_dueValue ({ frames := 1, cells := 0, slots := 0, locals := 21 }) (Pre D B ad (cW D ad (g, σ) T o) [.ref (ad 1 k)]) (Qi D B (fun r u => u = (ad, cW D ad (g, σ) T o) ∧ r = vaO σ k)) 0 0 (ab B) := by
  refine Met.ofW (cc := cX1_dueValue) (maxL := 2) (ret := (some .int)) (by decide) rfl ?_
  intro p e s m args below meth c s₁ Bd hml hv
  obtain ⟨rfl, hC, hP⟩ := hv
  have hx := Bd.exec
  have hb := Bd.bytes
  have hr := Bd.returns
  have hts := atoms_spec (ws := wsX1_dueValue) Bd.pre
  have hown : s.vm.findClass RX1 = some m.cls := findClass_of_methodNamed Bd.named
  have hlocks := Bd.notSynchronized
  have hS : va_S (ab B) s.heap s.heap [] := va_S.rf
  have hl := lv_entry ([.ref (ad 1 k)]) (n := 2) (Nat.le_of_ble_eq_true rfl)
  rw [lg_entry_eq]
  generalize (lg_sl ([.ref (ad 1 k)]) ++ List.replicate (2 - (lg_sl ([.ref (ad 1 k)])).length) Slot.unset).toArray = ls at hl ⊢
  have hl : lv_has ls 2 [(0, .ref (ad 1 k))] := hl
  refine lv_aload_n hx hb dX1_dueValue_0 rfl (lv_at hl 0 rfl) ?_
  refine w_calli (va_runV (As := []) (rest := []) ⟨hx, hb, hml, hown, hts⟩ (c_X1_lowestCommanded l D B ad g σ T o k hk) (cwV 0 hts gX1_dueValue_X1_lowestCommanded rfl rfl rfl (by decide +kernel) ⟨Nat.le_of_ble_eq_true rfl, Nat.le_of_ble_eq_true rfl⟩) (w_preV hC hP hS (cW_1 hk) rfl) rfl rfl hl.1 rfl (lv_room (Nat.le_of_ble_eq_true rfl)) dX1_dueValue_1 ⟨Nat.le_of_ble_eq_true rfl, Nat.le_of_ble_eq_true rfl⟩) hS (fun r_1 ad1 w1 H locs hq hP hS => ?_)
  obtain ⟨h91, h92⟩ := hq
  cases h91
  subst h92
  refine lv_istore_n (lv' := [(1, .int (nI (stO σ k))), (0, .ref (ad 1 k))]) hx hb dX1_dueValue_4 rfl hl (by decide) rfl (fun ls hl => ?_)
  refine lv_iload_n hx hb dX1_dueValue_5 rfl (lv_at hl 0 rfl) ?_
  refine lv_aload_n hx hb dX1_dueValue_6 rfl (lv_at hl 1 rfl) ?_
  refine w_get hx hb hts (by decide +kernel) hown hC hP (cW_1 hk) rfl 4 (by decide) (hts (.fieldLink RX1 24 "BuildingPoints$Point" "commands" "[I") (by decide +kernel)) rfl dX1_dueValue_7 ?_
  refine w_alen hx hb hC hP 0 rfl (cW_8 hk) (v := 17) rfl dX1_dueValue_10 ?_
  refine lv_icmp_ge (tgt := 23) hx hb dX1_dueValue_11 (by decide) (fun c_11 => ?_) (fun c_11 => ?_)
  · have hlt : ¬ stO σ k < 17 := fun z => absurd c_11 (nI_ge z (by decide))
    refine lv_aload_n hx hb dX1_dueValue_23 rfl (lv_at hl 1 rfl) ?_
    refine w_get hx hb hts (by decide +kernel) hown hC hP (cW_1 hk) rfl 2 (by decide) (hts (.fieldLink RX1 18 "BuildingPoints$Point" "original" "I") (by decide +kernel)) rfl dX1_dueValue_24 ?_
    exact W.iret (v := (σ 2 k 0)) hx hb hr (fun t ht hW => Qi_of ⟨rfl, by unfold vaO; rw [if_neg hlt]⟩ hP hS ht) hS.2.2 dX1_dueValue_27
  · have hlt : stO σ k < 17 := Nat.not_le.mp (fun z => c_11 (nI_le z (by have := (stO_le σ k).1; omega)))
    refine lv_aload_n hx hb dX1_dueValue_14 rfl (lv_at hl 1 rfl) ?_
    refine w_get hx hb hts (by decide +kernel) hown hC hP (cW_1 hk) rfl 4 (by decide) (hts (.fieldLink RX1 24 "BuildingPoints$Point" "commands" "[I") (by decide +kernel)) rfl dX1_dueValue_15 ?_
    refine lv_iload_n hx hb dX1_dueValue_18 rfl (lv_at hl 0 rfl) ?_
    refine w_ildN hx hb hC hP (cW_8 hk) hlt (by decide) (v := σ 6 k (stO σ k)) rfl dX1_dueValue_19 ?_
    refine lv_goto (tgt := 27) hx hb dX1_dueValue_20 (by decide) ?_
    exact W.iret (v := (σ 6 k (stO σ k))) hx hb hr (fun t ht hW => Qi_of ⟨rfl, by unfold vaO; rw [if_pos hlt]⟩ hP hS ht) hS.2.2 dX1_dueValue_27
set_option maxHeartbeats 4000000 in
set_option maxRecDepth 100000 in
theorem c_X1_change (l : Launch) (D : va_G) (B : Nat) (ad : Ad) (g : GC) (σ : Me) (T : GC × Me × Int32) (o : Int64) (k : Nat) (hk : k < g.1) (d t : Int32) : Met l yX1_change wsX1_change ({ frames := 0, cells := 0, slots := 0, locals := 0 }) (Pre D B ad (cW D ad (g, σ) T o) [.ref (ad 1 k), .int d, .int t]) (Qv D B (fun u => u = (ad, cW D ad (g, chgF k d t σ) T o))) 0 0 (ab B) := by
  refine Met.ofW (cc := cX1_change) (maxL := 3) (ret := none) (by decide) rfl ?_
  intro p e s m args below meth c s₁ Bd hml hv
  obtain ⟨rfl, hC, hP⟩ := hv
  have hx := Bd.exec
  have hb := Bd.bytes
  have hr := Bd.returns
  have hts := atoms_spec (ws := wsX1_change) Bd.pre
  have hown : s.vm.findClass RX1 = some m.cls := findClass_of_methodNamed Bd.named
  have hlocks := Bd.notSynchronized
  have hS : va_S (ab B) s.heap s.heap [] := va_S.rf
  have hl := lv_entry ([.ref (ad 1 k), .int d, .int t]) (n := 3) (Nat.le_of_ble_eq_true rfl)
  rw [lg_entry_eq]
  generalize (lg_sl ([.ref (ad 1 k), .int d, .int t]) ++ List.replicate (3 - (lg_sl ([.ref (ad 1 k), .int d, .int t])).length) Slot.unset).toArray = ls at hl ⊢
  have hl : lv_has ls 3 [(0, .ref (ad 1 k)), (1, .int d), (2, .int t)] := hl
  refine lv_aload_n hx hb dX1_change_0 rfl (lv_at hl 0 rfl) ?_
  refine lv_iload_n hx hb dX1_change_1 rfl (lv_at hl 1 rfl) ?_
  refine w_put hx hb hts (by decide +kernel) tyX1 tyX1_ok nmX1 hown hC hP hS (cW_1 hk) rfl 5 (by decide) (hts (.fieldLink RX1 35 "BuildingPoints$Point" "present" "I") (by decide +kernel)) rfl rfl rfl (Nat.le_of_ble_eq_true rfl) rfl dX1_change_2 (fun H locs hP hS => ?_)
  have hP := hw_eq hP (pP5 hk _)
  refine lv_aload_n hx hb dX1_change_5 rfl (lv_at hl 0 rfl) ?_
  refine lv_dup hx hb dX1_change_6 rfl ?_
  refine w_get hx hb hts (by decide +kernel) hown hC hP (cW_1 hk) rfl 7 (by decide) (hts (.fieldLink RX1 41 "BuildingPoints$Point" "changeCount" "I") (by decide +kernel)) rfl dX1_change_7 ?_
  refine lv_iconst (v := 1) hx hb dX1_change_10 (by decide) ?_
  refine lv_iadd hx hb dX1_change_11 ?_
  refine w_put hx hb hts (by decide +kernel) tyX1 tyX1_ok nmX1 hown hC hP hS (cW_1 hk) rfl 7 (by decide) (hts (.fieldLink RX1 41 "BuildingPoints$Point" "changeCount" "I") (by decide +kernel)) rfl rfl rfl (Nat.le_of_ble_eq_true rfl) rfl dX1_change_12 (fun H locs hP hS => ?_)
  have hP := hw_eq hP (pP7 hk _)
  refine lv_aload_n hx hb dX1_change_15 rfl (lv_at hl 0 rfl) ?_
  refine w_get hx hb hts (by decide +kernel) hown hC hP (cW_1 hk) rfl 3 (by decide) (hts (.fieldLink RX1 21 "BuildingPoints$Point" "leastTime" "I") (by decide +kernel)) rfl dX1_change_16 ?_
  refine lv_if_le (tgt := 40) hx hb dX1_change_19 (by decide) (fun c_19 => ?_) (fun c_19 => ?_)
  · exact W.vret hx hb hr (fun t ht hW => Qv_of (by unfold chgF; rw [if_neg (Int32.not_lt.mpr (by simpa [st3] using c_19))]; simp [st3]) hP hS ht) hS.2.2 dX1_change_40
  · refine lv_aload_n hx hb dX1_change_22 rfl (lv_at hl 0 rfl) ?_
    refine w_get hx hb hts (by decide +kernel) hown hC hP (cW_1 hk) rfl 4 (by decide) (hts (.fieldLink RX1 24 "BuildingPoints$Point" "commands" "[I") (by decide +kernel)) rfl dX1_change_23 ?_
    refine lv_bipush (v := (6)) hx hb dX1_change_26 (by decide) ?_
    refine lv_iload_n hx hb dX1_change_28 rfl (lv_at hl 1 rfl) ?_
    refine w_top2 (v := nI 6) rfl ?_
    refine w_istN hx hb hC hP hS (cW_8 hk) (by omega) (by decide) dX1_change_29 (fun H locs hP hS => ?_)
    have hP := hw_eq hP (pK8 hk 6 _)
    refine lv_aload_n hx hb dX1_change_30 rfl (lv_at hl 0 rfl) ?_
    refine lv_iload_n hx hb dX1_change_31 rfl (lv_at hl 2 rfl) ?_
    refine lv_aload_n hx hb dX1_change_32 rfl (lv_at hl 0 rfl) ?_
    refine w_get hx hb hts (by decide +kernel) hown hC hP (cW_1 hk) rfl 3 (by decide) (hts (.fieldLink RX1 21 "BuildingPoints$Point" "leastTime" "I") (by decide +kernel)) rfl dX1_change_33 ?_
    refine lv_iadd hx hb dX1_change_36 ?_
    refine w_put hx hb hts (by decide +kernel) tyX1 tyX1_ok nmX1 hown hC hP hS (cW_1 hk) rfl 6 (by decide) (hts (.fieldLink RX1 38 "BuildingPoints$Point" "heldUntil" "I") (by decide +kernel)) rfl rfl rfl (Nat.le_of_ble_eq_true rfl) rfl dX1_change_37 (fun H locs hP hS => ?_)
    have hP := hw_eq hP (pP6 hk _)
    exact W.vret hx hb hr (fun t ht hW => Qv_of (by unfold chgF; rw [if_pos (Int32.not_le.mp (by simpa [st3] using c_19))]; simp [st3]) hP hS ht) hS.2.2 dX1_change_40
set_option maxHeartbeats 4000000 in
set_option maxRecDepth 100000 in
theorem c_X3_isFarFrom (l : Launch) (D : va_G) (B : Nat) (ad : Ad) (g : GC) (σ : Me) (T : GC × Me × Int32) (o : Int64) (k : Nat) (hk : k < g.2.1) (v : Int32) : Met l yX3_isFarFrom wsX3_isFarFrom ({ frames := 1, cells := 0, slots := 0, locals := 24 }) (Pre D B ad (cW D ad (g, σ) T o) [.ref (ad 3 k), .int v]) (Qi D B (fun r u => u = (ad, cW D ad (g, σ) T o) ∧ r = bI (σ 9 k 0 ≤ (if 0 ≤ v - σ 13 k 0 then v - σ 13 k 0 else 0 - (v - σ 13 k 0))))) 0 0 (ab B) := by
  refine Met.ofW (cc := cX3_isFarFrom) (maxL := 2) (ret := (some .boolean)) (by decide) rfl ?_
  intro p e s m args below meth c s₁ Bd hml hv
  obtain ⟨rfl, hC, hP⟩ := hv
  have hx := Bd.exec
  have hb := Bd.bytes
  have hr := Bd.returns
  have hts := atoms_spec (ws := wsX3_isFarFrom) Bd.pre
  have hown : s.vm.findClass RX3 = some m.cls := findClass_of_methodNamed Bd.named
  have hlocks := Bd.notSynchronized
  have hS : va_S (ab B) s.heap s.heap [] := va_S.rf
  have hl := lv_entry ([.ref (ad 3 k), .int v]) (n := 2) (Nat.le_of_ble_eq_true rfl)
  rw [lg_entry_eq]
  generalize (lg_sl ([.ref (ad 3 k), .int v]) ++ List.replicate (2 - (lg_sl ([.ref (ad 3 k), .int v])).length) Slot.unset).toArray = ls at hl ⊢
  have hl : lv_has ls 2 [(0, .ref (ad 3 k)), (1, .int v)] := hl
  refine lv_iload_n hx hb dX3_isFarFrom_0 rfl (lv_at hl 1 rfl) ?_
  refine lv_aload_n hx hb dX3_isFarFrom_1 rfl (lv_at hl 0 rfl) ?_
  refine w_get hx hb hts (by decide +kernel) hown hC hP (cW_3 hk) rfl 3 (by decide) (hts (.fieldLink RX3 25 "BuildingPoints$Subscription" "kept" "I") (by decide +kernel)) rfl dX3_isFarFrom_2 ?_
  refine lv_isub hx hb dX3_isFarFrom_5 ?_
  refine va_mabs hx hb (by rw [hml]; exact hl.1.symm) hown (hts (.methodLink RX3 35 Lib.Math.abs.name) (by decide +kernel)) (hts (.static Lib.Math.abs.name) (by decide +kernel)) (hts (.initialized "java/lang/Math") (by decide +kernel)) (hts (.code Lib.Math.abs.name Lib.Math.abs.code 1 (some .int)) (by decide +kernel)) (Nat.le_of_ble_eq_true rfl) (Nat.le_of_ble_eq_true rfl) (Nat.le_of_ble_eq_true rfl) (Nat.le_of_ble_eq_true rfl) dX3_isFarFrom_6 ?_
  refine lv_aload_n hx hb dX3_isFarFrom_9 rfl (lv_at hl 0 rfl) ?_
  refine w_get hx hb hts (by decide +kernel) hown hC hP (cW_3 hk) rfl 1 (by decide) (hts (.fieldLink RX3 13 "BuildingPoints$Subscription" "increment" "I") (by decide +kernel)) rfl dX3_isFarFrom_10 ?_
  refine lv_icmp_lt (tgt := 20) hx hb dX3_isFarFrom_13 (by decide) (fun c_13 => ?_) (fun c_13 => ?_)
  · refine lv_iconst (v := 0) hx hb dX3_isFarFrom_20 (by decide) ?_
    exact W.zret (v := 0) hx hb hr rfl (fun t ht hW => Qi_of ⟨rfl, (bI_f (Int32.not_le.mpr c_13)).symm⟩ hP hS ht) hS.2.2 dX3_isFarFrom_21
  · refine lv_iconst (v := 1) hx hb dX3_isFarFrom_16 (by decide) ?_
    refine lv_goto (tgt := 21) hx hb dX3_isFarFrom_17 (by decide) ?_
    exact W.zret (v := 1) hx hb hr rfl (fun t ht hW => Qi_of ⟨rfl, (bI_t (Int32.not_lt.mp c_13)).symm⟩ hP hS ht) hS.2.2 dX3_isFarFrom_21
set_option maxHeartbeats 4000000 in
set_option maxRecDepth 100000 in
theorem c_X3_report (l : Launch) (D : va_G) (B : Nat) (ad : Ad) (g : GC) (σ : Me) (T : GC × Me × Int32) (o : Int64) (k : Nat) (hk : k < g.2.1) (v : Int32) : Met l yX3_report wsX3_report ({ frames := 0, cells := 0, slots := 0, locals := 0 }) (Pre D B ad (cW D ad (g, σ) T o) [.ref (ad 3 k), .int v]) (Qv D B (fun u => u = (ad, cW D ad (g, st3 (st3 σ 13 k 0 v) 12 k 0 (σ 12 k 0 + 1)) T o))) 0 0 (ab B) := by
  refine Met.ofW (cc := cX3_report) (maxL := 2) (ret := none) (by decide) rfl ?_
  intro p e s m args below meth c s₁ Bd hml hv
  obtain ⟨rfl, hC, hP⟩ := hv
  have hx := Bd.exec
  have hb := Bd.bytes
  have hr := Bd.returns
  have hts := atoms_spec (ws := wsX3_report) Bd.pre
  have hown : s.vm.findClass RX3 = some m.cls := findClass_of_methodNamed Bd.named
  have hlocks := Bd.notSynchronized
  have hS : va_S (ab B) s.heap s.heap [] := va_S.rf
  have hl := lv_entry ([.ref (ad 3 k), .int v]) (n := 2) (Nat.le_of_ble_eq_true rfl)
  rw [lg_entry_eq]
  generalize (lg_sl ([.ref (ad 3 k), .int v]) ++ List.replicate (2 - (lg_sl ([.ref (ad 3 k), .int v])).length) Slot.unset).toArray = ls at hl ⊢
  have hl : lv_has ls 2 [(0, .ref (ad 3 k)), (1, .int v)] := hl
  refine lv_aload_n hx hb dX3_report_0 rfl (lv_at hl 0 rfl) ?_
  refine lv_iload_n hx hb dX3_report_1 rfl (lv_at hl 1 rfl) ?_
  refine w_put hx hb hts (by decide +kernel) tyX3 tyX3_ok nmX3 hown hC hP hS (cW_3 hk) rfl 3 (by decide) (hts (.fieldLink RX3 25 "BuildingPoints$Subscription" "kept" "I") (by decide +kernel)) rfl rfl rfl (Nat.le_of_ble_eq_true rfl) rfl dX3_report_2 (fun H locs hP hS => ?_)
  have hP := hw_eq hP (pS3 hk _)
  refine lv_aload_n hx hb dX3_report_5 rfl (lv_at hl 0 rfl) ?_
  refine lv_dup hx hb dX3_report_6 rfl ?_
  refine w_get hx hb hts (by decide +kernel) hown hC hP (cW_3 hk) rfl 4 (by decide) (hts (.fieldLink RX3 28 "BuildingPoints$Subscription" "reportCount" "I") (by decide +kernel)) rfl dX3_report_7 ?_
  refine lv_iconst (v := 1) hx hb dX3_report_10 (by decide) ?_
  refine lv_iadd hx hb dX3_report_11 ?_
  refine w_put hx hb hts (by decide +kernel) tyX3 tyX3_ok nmX3 hown hC hP hS (cW_3 hk) rfl 4 (by decide) (hts (.fieldLink RX3 28 "BuildingPoints$Subscription" "reportCount" "I") (by decide +kernel)) rfl rfl rfl (Nat.le_of_ble_eq_true rfl) rfl dX3_report_12 (fun H locs hP hS => ?_)
  have hP := hw_eq hP (pS4 hk _)
  exact W.vret hx hb hr (fun t ht hW => Qv_of (by simp [st3]) hP hS ht) hS.2.2 dX3_report_15
set_option maxHeartbeats 4000000 in
set_option maxRecDepth 100000 in
theorem c_X2_entryCount (l : Launch) (D : va_G) (B : Nat) (ad : Ad) (g : GC) (σ : Me) (T : GC × Me × Int32) (o : Int64) (k : Nat) (hk : k < g.2.2) : Met l yX2_entryCount wsX2_entryCount ({ frames := 0, cells := 0, slots := 0, locals := 0 }) (Pre D B ad (cW D ad (g, σ) T o) [.ref (ad 2 k)]) (Qi D B (fun r u => u = (ad, cW D ad (g, σ) T o) ∧ r = σ 21 (2 * k) 0 + σ 21 (2 * k + 1) 0)) 0 0 (ab B) := by
  refine Met.ofW (cc := cX2_entryCount) (maxL := 1) (ret := (some .int)) (by decide) rfl ?_
  intro p e s m args below meth c s₁ Bd hml hv
  obtain ⟨rfl, hC, hP⟩ := hv
  have hx := Bd.exec
  have hb := Bd.bytes
  have hr := Bd.returns
  have hts := atoms_spec (ws := wsX2_entryCount) Bd.pre
  have hown : s.vm.findClass RX2 = some m.cls := findClass_of_methodNamed Bd.named
  have hlocks := Bd.notSynchronized
  have hS : va_S (ab B) s.heap s.heap [] := va_S.rf
  have hl := lv_entry ([.ref (ad 2 k)]) (n := 1) (Nat.le_of_ble_eq_true rfl)
  rw [lg_entry_eq]
  generalize (lg_sl ([.ref (ad 2 k)]) ++ List.replicate (1 - (lg_sl ([.ref (ad 2 k)])).length) Slot.unset).toArray = ls at hl ⊢
  have hl : lv_has ls 1 [(0, .ref (ad 2 k))] := hl
  refine lv_aload_n hx hb dX2_entryCount_0 rfl (lv_at hl 0 rfl) ?_
  refine w_get hx hb hts (by decide +kernel) hown hC hP (cW_2 hk) rfl 2 (by decide) (hts (.fieldLink RX2 22 "BuildingPoints$Schedule" "weekdays" "LBuildingPoints$Entries;") (by decide +kernel)) rfl dX2_entryCount_1 ?_
  refine w_get hx hb hts (by decide +kernel) hown hC hP (cW_0 (by omega)) rfl 3 (by decide) (hts (.fieldLink RX2 33 "BuildingPoints$Entries" "count" "I") (by decide +kernel)) rfl dX2_entryCount_4 ?_
  refine lv_aload_n hx hb dX2_entryCount_7 rfl (lv_at hl 0 rfl) ?_
  refine w_get hx hb hts (by decide +kernel) hown hC hP (cW_2 hk) rfl 3 (by decide) (hts (.fieldLink RX2 26 "BuildingPoints$Schedule" "singleDays" "LBuildingPoints$Entries;") (by decide +kernel)) rfl dX2_entryCount_8 ?_
  refine w_get hx hb hts (by decide +kernel) hown hC hP (cW_0 (by omega)) rfl 3 (by decide) (hts (.fieldLink RX2 33 "BuildingPoints$Entries" "count" "I") (by decide +kernel)) rfl dX2_entryCount_11 ?_
  refine lv_iadd hx hb dX2_entryCount_14 ?_
  exact W.iret (v := ((σ 21 (2 * k) 0) + (σ 21 (2 * k + 1) 0))) hx hb hr (fun t ht hW => Qi_of ⟨rfl, rfl⟩ hP hS ht) hS.2.2 dX2_entryCount_15
set_option maxHeartbeats 4000000 in
set_option maxRecDepth 100000 in
theorem c_X2_toldAt (l : Launch) (D : va_G) (B : Nat) (ad : Ad) (g : GC) (σ : Me) (T : GC × Me × Int32) (o : Int64) (k n1 n2 : Nat) (hk : k < g.2.2) (hn1 : σ 21 (2 * k) 0 = nI n1) (h1 : n1 ≤ 20) (hn2 : σ 21 (2 * k + 1) 0 = nI n2) (h2 : n2 ≤ 20) (t : Int32) : Met l yX2_toldAt wsX2_toldAt ({ frames := 1, cells := 0, slots := 0, locals := 25 }) (Pre D B ad (cW D ad (g, σ) T o) [.ref (ad 2 k), .int t]) (Qi D B (fun r u => u = (ad, cW D ad (g, σ) T o) ∧ r = tolC σ k n1 n2 t)) 0 0 (ab B) := by
  refine Met.ofW (cc := cX2_toldAt) (maxL := 4) (ret := (some .int)) (by decide) rfl ?_
  intro p e s m args below meth c s₁ Bd hml hv
  obtain ⟨rfl, hC, hP⟩ := hv
  have hx := Bd.exec
  have hb := Bd.bytes
  have hr := Bd.returns
  have hts := atoms_spec (ws := wsX2_toldAt) Bd.pre
  have hown : s.vm.findClass RX2 = some m.cls := findClass_of_methodNamed Bd.named
  have hlocks := Bd.notSynchronized
  have hS : va_S (ab B) s.heap s.heap [] := va_S.rf
  have hl := lv_entry ([.ref (ad 2 k), .int t]) (n := 4) (Nat.le_of_ble_eq_true rfl)
  rw [lg_entry_eq]
  generalize (lg_sl ([.ref (ad 2 k), .int t]) ++ List.replicate (4 - (lg_sl ([.ref (ad 2 k), .int t])).length) Slot.unset).toArray = ls at hl ⊢
  have hl : lv_has ls 4 [(0, .ref (ad 2 k)), (1, .int t)] := hl
  refine lv_iload_n hx hb dX2_toldAt_0 rfl (lv_at hl 1 rfl) ?_
  refine lv_sipush (v := (1440)) hx hb dX2_toldAt_1 (by decide) ?_
  refine lv_idiv hx hb dX2_toldAt_4 (by decide) ?_
  refine lv_istore_n (lv' := [(2, .int (t / 1440)), (0, .ref (ad 2 k)), (1, .int t)]) hx hb dX2_toldAt_5 rfl hl (by decide) rfl (fun ls hl => ?_)
  refine lv_iload_n hx hb dX2_toldAt_6 rfl (lv_at hl 2 rfl) ?_
  refine lv_sipush (v := (1440)) hx hb dX2_toldAt_7 (by decide) ?_
  refine lv_irem hx hb dX2_toldAt_10 (by decide) ?_
  refine w_top (v := remF t 1440) rfl ?_
  refine lv_istore_n (lv' := [(3, .int (remF t 1440)), (2, .int (t / 1440)), (0, .ref (ad 2 k)), (1, .int t)]) hx hb dX2_toldAt_11 rfl hl (by decide) rfl (fun ls hl => ?_)
  refine lv_aload_n hx hb dX2_toldAt_12 rfl (lv_at hl 2 rfl) ?_
  refine w_get hx hb hts (by decide +kernel) hown hC hP (cW_2 hk) rfl 3 (by decide) (hts (.fieldLink RX2 26 "BuildingPoints$Schedule" "singleDays" "LBuildingPoints$Entries;") (by decide +kernel)) rfl dX2_toldAt_13 ?_
  refine lv_iload_n hx hb dX2_toldAt_16 rfl (lv_at hl 1 rfl) ?_
  refine w_calli (va_runV (As := [.int (t / 1440)]) (rest := []) ⟨hx, hb, hml, hown, hts⟩ (c_X0_hasDay l D B ad g σ T o (2 * k + 1) n2 (by omega) hn2 h2 (t / 1440)) (cwV 1 hts gX2_toldAt_X0_hasDay rfl rfl rfl (by decide +kernel) ⟨Nat.le_of_ble_eq_true rfl, Nat.le_of_ble_eq_true rfl⟩) (w_preV hC hP hS (cW_0 (by omega)) rfl) rfl rfl hl.1 rfl (lv_room (Nat.le_of_ble_eq_true rfl)) dX2_toldAt_17 ⟨Nat.le_of_ble_eq_true rfl, Nat.le_of_ble_eq_true rfl⟩) hS (fun r_1 ad1 w1 H locs hq hP hS => ?_)
  obtain ⟨h91, h92⟩ := hq
  cases h91
  subst h92
  refine lv_if_eq (tgt := 33) hx hb dX2_toldAt_20 (by decide) (fun c_20 => ?_) (fun c_20 => ?_)
  · refine lv_aload_n hx hb dX2_toldAt_33 rfl (lv_at hl 2 rfl) ?_
    refine w_get hx hb hts (by decide +kernel) hown hC hP (cW_2 hk) rfl 2 (by decide) (hts (.fieldLink RX2 22 "BuildingPoints$Schedule" "weekdays" "LBuildingPoints$Entries;") (by decide +kernel)) rfl dX2_toldAt_34 ?_
    refine lv_iload_n hx hb dX2_toldAt_37 rfl (lv_at hl 1 rfl) ?_
    refine lv_bipush (v := (7)) hx hb dX2_toldAt_38 (by decide) ?_
    refine lv_irem hx hb dX2_toldAt_40 (by decide) ?_
    refine w_top (v := remF (t / 1440) 7) rfl ?_
    refine lv_iload_n hx hb dX2_toldAt_41 rfl (lv_at hl 0 rfl) ?_
    refine w_calli (va_runV (As := [.int (remF (t / 1440) 7), .int (remF t 1440)]) (rest := []) ⟨hx, hb, hml, hown, hts⟩ (c_X0_latest l D B ad g σ T o (2 * k) n1 (by omega) hn1 h1 (remF (t / 1440) 7) (remF t 1440)) (cwV 2 hts gX2_toldAt_X0_latest rfl rfl rfl (by decide +kernel) ⟨Nat.le_of_ble_eq_true rfl, Nat.le_of_ble_eq_true rfl⟩) (w_preV hC hP hS (cW_0 (by omega)) rfl) rfl rfl hl.1 rfl (lv_room (Nat.le_of_ble_eq_true rfl)) dX2_toldAt_42 ⟨Nat.le_of_ble_eq_true rfl, Nat.le_of_ble_eq_true rfl⟩) hS (fun r_2 ad1 w1 H locs hq hP hS => ?_)
    obtain ⟨h91, h92⟩ := hq
    cases h91
    subst h92
    exact W.iret (v := ((latF (σ 22 (2 * k)) (σ 23 (2 * k)) (σ 24 (2 * k)) (remF (t / 1440) 7) (remF t 1440) n1).2)) hx hb hr (fun t ht hW => Qi_of ⟨rfl, by unfold tolC; rw [if_neg (bI_0.mp c_20)]⟩ hP hS ht) hS.2.2 dX2_toldAt_45
  · refine lv_aload_n hx hb dX2_toldAt_23 rfl (lv_at hl 2 rfl) ?_
    refine w_get hx hb hts (by decide +kernel) hown hC hP (cW_2 hk) rfl 3 (by decide) (hts (.fieldLink RX2 26 "BuildingPoints$Schedule" "singleDays" "LBuildingPoints$Entries;") (by decide +kernel)) rfl dX2_toldAt_24 ?_
    refine lv_iload_n hx hb dX2_toldAt_27 rfl (lv_at hl 1 rfl) ?_
    refine lv_iload_n hx hb dX2_toldAt_28 rfl (lv_at hl 0 rfl) ?_
    refine w_calli (va_runV (As := [.int (t / 1440), .int (remF t 1440)]) (rest := []) ⟨hx, hb, hml, hown, hts⟩ (c_X0_latest l D B ad g σ T o (2 * k + 1) n2 (by omega) hn2 h2 (t / 1440) (remF t 1440)) (cwV 2 hts gX2_toldAt_X0_latest rfl rfl rfl (by decide +kernel) ⟨Nat.le_of_ble_eq_true rfl, Nat.le_of_ble_eq_true rfl⟩) (w_preV hC hP hS (cW_0 (by omega)) rfl) rfl rfl hl.1 rfl (lv_room (Nat.le_of_ble_eq_true rfl)) dX2_toldAt_29 ⟨Nat.le_of_ble_eq_true rfl, Nat.le_of_ble_eq_true rfl⟩) hS (fun r_3 ad1 w1 H locs hq hP hS => ?_)
    obtain ⟨h91, h92⟩ := hq
    cases h91
    subst h92
    exact W.iret (v := ((latF (σ 22 (2 * k + 1)) (σ 23 (2 * k + 1)) (σ 24 (2 * k + 1)) (t / 1440) (remF t 1440) n2).2)) hx hb hr (fun t ht hW => Qi_of ⟨rfl, by unfold tolC; rw [if_pos (Classical.not_not.mp (fun z => c_20 (bI_0.mpr z)))]⟩ hP hS ht) hS.2.2 dX2_toldAt_32
end
section
/-! throws: new X(text), thrown out of the method; the world stays -/
theorem no_IA : ∀ w ∈ (vx_atS RX4 156 exIA ["java/lang/RuntimeException", "java/lang/Exception"]).filter (fun w => !goodWord w), w ∈ [Cond.castable exIA exIA, .declares (Bundle.initS "java/lang/RuntimeException"), .declares (Bundle.initS "java/lang/Exception"), .declares (Bundle.initS "java/lang/Throwable")] := by decide +kernel
theorem no_IS : ∀ w ∈ (vx_atS RX4 58 exIS ["java/lang/RuntimeException", "java/lang/Exception"]).filter (fun w => !goodWord w), w ∈ [Cond.castable exIS exIS, .declares (Bundle.initS "java/lang/RuntimeException"), .declares (Bundle.initS "java/lang/Exception"), .declares (Bundle.initS "java/lang/Throwable")] := by decide +kernel
theorem no_IO : ∀ w ∈ (vx_atS RX4 177 exIO ["java/lang/RuntimeException", "java/lang/Exception"]).filter (fun w => !goodWord w), w ∈ [Cond.castable exIO exIO, .declares (Bundle.initS "java/lang/RuntimeException"), .declares (Bundle.initS "java/lang/Exception"), .declares (Bundle.initS "java/lang/Throwable")] := by decide +kernel
section WT
variable {p : Program} {l : Launch} {e : Env} {R : Room} {s : State} {m : MethodId} {args : Array Value} {below : List Frame} {meth : Method} {c : Code} {H : Heap} {locs : List Loc} {cells slots : Nat}
variable {cc : ByteArray} {pc : Nat} {ls : Array Slot} {rest : List Value} {D : va_G} {B : Nat} {ad : Ad} {w : Wd} {Qc : Array Value → State → Outcome → State → Prop} {px : String → Ad × Wd → Prop} {mc ms : Nat}
set_option maxRecDepth 100000 in
theorem w_thIA (hexec : p.tables.exec = Jvm.exec) (hb : c.code = cc) (hns : l.stackTraces = false) {is : Nat} {text : String} (hq : (is, text) ∈ strs) (hown : s.vm.findClass RX4 = some m.cls) (hk : (Cond.classLink RX4 152 exIA).before args s = true) (hini : (Cond.initialized exIA).before args s = true) (hat : ∀ w ∈ (vx_atS RX4 156 exIA ["java/lang/RuntimeException", "java/lang/Exception"]).filter goodWord, w.before args s = true)
    (hC : cx D B s) (hP : hw D B ad w H) (hS : va_S (ab B) s.heap H locs) (hsize : ls.size = c.maxLocals) (hnt : ∀ x ∈ c.exceptionTable.toList, False) (d0 : decode cc pc = .ok (.new 152, 3)) (d3 : decode cc (pc + 3) = .ok (.dup, 1)) (d4 : decode cc (pc + 4) = .ok (.ldc is, 2)) (d6 : decode cc (pc + 6) = .ok (.invokespecial 156, 3)) (d9 : decode cc (pc + 9) = .ok (.athrow, 1))
    (hRframes : 5 < R.frames) (hRlocals : (rest.map fun v => v.category).sum + 82 ≤ R.locals) (hRcells : cells + 1 ≤ R.cells) (hRslots : slots + 6 ≤ R.slots) (hlocks : meth.locks = false) (hx : px exIA (ad, w)) (hc : cells + 1 ≤ mc) (hs : slots + 6 ≤ ms) :
    W p l e R s m args below meth c H locs cells slots (vx_MQ below Qc (Xc D B px) args s mc ms (ab B)) (F0 m pc ls rest) := by
  obtain ⟨-, -, hU, hN, hX⟩ := id hC
  obtain ⟨sa, hstr⟩ := hX.1 _ hq
  exact vx_throwS (names := ["java/lang/RuntimeException", "java/lang/Exception"]) hexec hb hns hown (by decide +kernel) (by decide +kernel) hk hini hstr
    (vx_hat hat no_IA (vx_c (va_Nw.use rfl (hX.2.1 exIA (by decide))) (vx_c (va_Nw.use rfl (hX.2.2.2 _ (by decide))) (vx_c (va_Nw.use rfl (hX.2.2.2 _ (by decide))) (vx_c (va_Nw.use rfl (hX.2.2.2 _ (by decide))) vx_n))))) (by decide +kernel) hU hN hS hsize d0 d3 d4 d6 d9 (fun x hx => absurd (hnt x hx) id) hRframes hRlocals hRcells hRslots hlocks
    (fun t _ hz hkp => Xc_of hx (hw_kept hP hkp) hS hz hkp) hS.2.2 hc hs
set_option maxRecDepth 100000 in
theorem w_thIS (hexec : p.tables.exec = Jvm.exec) (hb : c.code = cc) (hns : l.stackTraces = false) {is : Nat} {text : String} (hq : (is, text) ∈ strs) (hown : s.vm.findClass RX4 = some m.cls) (hk : (Cond.classLink RX4 54 exIS).before args s = true) (hini : (Cond.initialized exIS).before args s = true) (hat : ∀ w ∈ (vx_atS RX4 58 exIS ["java/lang/RuntimeException", "java/lang/Exception"]).filter goodWord, w.before args s = true)
    (hC : cx D B s) (hP : hw D B ad w H) (hS : va_S (ab B) s.heap H locs) (hsize : ls.size = c.maxLocals) (hnt : ∀ x ∈ c.exceptionTable.toList, False) (d0 : decode cc pc = .ok (.new 54, 3)) (d3 : decode cc (pc + 3) = .ok (.dup, 1)) (d4 : decode cc (pc + 4) = .ok (.ldc is, 2)) (d6 : decode cc (pc + 6) = .ok (.invokespecial 58, 3)) (d9 : decode cc (pc + 9) = .ok (.athrow, 1))
    (hRframes : 5 < R.frames) (hRlocals : (rest.map fun v => v.category).sum + 82 ≤ R.locals) (hRcells : cells + 1 ≤ R.cells) (hRslots : slots + 6 ≤ R.slots) (hlocks : meth.locks = false) (hx : px exIS (ad, w)) (hc : cells + 1 ≤ mc) (hs : slots + 6 ≤ ms) :
    W p l e R s m args below meth c H locs cells slots (vx_MQ below Qc (Xc D B px) args s mc ms (ab B)) (F0 m pc ls rest) := by
  obtain ⟨-, -, hU, hN, hX⟩ := id hC
  obtain ⟨sa, hstr⟩ := hX.1 _ hq
  exact vx_throwS (names := ["java/lang/RuntimeException", "java/lang/Exception"]) hexec hb hns hown (by decide +kernel) (by decide +kernel) hk hini hstr
    (vx_hat hat no_IS (vx_c (va_Nw.use rfl (hX.2.1 exIS (by decide))) (vx_c (va_Nw.use rfl (hX.2.2.2 _ (by decide))) (vx_c (va_Nw.use rfl (hX.2.2.2 _ (by decide))) (vx_c (va_Nw.use rfl (hX.2.2.2 _ (by decide))) vx_n))))) (by decide +kernel) hU hN hS hsize d0 d3 d4 d6 d9 (fun x hx => absurd (hnt x hx) id) hRframes hRlocals hRcells hRslots hlocks
    (fun t _ hz hkp => Xc_of hx (hw_kept hP hkp) hS hz hkp) hS.2.2 hc hs
set_option maxRecDepth 100000 in
theorem w_thIO (hexec : p.tables.exec = Jvm.exec) (hb : c.code = cc) (hns : l.stackTraces = false) {is : Nat} {text : String} (hq : (is, text) ∈ strs) (hown : s.vm.findClass RX4 = some m.cls) (hk : (Cond.classLink RX4 173 exIO).before args s = true) (hini : (Cond.initialized exIO).before args s = true) (hat : ∀ w ∈ (vx_atS RX4 177 exIO ["java/lang/RuntimeException", "java/lang/Exception"]).filter goodWord, w.before args s = true)
    (hC : cx D B s) (hP : hw D B ad w H) (hS : va_S (ab B) s.heap H locs) (hsize : ls.size = c.maxLocals) (hnt : ∀ x ∈ c.exceptionTable.toList, False) (d0 : decode cc pc = .ok (.new 173, 3)) (d3 : decode cc (pc + 3) = .ok (.dup, 1)) (d4 : decode cc (pc + 4) = .ok (.ldc is, 2)) (d6 : decode cc (pc + 6) = .ok (.invokespecial 177, 3)) (d9 : decode cc (pc + 9) = .ok (.athrow, 1))
    (hRframes : 5 < R.frames) (hRlocals : (rest.map fun v => v.category).sum + 82 ≤ R.locals) (hRcells : cells + 1 ≤ R.cells) (hRslots : slots + 6 ≤ R.slots) (hlocks : meth.locks = false) (hx : px exIO (ad, w)) (hc : cells + 1 ≤ mc) (hs : slots + 6 ≤ ms) :
    W p l e R s m args below meth c H locs cells slots (vx_MQ below Qc (Xc D B px) args s mc ms (ab B)) (F0 m pc ls rest) := by
  obtain ⟨-, -, hU, hN, hX⟩ := id hC
  obtain ⟨sa, hstr⟩ := hX.1 _ hq
  exact vx_throwS (names := ["java/lang/RuntimeException", "java/lang/Exception"]) hexec hb hns hown (by decide +kernel) (by decide +kernel) hk hini hstr
    (vx_hat hat no_IO (vx_c (va_Nw.use rfl (hX.2.1 exIO (by decide))) (vx_c (va_Nw.use rfl (hX.2.2.2 _ (by decide))) (vx_c (va_Nw.use rfl (hX.2.2.2 _ (by decide))) (vx_c (va_Nw.use rfl (hX.2.2.2 _ (by decide))) vx_n))))) (by decide +kernel) hU hN hS hsize d0 d3 d4 d6 d9 (fun x hx => absurd (hnt x hx) id) hRframes hRlocals hRcells hRslots hlocks
    (fun t _ hz hkp => Xc_of hx (hw_kept hP hkp) hS hz hkp) hS.2.2 hc hs
/-- what a callee has thrown goes on -/
theorem w_thru {E : String} {ce : Cell} {q : Addr} {free : Addr → Prop} (hfree : ∀ q, ab B q → free q) (hnt : ∀ x ∈ c.exceptionTable.toList, False) (hlocks : meth.locks = false) (hP : hw D B ad w H) (hS : va_S (ab B) s.heap H locs) (hcell : H[q]? = some ce) (hv : ce.vm = .none) (hcl : s.vm.findClass E = some ce.cls) (hx : px E (ad, w)) (hc : cells ≤ mc) (hs : slots ≤ ms) :
    vx_W p l e R s m args below meth c H locs cells slots (vx_MQ below Qc (Xc D B px) args s mc ms free) (F0 m pc ls rest) q :=
  vx_out (fun x hx => absurd (hnt x hx) id) hlocks hcell hv hcl (fun t ht _ => Xc_of hx (by rw [ht]; exact hP) hS (by rw [ht]; exact Nat.le_refl _) (fun q _ => by rw [ht])) (fun z hz => hfree _ (hS.2.2 z hz)) hc hs
end WT
/-- which exception a call answers with: 0 none; by the first condition that does not hold -/
noncomputable def cod3 (a b c : Prop) : Nat := by classical exact if ¬ a then 1 else if ¬ b then 2 else if ¬ c then 3 else 0
theorem cod3_1 {a b c : Prop} (h : ¬ a) : cod3 a b c = 1 := by unfold cod3; rw [if_pos h]
theorem cod3_2 {a b c : Prop} (ha : a) (h : ¬ b) : cod3 a b c = 2 := by unfold cod3; rw [if_neg (fun z => z ha), if_pos h]
theorem cod3_3 {a b c : Prop} (ha : a) (hb : b) (h : ¬ c) : cod3 a b c = 3 := by unfold cod3; rw [if_neg (fun z => z ha), if_neg (fun z => z hb), if_pos h]
theorem cod3_0 {a b c : Prop} (ha : a) (hb : b) (hc : c) : cod3 a b c = 0 := by unfold cod3; rw [if_neg (fun z => z ha), if_neg (fun z => z hb), if_neg (fun z => z hc)]
theorem cod3_eq {a b c a' b' c' : Prop} (ha : a ↔ a') (hb : a → (b ↔ b')) (hc : a → b → (c ↔ c')) : cod3 a b c = cod3 a' b' c' := by
  by_cases h1 : a
  · by_cases h2 : b
    · by_cases h3 : c
      · rw [cod3_0 h1 h2 h3, cod3_0 (ha.mp h1) ((hb h1).mp h2) ((hc h1 h2).mp h3)]
      · rw [cod3_3 h1 h2 h3, cod3_3 (ha.mp h1) ((hb h1).mp h2) (fun z => h3 ((hc h1 h2).mpr z))]
    · rw [cod3_2 h1 h2, cod3_2 (ha.mp h1) (fun z => h2 ((hb h1).mpr z))]
  · rw [cod3_1 h1, cod3_1 (fun z => h1 (ha.mpr z))]
/-- a call of the code k answers with this one of its exceptions -/
def exA (l : List String) (k : Nat) (E : String) : Prop := 0 < k ∧ l[k - 1]? = some E
/-- a number that something bears -/
def isN (n : Nat) (x : Int32) : Prop := ∃ i, i < n ∧ x = nI i
theorem isN_iff {n : Nat} {x : Int32} (hn : n < 2 ^ 30) : isN n x ↔ 0 ≤ x.toInt ∧ x.toInt < n := by
  constructor
  · rintro ⟨i, h1, rfl⟩
    rw [nI_toInt (by omega)]
    omega
  · rintro ⟨h1, h2⟩
    exact ⟨x.toInt.toNat, by omega, nI_of_toInt h1⟩
end
section
set_option maxHeartbeats 4000000 in
set_option maxRecDepth 100000 in
theorem c_X4_reportChange (l : Launch) (D : va_G) (B : Nat) (ad : Ad) (g : GC) (σ : Me) (T : GC × Me × Int32) (o : Int64) (k : Nat) (hk : k < g.1) (hg : g.1 ≤ 16) (h30 : g.2.1 ≤ 30) (hIs : Is g σ) (hv : rg (σ 7 k 0)) : Met l yX4_reportChange wsX4_reportChange ({ frames := 2, cells := 0, slots := 0, locals := 45 }) (Pre D B ad (cW D ad (g, σ) T o) [.ref (ad 4 0), .ref (ad 1 k)]) (Qv D B (fun u => u = (ad, cW D ad (g, infF k (σ 7 k 0) g.2.1 0 σ) T o))) 0 0 (ab B) := by
  refine Met.ofW (cc := cX4_reportChange) (maxL := 6) (ret := none) (by decide) rfl ?_
  intro p e s m args below meth c s₁ Bd hml hv
  obtain ⟨rfl, hC, hP⟩ := hv
  have hx := Bd.exec
  have hb := Bd.bytes
  have hr := Bd.returns
  have hts := atoms_spec (ws := wsX4_reportChange) Bd.pre
  have hown : s.vm.findClass RX4 = some m.cls := findClass_of_methodNamed Bd.named
  have hlocks := Bd.notSynchronized
  have hS : va_S (ab B) s.heap s.heap [] := va_S.rf
  have hl := lv_entry ([.ref (ad 4 0), .ref (ad 1 k)]) (n := 6) (Nat.le_of_ble_eq_true rfl)
  rw [lg_entry_eq]
  generalize (lg_sl ([.ref (ad 4 0), .ref (ad 1 k)]) ++ List.replicate (6 - (lg_sl ([.ref (ad 4 0), .ref (ad 1 k)])).length) Slot.unset).toArray = ls at hl ⊢
  have hl : lv_has ls 6 [(0, .ref (ad 4 0)), (1, .ref (ad 1 k))] := hl
  refine lv_aload_n hx hb dX4_reportChange_0 rfl (lv_at hl 0 rfl) ?_
  refine w_get hx hb hts (by decide +kernel) hown hC hP cW_4 rfl 1 (by decide) (hts (.fieldLink RX4 17 "BuildingPoints" "subscriptions" "[LBuildingPoints$Subscription;") (by decide +kernel)) rfl dX4_reportChange_1 ?_
  refine lv_astore_n (lv' := [(2, .ref (ad 7 1)), (0, .ref (ad 4 0)), (1, .ref (ad 1 k))]) hx hb dX4_reportChange_4 rfl hl (by decide) rfl (fun ls hl => ?_)
  refine lv_aload_n hx hb dX4_reportChange_5 rfl (lv_at hl 0 rfl) ?_
  refine w_alen hx hb hC hP 4 rfl cW_71 (v := 30) rfl dX4_reportChange_6 ?_
  refine lv_istore_n (lv' := [(3, .int 30), (2, .ref (ad 7 1)), (0, .ref (ad 4 0)), (1, .ref (ad 1 k))]) hx hb dX4_reportChange_7 rfl hl (by decide) rfl (fun ls hl => ?_)
  refine lv_iconst (v := 0) hx hb dX4_reportChange_8 (by decide) ?_
  refine lv_istore (lv' := [(4, .int 0), (3, .int 30), (2, .ref (ad 7 1)), (0, .ref (ad 4 0)), (1, .ref (ad 1 k))]) hx hb dX4_reportChange_9 hl (by decide) rfl (fun ls hl => ?_)
  refine w_ind (fun n9 H locs ls => ∃ (i : Nat) (σ1 : Me), i + n9 = g.2.1 ∧ infF k (σ 7 k 0) g.2.1 0 σ = infF k (σ 7 k 0) n9 i σ1 ∧ Is g σ1 ∧ σ1 7 k 0 = σ 7 k 0 ∧ hw D B ad (cW D ad (g, σ1) T o) H ∧ va_S (ab B) s.heap H locs ∧ lv_has ls 6 [(4, .int (nI i)), (0, .ref (ad 4 0)), (1, .ref (ad 1 k)), (2, .ref (ad 7 1)), (3, .int 30)]) ?_ g.2.1 _ _ _ ⟨0, σ, by omega, rfl, hIs, rfl, hP, hS, lv_sub hl [0, 3, 4, 2, 1] rfl⟩
  intro n9 H locs ls hI ih
  obtain ⟨i, σ1, hi, hst, hIs1, h71, hP, hS, hl⟩ := hI
  refine lv_iload hx hb dX4_reportChange_11 (lv_at hl 0 rfl) ?_
  refine lv_iload_n hx hb dX4_reportChange_13 rfl (lv_at hl 4 rfl) ?_
  refine lv_icmp_ge (tgt := 85) hx hb dX4_reportChange_14 (by decide) (fun c_14 => ?_) (fun c_14 => ?_)
  · have hin : 30 ≤ i := Nat.not_lt.mp (fun z => absurd c_14 (nI_ge z (by decide)))
    exact W.vret hx hb hr (fun t ht hW => Qv_of (by rw [hst, show n9 = 0 by omega]; rfl) hP hS ht) hS.2.2 dX4_reportChange_85
  · have hlt : i < 30 := Nat.not_le.mp (fun z => c_14 (nI_le z (by omega)))
    refine lv_aload_n hx hb dX4_reportChange_17 rfl (lv_at hl 3 rfl) ?_
    refine lv_iload hx hb dX4_reportChange_18 (lv_at hl 0 rfl) ?_
    rcases Nat.lt_or_ge i g.2.1 with hin | hin
    · refine w_aldN hx hb hC hP 4 rfl cW_71 (by omega) (by decide) dX4_reportChange_20 (r := .ref (ad 3 i)) (by simp only [fP, if_pos hin]; rfl) ?_
      refine lv_astore (lv' := [(5, .ref (ad 3 i)), (4, .int (nI i)), (0, .ref (ad 4 0)), (1, .ref (ad 1 k)), (2, .ref (ad 7 1)), (3, .int 30)]) hx hb dX4_reportChange_21 hl (by decide) rfl (fun ls hl => ?_)
      refine lv_aload hx hb dX4_reportChange_23 (lv_at hl 0 rfl) ?_
      refine lv_ifnonnull (tgt := 31) hx hb dX4_reportChange_25 (by decide) ?_
      refine lv_aload hx hb dX4_reportChange_31 (lv_at hl 0 rfl) ?_
      refine w_get hx hb hts (by decide +kernel) hown hC hP (cW_3 hin) rfl 5 (by decide) (hts (.fieldLink RX4 95 "BuildingPoints$Subscription" "isOpen" "Z") (by decide +kernel)) rfl dX4_reportChange_33 ?_
      refine lv_if_eq (tgt := 79) hx hb dX4_reportChange_36 (by decide) (fun c_36 => ?_) (fun c_36 => ?_)
      · have h111 : ¬ σ1 11 i 0 = 0 := fun z => absurd (by rw [z] at c_36; exact c_36) (by decide)
        refine lv_iinc (v := nI (i + 1)) (lv' := [(4, .int (nI (i + 1))), (5, .ref (ad 3 i)), (0, .ref (ad 4 0)), (1, .ref (ad 1 k)), (2, .ref (ad 7 1)), (3, .int 30)]) hx hb dX4_reportChange_79 hl (k := 1) rfl (nI_add i 1) (by decide) rfl (fun ls hl => ?_)
        refine lv_goto (tgt := 11) hx hb dX4_reportChange_82 (by decide) ?_
        obtain ⟨n8, rfl⟩ : ∃ n8, n9 = n8 + 1 := ⟨n9 - 1, by omega⟩
        have hE : infS k (σ 7 k 0) i σ1 = σ1 := by
          unfold infS
          rw [if_neg (fun z => h111 z.2.1)]
        exact ih n8 _ _ _ (by omega) ⟨i + 1, σ1, by omega, by rw [hst]; show infF k (σ 7 k 0) n8 (i + 1) (infS k (σ 7 k 0) i σ1) = _; rw [hE], hE ▸ Is_infS hIs1 hv, by rw [← hE, infS_n (by decide) (by decide) (by decide)]; exact h71, hP, hS, lv_sub hl [0, 2, 3, 4, 5] rfl⟩
      · obtain ⟨h11, ⟨i8, hi8, e8⟩, hrg⟩ := hIs1 i hin
        have e8n : (σ1 8 i 0).toNatClampNeg = i8 := by rw [e8]; exact nI_clamp (by omega)
        have h110 : σ1 11 i 0 = 0 := by rcases h11 with z | z; exact z; exact absurd (by rw [z]; decide) c_36
        refine lv_aload hx hb dX4_reportChange_39 (lv_at hl 0 rfl) ?_
        refine w_get hx hb hts (by decide +kernel) hown hC hP (cW_3 hin) rfl 0 (by decide) (hts (.fieldLink RX4 192 "BuildingPoints$Subscription" "point" "LBuildingPoints$Point;") (by decide +kernel)) rfl dX4_reportChange_41 ?_
        refine lv_aload_n hx hb dX4_reportChange_44 rfl (lv_at hl 3 rfl) ?_
        have hin8 := hw_inj hP (cW_1 (k := (σ1 8 i 0).toNatClampNeg) (by rw [e8n]; exact hi8)) (cW_1 hk)
        refine lv_acmp_ne (rx := some (ad 1 (σ1 8 i 0).toNatClampNeg)) (ry := some (ad 1 k)) (tgt := 79) hx hb dX4_reportChange_45 (by decide) (fun c_45 => ?_) (fun c_45 => ?_)
        · have h8 : ¬ σ1 8 i 0 = nI k := fun z => c_45 (hin8.mpr (by rw [z]; exact nI_clamp (by omega)))
          refine lv_iinc (v := nI (i + 1)) (lv' := [(4, .int (nI (i + 1))), (5, .ref (ad 3 i)), (0, .ref (ad 4 0)), (1, .ref (ad 1 k)), (2, .ref (ad 7 1)), (3, .int 30)]) hx hb dX4_reportChange_79 hl (k := 1) rfl (nI_add i 1) (by decide) rfl (fun ls hl => ?_)
          refine lv_goto (tgt := 11) hx hb dX4_reportChange_82 (by decide) ?_
          obtain ⟨n8, rfl⟩ : ∃ n8, n9 = n8 + 1 := ⟨n9 - 1, by omega⟩
          have hE : infS k (σ 7 k 0) i σ1 = σ1 := by
            unfold infS
            rw [if_neg (fun z => h8 z.1)]
          exact ih n8 _ _ _ (by omega) ⟨i + 1, σ1, by omega, by rw [hst]; show infF k (σ 7 k 0) n8 (i + 1) (infS k (σ 7 k 0) i σ1) = _; rw [hE], hE ▸ Is_infS hIs1 hv, by rw [← hE, infS_n (by decide) (by decide) (by decide)]; exact h71, hP, hS, lv_sub hl [0, 2, 3, 4, 5] rfl⟩
        · have h8 : σ1 8 i 0 = nI k := by rw [e8, ← e8n, hin8.mp c_45]
          refine lv_aload hx hb dX4_reportChange_48 (lv_at hl 0 rfl) ?_
          refine lv_aload_n hx hb dX4_reportChange_50 rfl (lv_at hl 3 rfl) ?_
          refine w_get hx hb hts (by decide +kernel) hown hC hP (cW_1 hk) rfl 5 (by decide) (hts (.fieldLink RX4 65 "BuildingPoints$Point" "present" "I") (by decide +kernel)) rfl dX4_reportChange_51 ?_
          refine w_calli (va_runV (As := [.int (σ1 7 k 0)]) (rest := []) ⟨hx, hb, hml, hown, hts⟩ (c_X3_isFarFrom l D B ad g σ1 T o i hin (σ1 7 k 0)) (cwV 1 hts gX4_reportChange_X3_isFarFrom rfl rfl rfl (by decide +kernel) ⟨Nat.le_of_ble_eq_true rfl, Nat.le_of_ble_eq_true rfl⟩) (w_preV hC hP hS (cW_3 hin) rfl) rfl rfl hl.1 rfl (lv_room (Nat.le_of_ble_eq_true rfl)) dX4_reportChange_54 ⟨Nat.le_of_ble_eq_true rfl, Nat.le_of_ble_eq_true rfl⟩) hS (fun r_1 ad1 w1 H locs hq hP hS => ?_)
          obtain ⟨h91, h92⟩ := hq
          cases h91
          subst h92
          refine lv_if_eq (tgt := 79) hx hb dX4_reportChange_57 (by decide) (fun c_57 => ?_) (fun c_57 => ?_)
          · rw [h71, far_eq hv hrg, bI_0] at c_57
            refine lv_iinc (v := nI (i + 1)) (lv' := [(4, .int (nI (i + 1))), (5, .ref (ad 3 i)), (0, .ref (ad 4 0)), (1, .ref (ad 1 k)), (2, .ref (ad 7 1)), (3, .int 30)]) hx hb dX4_reportChange_79 hl (k := 1) rfl (nI_add i 1) (by decide) rfl (fun ls hl => ?_)
            refine lv_goto (tgt := 11) hx hb dX4_reportChange_82 (by decide) ?_
            obtain ⟨n8, rfl⟩ : ∃ n8, n9 = n8 + 1 := ⟨n9 - 1, by omega⟩
            have hE : infS k (σ 7 k 0) i σ1 = σ1 := by
              unfold infS
              rw [if_neg (fun z => c_57 z.2.2)]
            exact ih n8 _ _ _ (by omega) ⟨i + 1, σ1, by omega, by rw [hst]; show infF k (σ 7 k 0) n8 (i + 1) (infS k (σ 7 k 0) i σ1) = _; rw [hE], hE ▸ Is_infS hIs1 hv, by rw [← hE, infS_n (by decide) (by decide) (by decide)]; exact h71, hP, hS, lv_sub hl [0, 2, 3, 4, 5] rfl⟩
          · rw [h71, far_eq hv hrg, bI_0] at c_57
            refine lv_aload hx hb dX4_reportChange_60 (lv_at hl 0 rfl) ?_
            refine lv_aload_n hx hb dX4_reportChange_62 rfl (lv_at hl 3 rfl) ?_
            refine w_get hx hb hts (by decide +kernel) hown hC hP (cW_1 hk) rfl 5 (by decide) (hts (.fieldLink RX4 65 "BuildingPoints$Point" "present" "I") (by decide +kernel)) rfl dX4_reportChange_63 ?_
            refine w_callv (va_runV (As := [.int (σ1 7 k 0)]) (rest := []) ⟨hx, hb, hml, hown, hts⟩ (c_X3_report l D B ad g σ1 T o i hin (σ1 7 k 0)) (cwV 1 hts gX4_reportChange_X3_report rfl rfl rfl (by decide +kernel) ⟨Nat.le_of_ble_eq_true rfl, Nat.le_of_ble_eq_true rfl⟩) (w_preV hC hP hS (cW_3 hin) rfl) rfl rfl hl.1 rfl (lv_room (Nat.le_of_ble_eq_true rfl)) dX4_reportChange_66 ⟨Nat.le_of_ble_eq_true rfl, Nat.le_of_ble_eq_true rfl⟩) hS (fun ad1 w1 H locs hq hP hS => ?_)
            cases hq
            refine lv_aload_n hx hb dX4_reportChange_69 rfl (lv_at hl 2 rfl) ?_
            refine lv_dup hx hb dX4_reportChange_70 rfl ?_
            refine w_get hx hb hts (by decide +kernel) hown hC hP cW_4 rfl 7 (by decide) (hts (.fieldLink RX4 146 "BuildingPoints" "allReports" "I") (by decide +kernel)) rfl dX4_reportChange_71 ?_
            refine lv_iconst (v := 1) hx hb dX4_reportChange_74 (by decide) ?_
            refine lv_iadd hx hb dX4_reportChange_75 ?_
            refine w_put hx hb hts (by decide +kernel) tyX4 tyX4_ok nmX4 hown hC hP hS cW_4 rfl 7 (by decide) (hts (.fieldLink RX4 146 "BuildingPoints" "allReports" "I") (by decide +kernel)) rfl rfl rfl (Nat.le_of_ble_eq_true rfl) rfl dX4_reportChange_76 (fun H locs hP hS => ?_)
            have hP := hw_eq hP (pB7 _)
            refine lv_iinc (v := nI (i + 1)) (lv' := [(4, .int (nI (i + 1))), (5, .ref (ad 3 i)), (0, .ref (ad 4 0)), (1, .ref (ad 1 k)), (2, .ref (ad 7 1)), (3, .int 30)]) hx hb dX4_reportChange_79 hl (k := 1) rfl (nI_add i 1) (by decide) rfl (fun ls hl => ?_)
            refine lv_goto (tgt := 11) hx hb dX4_reportChange_82 (by decide) ?_
            obtain ⟨n8, rfl⟩ : ∃ n8, n9 = n8 + 1 := ⟨n9 - 1, by omega⟩
            have hE : infS k (σ 7 k 0) i σ1 = st3 (st3 (st3 σ1 13 i 0 (σ1 7 k 0)) 12 i 0 (σ1 12 i 0 + 1)) 26 0 0 (((st3 (st3 σ1 13 i 0 (σ1 7 k 0)) 12 i 0 (σ1 12 i 0 + 1)) 26 0 0) + 1) := by
              unfold infS
              rw [if_pos ⟨h8, h110, Classical.not_not.mp c_57⟩, ← h71]; simp [st3]
            exact ih n8 _ _ _ (by omega) ⟨i + 1, (st3 (st3 (st3 σ1 13 i 0 (σ1 7 k 0)) 12 i 0 (σ1 12 i 0 + 1)) 26 0 0 (((st3 (st3 σ1 13 i 0 (σ1 7 k 0)) 12 i 0 (σ1 12 i 0 + 1)) 26 0 0) + 1)), by omega, by rw [hst]; show infF k (σ 7 k 0) n8 (i + 1) (infS k (σ 7 k 0) i σ1) = _; rw [hE], hE ▸ Is_infS hIs1 hv, by rw [← hE, infS_n (by decide) (by decide) (by decide)]; exact h71, hP, hS, lv_sub hl [0, 2, 3, 4, 5] rfl⟩
    · refine w_aldN hx hb hC hP 4 rfl cW_71 (by omega) (by decide) dX4_reportChange_20 (r := .null) (by simp only [fP, if_neg (Nat.not_lt.mpr hin)]; rfl) ?_
      refine lv_astoreN (lv' := [(5, .null), (4, .int (nI i)), (0, .ref (ad 4 0)), (1, .ref (ad 1 k)), (2, .ref (ad 7 1)), (3, .int 30)]) hx hb dX4_reportChange_21 hl (by decide) rfl (fun ls hl => ?_)
      refine lv_aloadN hx hb dX4_reportChange_23 (lv_at hl 0 rfl) ?_
      refine lv_ifnonnullN hx hb dX4_reportChange_25 ?_
      refine lv_goto (tgt := 85) hx hb dX4_reportChange_28 (by decide) ?_
      exact W.vret hx hb hr (fun t ht hW => Qv_of (by rw [hst, show n9 = 0 by omega]; rfl) hP hS ht) hS.2.2 dX4_reportChange_85
set_option maxHeartbeats 4000000 in
set_option maxRecDepth 100000 in
theorem c_X4_put (l : Launch) (D : va_G) (B : Nat) (ad : Ad) (g : GC) (σ : Me) (T : GC × Me × Int32) (o : Int64) (k j : Nat) (hk : k < g.1) (hj1 : 1 ≤ j) (hj : j ≤ 16) (v : Int32) (hI : Ib g σ) (hv : okV σ k v) : Met l yX4_put wsX4_put ({ frames := 3, cells := 0, slots := 0, locals := 70 }) (Pre D B ad (cW D ad (g, σ) T o) [.ref (ad 4 0), .ref (ad 1 k), .int (nI j), .int v]) (Qv D B (fun u => u = (ad, cW D ad (g, setF g.2.1 k j v σ) T o))) 0 0 (ab B) := by
  refine Met.ofW (cc := cX4_put) (maxL := 5) (ret := none) (by decide) rfl ?_
  intro p e s m args below meth c s₁ Bd hml hv
  obtain ⟨rfl, hC, hP⟩ := hv
  have hx := Bd.exec
  have hb := Bd.bytes
  have hr := Bd.returns
  have hts := atoms_spec (ws := wsX4_put) Bd.pre
  have hown : s.vm.findClass RX4 = some m.cls := findClass_of_methodNamed Bd.named
  have hlocks := Bd.notSynchronized
  have hS : va_S (ab B) s.heap s.heap [] := va_S.rf
  have hl := lv_entry ([.ref (ad 4 0), .ref (ad 1 k), .int (nI j), .int v]) (n := 5) (Nat.le_of_ble_eq_true rfl)
  rw [lg_entry_eq]
  generalize (lg_sl ([.ref (ad 4 0), .ref (ad 1 k), .int (nI j), .int v]) ++ List.replicate (5 - (lg_sl ([.ref (ad 4 0), .ref (ad 1 k), .int (nI j), .int v])).length) Slot.unset).toArray = ls at hl ⊢
  have hl : lv_has ls 5 [(0, .ref (ad 4 0)), (1, .ref (ad 1 k)), (2, .int (nI j)), (3, .int v)] := hl
  refine lv_aload_n hx hb dX4_put_0 rfl (lv_at hl 1 rfl) ?_
  refine w_get hx hb hts (by decide +kernel) hown hC hP (cW_1 hk) rfl 4 (by decide) (hts (.fieldLink RX4 68 "BuildingPoints$Point" "commands" "[I") (by decide +kernel)) rfl dX4_put_1 ?_
  refine lv_iload_n hx hb dX4_put_4 rfl (lv_at hl 2 rfl) ?_
  refine lv_iload_n hx hb dX4_put_5 rfl (lv_at hl 3 rfl) ?_
  refine w_istN hx hb hC hP hS (cW_8 hk) (by omega) (by decide) dX4_put_6 (fun H locs hP hS => ?_)
  have hP := hw_eq hP (pK8 hk j _)
  refine lv_aload_n hx hb dX4_put_7 rfl (lv_at hl 1 rfl) ?_
  refine w_calli (va_runV (As := []) (rest := []) ⟨hx, hb, hml, hown, hts⟩ (c_X1_dueValue l D B ad g (st3 σ 6 k j v) T o k hk) (cwV 0 hts gX4_put_X1_dueValue rfl rfl rfl (by decide +kernel) ⟨Nat.le_of_ble_eq_true rfl, Nat.le_of_ble_eq_true rfl⟩) (w_preV hC hP hS (cW_1 hk) rfl) rfl rfl hl.1 rfl (lv_room (Nat.le_of_ble_eq_true rfl)) dX4_put_8 ⟨Nat.le_of_ble_eq_true rfl, Nat.le_of_ble_eq_true rfl⟩) hS (fun r_1 ad1 w1 H locs hq hP hS => ?_)
  obtain ⟨h91, h92⟩ := hq
  cases h91
  subst h92
  refine lv_istore (lv' := [(4, .int (vaO (st3 σ 6 k j v) k)), (0, .ref (ad 4 0)), (1, .ref (ad 1 k)), (2, .int (nI j)), (3, .int v)]) hx hb dX4_put_11 hl (by decide) rfl (fun ls hl => ?_)
  refine lv_iload hx hb dX4_put_13 (lv_at hl 0 rfl) ?_
  refine lv_aload_n hx hb dX4_put_15 rfl (lv_at hl 2 rfl) ?_
  refine w_get hx hb hts (by decide +kernel) hown hC hP (cW_1 hk) rfl 5 (by decide) (hts (.fieldLink RX4 65 "BuildingPoints$Point" "present" "I") (by decide +kernel)) rfl dX4_put_16 ?_
  refine lv_icmp_eq (tgt := 37) hx hb dX4_put_19 (by decide) (fun c_19 => ?_) (fun c_19 => ?_)
  · rw [st3_n (σ := σ) (a := 6) (a1 := 7) (by decide), (hI.2.2.2.1 k hk).2.2.2.2] at c_19
    exact W.vret hx hb hr (fun t ht hW => Qv_of (by unfold setF; rw [if_pos c_19]) hP hS ht) hS.2.2 dX4_put_37
  · rw [st3_n (σ := σ) (a := 6) (a1 := 7) (by decide), (hI.2.2.2.1 k hk).2.2.2.2] at c_19
    refine lv_aload_n hx hb dX4_put_22 rfl (lv_at hl 2 rfl) ?_
    refine lv_iload hx hb dX4_put_23 (lv_at hl 0 rfl) ?_
    refine lv_aload_n hx hb dX4_put_25 rfl (lv_at hl 1 rfl) ?_
    refine w_get hx hb hts (by decide +kernel) hown hC hP cW_4 rfl 6 (by decide) (hts (.fieldLink RX4 79 "BuildingPoints" "now" "I") (by decide +kernel)) rfl dX4_put_26 ?_
    refine w_callv (va_runV (As := [.int (vaO (st3 σ 6 k j v) k), .int ((st3 σ 6 k j v) 25 0 0)]) (rest := []) ⟨hx, hb, hml, hown, hts⟩ (c_X1_change l D B ad g (st3 σ 6 k j v) T o k hk (vaO (st3 σ 6 k j v) k) ((st3 σ 6 k j v) 25 0 0)) (cwV 2 hts gX4_put_X1_change rfl rfl rfl (by decide +kernel) ⟨Nat.le_of_ble_eq_true rfl, Nat.le_of_ble_eq_true rfl⟩) (w_preV hC hP hS (cW_1 hk) rfl) rfl rfl hl.1 rfl (lv_room (Nat.le_of_ble_eq_true rfl)) dX4_put_29 ⟨Nat.le_of_ble_eq_true rfl, Nat.le_of_ble_eq_true rfl⟩) hS (fun ad1 w1 H locs hq hP hS => ?_)
    cases hq
    refine lv_aload_n hx hb dX4_put_32 rfl (lv_at hl 1 rfl) ?_
    refine lv_aload_n hx hb dX4_put_33 rfl (lv_at hl 2 rfl) ?_
    have hin := vaS_in hI.2.2.2.1 hk hv (j := j)
    have hv7 : rg ((chgF k (vaO (st3 σ 6 k j v) k) ((st3 σ 6 k j v) 25 0 0) (st3 σ 6 k j v)) 7 k 0) := by rw [chgF_7]; exact inP_rg hin
    have hIs : Is g (chgF k (vaO (st3 σ 6 k j v) k) ((st3 σ 6 k j v) 25 0 0) (st3 σ 6 k j v)) := Is_to hI.2.2.2.2.1 (by rw [chgF_n (by decide) (by decide) (by decide) (by decide), st3_n (by decide)]) (by rw [chgF_n (by decide) (by decide) (by decide) (by decide), st3_n (by decide)]) (by rw [chgF_n (by decide) (by decide) (by decide) (by decide), st3_n (by decide)])
    refine w_callv (va_runV (As := [.ref (ad 1 k)]) (rest := []) ⟨hx, hb, hml, hown, hts⟩ (c_X4_reportChange l D B ad g (chgF k (vaO (st3 σ 6 k j v) k) ((st3 σ 6 k j v) 25 0 0) (st3 σ 6 k j v)) T o k hk hI.1 hI.2.1 hIs hv7) (cwV 1 hts gX4_put_X4_reportChange rfl rfl rfl (by decide +kernel) ⟨Nat.le_of_ble_eq_true rfl, Nat.le_of_ble_eq_true rfl⟩) (w_preV hC hP hS cW_4 rfl) rfl rfl hl.1 rfl (lv_room (Nat.le_of_ble_eq_true rfl)) dX4_put_34 ⟨Nat.le_of_ble_eq_true rfl, Nat.le_of_ble_eq_true rfl⟩) hS (fun ad1 w1 H locs hq hP hS => ?_)
    cases hq
    exact W.vret hx hb hr (fun t ht hW => Qv_of (by unfold setF; rw [if_neg c_19, chgF_7]; rfl) hP hS ht) hS.2.2 dX4_put_37
set_option maxHeartbeats 4000000 in
set_option maxRecDepth 100000 in
theorem c_X4_follow (l : Launch) (D : va_G) (B : Nat) (ad : Ad) (g : GC) (σ : Me) (T : GC × Me × Int32) (o : Int64) (w1 : Nat) (hc : w1 < g.2.2) (hI : Ib g σ) (t : Nat) (ht : σ 25 0 0 = nI t) (ht2 : t ≤ 1000000) : Met l yX4_follow wsX4_follow ({ frames := 4, cells := 0, slots := 0, locals := 94 }) (Pre D B ad (cW D ad (g, σ) T o) [.ref (ad 4 0), .ref (ad 2 w1)]) (Qv D B (fun u => u = (ad, cW D ad (g, obeF g.2.1 w1 σ) T o))) 0 0 (ab B) := by
  refine Met.ofW (cc := cX4_follow) (maxL := 3) (ret := none) (by decide) rfl ?_
  intro p e s m args below meth c s₁ Bd hml hv
  obtain ⟨rfl, hC, hP⟩ := hv
  have hx := Bd.exec
  have hb := Bd.bytes
  have hr := Bd.returns
  have hts := atoms_spec (ws := wsX4_follow) Bd.pre
  have hown : s.vm.findClass RX4 = some m.cls := findClass_of_methodNamed Bd.named
  have hlocks := Bd.notSynchronized
  have hS : va_S (ab B) s.heap s.heap [] := va_S.rf
  have hl := lv_entry ([.ref (ad 4 0), .ref (ad 2 w1)]) (n := 3) (Nat.le_of_ble_eq_true rfl)
  rw [lg_entry_eq]
  generalize (lg_sl ([.ref (ad 4 0), .ref (ad 2 w1)]) ++ List.replicate (3 - (lg_sl ([.ref (ad 4 0), .ref (ad 2 w1)])).length) Slot.unset).toArray = ls at hl ⊢
  have hl : lv_has ls 3 [(0, .ref (ad 4 0)), (1, .ref (ad 2 w1))] := hl
  obtain ⟨i, j, n, n1, n2, h1, h2, h3, h4, h5, h6, h7, h8, h9, h10, h11, h12⟩ := hI.2.2.2.2.2 w1 hc
  have hT : tolC σ w1 n1 n2 (σ 25 0 0) = tolO σ w1 (σ 25 0 0) := by rw [ht]; exact tol_eq h6 (by omega) h12 ht2
  refine lv_aload_n hx hb dX4_follow_0 rfl (lv_at hl 1 rfl) ?_
  refine lv_aload_n hx hb dX4_follow_1 rfl (lv_at hl 0 rfl) ?_
  refine w_get hx hb hts (by decide +kernel) hown hC hP cW_4 rfl 6 (by decide) (hts (.fieldLink RX4 79 "BuildingPoints" "now" "I") (by decide +kernel)) rfl dX4_follow_2 ?_
  refine w_calli (va_runV (As := [.int (σ 25 0 0)]) (rest := []) ⟨hx, hb, hml, hown, hts⟩ (c_X2_toldAt l D B ad g σ T o w1 n1 n2 hc h7 (by omega) h8 (by omega) (σ 25 0 0)) (cwV 1 hts gX4_follow_X2_toldAt rfl rfl rfl (by decide +kernel) ⟨Nat.le_of_ble_eq_true rfl, Nat.le_of_ble_eq_true rfl⟩) (w_preV hC hP hS (cW_2 hc) rfl) rfl rfl hl.1 rfl (lv_room (Nat.le_of_ble_eq_true rfl)) dX4_follow_5 ⟨Nat.le_of_ble_eq_true rfl, Nat.le_of_ble_eq_true rfl⟩) hS (fun r_1 ad1 w1 H locs hq hP hS => ?_)
  obtain ⟨h91, h92⟩ := hq
  cases h91
  have h92 := h92.trans hT
  subst h92
  refine lv_istore_n (lv' := [(2, .int (tolO σ w1 (σ 25 0 0))), (0, .ref (ad 4 0)), (1, .ref (ad 2 w1))]) hx hb dX4_follow_8 rfl hl (by decide) rfl (fun ls hl => ?_)
  refine lv_iload_n hx hb dX4_follow_9 rfl (lv_at hl 0 rfl) ?_
  refine lv_aload_n hx hb dX4_follow_10 rfl (lv_at hl 2 rfl) ?_
  refine w_get hx hb hts (by decide +kernel) hown hC hP (cW_2 hc) rfl 4 (by decide) (hts (.fieldLink RX4 133 "BuildingPoints$Schedule" "toldLast" "I") (by decide +kernel)) rfl dX4_follow_11 ?_
  refine lv_icmp_eq (tgt := 35) hx hb dX4_follow_14 (by decide) (fun c_14 => ?_) (fun c_14 => ?_)
  · exact W.vret hx hb hr (fun t ht hW => Qv_of (by unfold obeF; rw [if_pos c_14]) hP hS ht) hS.2.2 dX4_follow_35
  · have e14 : ((st3 σ 16 w1 0 (tolO σ w1 (σ 25 0 0))) 14 w1 0).toNatClampNeg = i := by rw [st3_n (by decide), h2]; exact nI_clamp (by have := hI.1; omega)
    have hk14 : ((st3 σ 16 w1 0 (tolO σ w1 (σ 25 0 0))) 14 w1 0).toNatClampNeg < g.1 := by rw [e14]; exact h1
    have e14s : nOf (σ 14 w1 0) = i := by rw [h2]; exact nI_clamp (by have := hI.1; omega)
    have e15s : nOf (σ 15 w1 0) = j := by rw [h5]; exact nI_clamp (by omega)
    have hok : okV (st3 σ 16 w1 0 (tolO σ w1 (σ 25 0 0))) ((st3 σ 16 w1 0 (tolO σ w1 (σ 25 0 0))) 14 w1 0).toNatClampNeg (tolO σ w1 (σ 25 0 0)) := by rw [e14, ← e14s]; exact okV_to (tolO_ok hI.1 hI.2.2.2.2.2 hc _) (st3_n (by decide))
    refine lv_aload_n hx hb dX4_follow_17 rfl (lv_at hl 2 rfl) ?_
    refine lv_iload_n hx hb dX4_follow_18 rfl (lv_at hl 0 rfl) ?_
    refine w_put hx hb hts (by decide +kernel) tyX2 tyX2_ok nmX2 hown hC hP hS (cW_2 hc) rfl 4 (by decide) (hts (.fieldLink RX4 133 "BuildingPoints$Schedule" "toldLast" "I") (by decide +kernel)) rfl rfl rfl (Nat.le_of_ble_eq_true rfl) rfl dX4_follow_19 (fun H locs hP hS => ?_)
    have hP := hw_eq hP (pC4 hc _)
    refine lv_aload_n hx hb dX4_follow_22 rfl (lv_at hl 1 rfl) ?_
    refine lv_aload_n hx hb dX4_follow_23 rfl (lv_at hl 2 rfl) ?_
    refine w_get hx hb hts (by decide +kernel) hown hC hP (cW_2 hc) rfl 0 (by decide) (hts (.fieldLink RX4 166 "BuildingPoints$Schedule" "point" "LBuildingPoints$Point;") (by decide +kernel)) rfl dX4_follow_24 ?_
    refine lv_aload_n hx hb dX4_follow_27 rfl (lv_at hl 2 rfl) ?_
    refine w_get hx hb hts (by decide +kernel) hown hC hP (cW_2 hc) rfl 1 (by decide) (hts (.fieldLink RX4 200 "BuildingPoints$Schedule" "priority" "I") (by decide +kernel)) rfl dX4_follow_28 ?_
    refine w_top (v := nI j) (by rw [st3_n (by decide)]; exact h5) ?_
    refine lv_iload_n hx hb dX4_follow_31 rfl (lv_at hl 0 rfl) ?_
    refine w_callv (va_runV (As := [.ref (ad 1 (((st3 σ 16 w1 0 (tolO σ w1 (σ 25 0 0))) 14 w1 0).toNatClampNeg)), .int (nI j), .int (tolO σ w1 (σ 25 0 0))]) (rest := []) ⟨hx, hb, hml, hown, hts⟩ (c_X4_put l D B ad g (st3 σ 16 w1 0 (tolO σ w1 (σ 25 0 0))) T o (((st3 σ 16 w1 0 (tolO σ w1 (σ 25 0 0))) 14 w1 0).toNatClampNeg) j hk14 (by omega) (by omega) (tolO σ w1 (σ 25 0 0)) (Ib_st hI (by decide)) hok) (cwV 3 hts gX4_follow_X4_put rfl rfl rfl (by decide +kernel) ⟨Nat.le_of_ble_eq_true rfl, Nat.le_of_ble_eq_true rfl⟩) (w_preV hC hP hS cW_4 rfl) rfl rfl hl.1 rfl (lv_room (Nat.le_of_ble_eq_true rfl)) dX4_follow_32 ⟨Nat.le_of_ble_eq_true rfl, Nat.le_of_ble_eq_true rfl⟩) hS (fun ad1 w1 H locs hq hP hS => ?_)
    cases hq
    exact W.vret hx hb hr (fun t ht hW => Qv_of (by unfold obeF; rw [if_neg c_14, e14, e14s, e15s]) hP hS ht) hS.2.2 dX4_follow_35
set_option maxHeartbeats 4000000 in
set_option maxRecDepth 100000 in
theorem c_X4_releaseHeldCommands (l : Launch) (D : va_G) (B : Nat) (ad : Ad) (g : GC) (σ : Me) (T : GC × Me × Int32) (o : Int64) (hI : Ib g σ) (t : Nat) (ht : σ 25 0 0 = nI t) (ht0 : 0 < t) (ht2 : t ≤ 1000000) (hu : ∀ k, k < g.1 → Tu t σ k) : Met l yX4_releaseHeldCommands wsX4_releaseHeldCommands ({ frames := 4, cells := 0, slots := 0, locals := 94 }) (Pre D B ad (cW D ad (g, σ) T o) [.ref (ad 4 0)]) (Qv D B (fun u => u = (ad, cW D ad (g, relF g.2.1 g.1 0 σ) T o))) 0 0 (ab B) := by
  refine Met.ofW (cc := cX4_releaseHeldCommands) (maxL := 5) (ret := none) (by decide) rfl ?_
  intro p e s m args below meth c s₁ Bd hml hv
  obtain ⟨rfl, hC, hP⟩ := hv
  have hx := Bd.exec
  have hb := Bd.bytes
  have hr := Bd.returns
  have hts := atoms_spec (ws := wsX4_releaseHeldCommands) Bd.pre
  have hown : s.vm.findClass RX4 = some m.cls := findClass_of_methodNamed Bd.named
  have hlocks := Bd.notSynchronized
  have hS : va_S (ab B) s.heap s.heap [] := va_S.rf
  have hl := lv_entry ([.ref (ad 4 0)]) (n := 5) (Nat.le_of_ble_eq_true rfl)
  rw [lg_entry_eq]
  generalize (lg_sl ([.ref (ad 4 0)]) ++ List.replicate (5 - (lg_sl ([.ref (ad 4 0)])).length) Slot.unset).toArray = ls at hl ⊢
  have hl : lv_has ls 5 [(0, .ref (ad 4 0))] := hl
  have hg1 := hI.1
  refine lv_aload_n hx hb dX4_releaseHeldCommands_0 rfl (lv_at hl 0 rfl) ?_
  refine w_get hx hb hts (by decide +kernel) hown hC hP cW_4 rfl 0 (by decide) (hts (.fieldLink RX4 11 "BuildingPoints" "points" "[LBuildingPoints$Point;") (by decide +kernel)) rfl dX4_releaseHeldCommands_1 ?_
  refine lv_astore_n (lv' := [(1, .ref (ad 7 0)), (0, .ref (ad 4 0))]) hx hb dX4_releaseHeldCommands_4 rfl hl (by decide) rfl (fun ls hl => ?_)
  refine lv_aload_n hx hb dX4_releaseHeldCommands_5 rfl (lv_at hl 0 rfl) ?_
  refine w_alen hx hb hC hP 3 rfl cW_70 (v := 16) rfl dX4_releaseHeldCommands_6 ?_
  refine lv_istore_n (lv' := [(2, .int 16), (1, .ref (ad 7 0)), (0, .ref (ad 4 0))]) hx hb dX4_releaseHeldCommands_7 rfl hl (by decide) rfl (fun ls hl => ?_)
  refine lv_iconst (v := 0) hx hb dX4_releaseHeldCommands_8 (by decide) ?_
  refine lv_istore_n (lv' := [(3, .int 0), (2, .int 16), (1, .ref (ad 7 0)), (0, .ref (ad 4 0))]) hx hb dX4_releaseHeldCommands_9 rfl hl (by decide) rfl (fun ls hl => ?_)
  refine w_ind (fun n9 H locs ls => ∃ (i : Nat) (σ1 : Me), i + n9 = g.1 ∧ relF g.2.1 g.1 0 σ = relF g.2.1 n9 i σ1 ∧ Ib g σ1 ∧ σ1 25 0 0 = nI t ∧ (∀ k, i ≤ k → k < g.1 → Tu t σ1 k) ∧ hw D B ad (cW D ad (g, σ1) T o) H ∧ va_S (ab B) s.heap H locs ∧ lv_has ls 5 [(3, .int (nI i)), (0, .ref (ad 4 0)), (1, .ref (ad 7 0)), (2, .int 16)]) ?_ g.1 _ _ _ ⟨0, σ, by omega, rfl, hI, ht, fun k _ hk => hu k hk, hP, hS, lv_sub hl [0, 3, 2, 1] rfl⟩
  intro n9 H locs ls hJ ih
  obtain ⟨i, σ1, hi, hst, hI1, ht1, hu1, hP, hS, hl⟩ := hJ
  refine lv_iload_n hx hb dX4_releaseHeldCommands_10 rfl (lv_at hl 0 rfl) ?_
  refine lv_iload_n hx hb dX4_releaseHeldCommands_11 rfl (lv_at hl 3 rfl) ?_
  refine lv_icmp_ge (tgt := 70) hx hb dX4_releaseHeldCommands_12 (by decide) (fun c_12 => ?_) (fun c_12 => ?_)
  · have hin : 16 ≤ i := Nat.not_lt.mp (fun z => absurd c_12 (nI_ge z (by decide)))
    exact W.vret hx hb hr (fun t ht hW => Qv_of (by rw [hst, show n9 = 0 by omega]; rfl) hP hS ht) hS.2.2 dX4_releaseHeldCommands_70
  · have hlt : i < 16 := Nat.not_le.mp (fun z => c_12 (nI_le z (by omega)))
    refine lv_aload_n hx hb dX4_releaseHeldCommands_15 rfl (lv_at hl 2 rfl) ?_
    refine lv_iload_n hx hb dX4_releaseHeldCommands_16 rfl (lv_at hl 0 rfl) ?_
    rcases Nat.lt_or_ge i g.1 with hin | hin
    · refine w_aldN hx hb hC hP 3 rfl cW_70 (by omega) (by decide) dX4_releaseHeldCommands_17 (r := .ref (ad 1 i)) (by simp only [fP, if_pos hin]; rfl) ?_
      refine lv_astore (lv' := [(4, .ref (ad 1 i)), (3, .int (nI i)), (0, .ref (ad 4 0)), (1, .ref (ad 7 0)), (2, .int 16)]) hx hb dX4_releaseHeldCommands_18 hl (by decide) rfl (fun ls hl => ?_)
      refine lv_aload hx hb dX4_releaseHeldCommands_20 (lv_at hl 0 rfl) ?_
      refine lv_ifnonnull (tgt := 28) hx hb dX4_releaseHeldCommands_22 (by decide) ?_
      refine lv_aload hx hb dX4_releaseHeldCommands_28 (lv_at hl 0 rfl) ?_
      refine w_calli (va_runV (As := []) (rest := []) ⟨hx, hb, hml, hown, hts⟩ (c_X1_isHeld l D B ad g σ1 T o i hin) (cwV 0 hts gX4_releaseHeldCommands_X1_isHeld rfl rfl rfl (by decide +kernel) ⟨Nat.le_of_ble_eq_true rfl, Nat.le_of_ble_eq_true rfl⟩) (w_preV hC hP hS (cW_1 hin) rfl) rfl rfl hl.1 rfl (lv_room (Nat.le_of_ble_eq_true rfl)) dX4_releaseHeldCommands_30 ⟨Nat.le_of_ble_eq_true rfl, Nat.le_of_ble_eq_true rfl⟩) hS (fun r_1 ad1 w1 H locs hq hP hS => ?_)
      obtain ⟨h91, h92⟩ := hq
      cases h91
      subst h92
      refine lv_if_eq (tgt := 64) hx hb dX4_releaseHeldCommands_33 (by decide) (fun c_33 => ?_) (fun c_33 => ?_)
      · obtain ⟨u, hu4, hu5, hu6⟩ := hu1 i (Nat.le_refl i) hin
        have h40 : σ1 4 i 0 = 0 := Classical.not_not.mp (bI_0.mp c_33)
        refine lv_iinc (v := nI (i + 1)) (lv' := [(3, .int (nI (i + 1))), (4, .ref (ad 1 i)), (0, .ref (ad 4 0)), (1, .ref (ad 7 0)), (2, .int 16)]) hx hb dX4_releaseHeldCommands_64 hl (k := 1) rfl (nI_add i 1) (by decide) rfl (fun ls hl => ?_)
        refine lv_goto (tgt := 10) hx hb dX4_releaseHeldCommands_67 (by decide) ?_
        obtain ⟨n8, rfl⟩ : ∃ n8, n9 = n8 + 1 := ⟨n9 - 1, by omega⟩
        have hE : relS g.2.1 i σ1 = σ1 := by
          unfold relS
          rw [if_neg (fun z => by rw [h40, ht1] at z; exact nI_ne0 ht0 (by omega) z.symm)]
        exact ih n8 _ _ _ (by omega) ⟨i + 1, σ1, by omega, by rw [hst]; show relF g.2.1 n8 (i + 1) (relS g.2.1 i σ1) = _; rw [hE], hE ▸ Ib_relS hI1 hin, by rw [← hE, relS_n (by decide) (by decide) (by decide) (by decide) (by decide) (by decide) (by decide)]; exact ht1, fun k h1 h2 => by rw [← hE]; unfold Tu; rw [relS_i (by omega)]; exact hu1 k (by omega) h2, hP, hS, lv_sub hl [0, 2, 3, 4] rfl⟩
      · obtain ⟨u, hu4, hu5, hu6⟩ := hu1 i (Nat.le_refl i) hin
        have h40 : ¬ σ1 4 i 0 = 0 := fun z => c_33 (bI_0.mpr (fun y => y z))
        refine lv_aload hx hb dX4_releaseHeldCommands_36 (lv_at hl 0 rfl) ?_
        refine w_get hx hb hts (by decide +kernel) hown hC hP (cW_1 hin) rfl 6 (by decide) (hts (.fieldLink RX4 76 "BuildingPoints$Point" "heldUntil" "I") (by decide +kernel)) rfl dX4_releaseHeldCommands_38 ?_
        refine lv_aload_n hx hb dX4_releaseHeldCommands_41 rfl (lv_at hl 2 rfl) ?_
        refine w_get hx hb hts (by decide +kernel) hown hC hP cW_4 rfl 6 (by decide) (hts (.fieldLink RX4 79 "BuildingPoints" "now" "I") (by decide +kernel)) rfl dX4_releaseHeldCommands_42 ?_
        refine lv_icmp_gt (tgt := 64) hx hb dX4_releaseHeldCommands_45 (by decide) (fun c_45 => ?_) (fun c_45 => ?_)
        · refine lv_iinc (v := nI (i + 1)) (lv' := [(3, .int (nI (i + 1))), (4, .ref (ad 1 i)), (0, .ref (ad 4 0)), (1, .ref (ad 7 0)), (2, .int 16)]) hx hb dX4_releaseHeldCommands_64 hl (k := 1) rfl (nI_add i 1) (by decide) rfl (fun ls hl => ?_)
          refine lv_goto (tgt := 10) hx hb dX4_releaseHeldCommands_67 (by decide) ?_
          obtain ⟨n8, rfl⟩ : ∃ n8, n9 = n8 + 1 := ⟨n9 - 1, by omega⟩
          have hE : relS g.2.1 i σ1 = σ1 := by
            unfold relS
            rw [if_neg (fun z => by rw [z] at c_45; exact Int32.lt_irrefl c_45)]
          exact ih n8 _ _ _ (by omega) ⟨i + 1, σ1, by omega, by rw [hst]; show relF g.2.1 n8 (i + 1) (relS g.2.1 i σ1) = _; rw [hE], hE ▸ Ib_relS hI1 hin, by rw [← hE, relS_n (by decide) (by decide) (by decide) (by decide) (by decide) (by decide) (by decide)]; exact ht1, fun k h1 h2 => by rw [← hE]; unfold Tu; rw [relS_i (by omega)]; exact hu1 k (by omega) h2, hP, hS, lv_sub hl [0, 2, 3, 4] rfl⟩
        · have hut : u = t := by
            have h1 : ¬ u = 0 := fun z => h40 (by rw [hu4, z]; rfl)
            have h2 : u ≤ t := Nat.not_lt.mp (fun z => c_45 (by rw [hu4, ht1]; exact nI_lt z (by omega)))
            omega
          refine lv_aload hx hb dX4_releaseHeldCommands_48 (lv_at hl 0 rfl) ?_
          refine lv_iconst (v := 0) hx hb dX4_releaseHeldCommands_50 (by decide) ?_
          refine w_put hx hb hts (by decide +kernel) tyX1 tyX1_ok nmX1 hown hC hP hS (cW_1 hin) rfl 6 (by decide) (hts (.fieldLink RX4 76 "BuildingPoints$Point" "heldUntil" "I") (by decide +kernel)) rfl rfl rfl (Nat.le_of_ble_eq_true rfl) rfl dX4_releaseHeldCommands_51 (fun H locs hP hS => ?_)
          have hP := hw_eq hP (pP6 hin _)
          refine lv_aload_n hx hb dX4_releaseHeldCommands_54 rfl (lv_at hl 2 rfl) ?_
          refine lv_aload hx hb dX4_releaseHeldCommands_55 (lv_at hl 0 rfl) ?_
          refine lv_bipush (v := (6)) hx hb dX4_releaseHeldCommands_57 (by decide) ?_
          refine w_top (v := nI 6) rfl ?_
          refine lv_ldc (v := (-100000)) hx hb hown (hts (.constant RX4 157 (-100000)) (by decide +kernel)) dX4_releaseHeldCommands_59 ?_
          refine w_top (v := nth) rfl ?_
          refine w_callv (va_runV (As := [.ref (ad 1 i), .int (nI 6), .int nth]) (rest := []) ⟨hx, hb, hml, hown, hts⟩ (c_X4_put l D B ad g (st3 σ1 4 i 0 0) T o i 6 hin (by decide) (by decide) nth (Ib_st hI1 (by decide)) (nth_ok _ _)) (cwV 3 hts gX4_releaseHeldCommands_X4_put rfl rfl rfl (by decide +kernel) ⟨Nat.le_of_ble_eq_true rfl, Nat.le_of_ble_eq_true rfl⟩) (w_preV hC hP hS cW_4 rfl) rfl rfl hl.1 rfl (lv_room (Nat.le_of_ble_eq_true rfl)) dX4_releaseHeldCommands_61 ⟨Nat.le_of_ble_eq_true rfl, Nat.le_of_ble_eq_true rfl⟩) hS (fun ad1 w1 H locs hq hP hS => ?_)
          cases hq
          refine lv_iinc (v := nI (i + 1)) (lv' := [(3, .int (nI (i + 1))), (4, .ref (ad 1 i)), (0, .ref (ad 4 0)), (1, .ref (ad 7 0)), (2, .int 16)]) hx hb dX4_releaseHeldCommands_64 hl (k := 1) rfl (nI_add i 1) (by decide) rfl (fun ls hl => ?_)
          refine lv_goto (tgt := 10) hx hb dX4_releaseHeldCommands_67 (by decide) ?_
          obtain ⟨n8, rfl⟩ : ∃ n8, n9 = n8 + 1 := ⟨n9 - 1, by omega⟩
          have hE : relS g.2.1 i σ1 = setF g.2.1 i 6 nth (st3 σ1 4 i 0 0) := by
            unfold relS
            rw [if_pos (by rw [hu4, ht1, hut])]
          exact ih n8 _ _ _ (by omega) ⟨i + 1, (setF g.2.1 i 6 nth (st3 σ1 4 i 0 0)), by omega, by rw [hst]; show relF g.2.1 n8 (i + 1) (relS g.2.1 i σ1) = _; rw [hE], hE ▸ Ib_relS hI1 hin, by rw [← hE, relS_n (by decide) (by decide) (by decide) (by decide) (by decide) (by decide) (by decide)]; exact ht1, fun k h1 h2 => by rw [← hE]; unfold Tu; rw [relS_i (by omega)]; exact hu1 k (by omega) h2, hP, hS, lv_sub hl [0, 2, 3, 4] rfl⟩
    · refine w_aldN hx hb hC hP 3 rfl cW_70 (by omega) (by decide) dX4_releaseHeldCommands_17 (r := .null) (by simp only [fP, if_neg (Nat.not_lt.mpr hin)]; rfl) ?_
      refine lv_astoreN (lv' := [(4, .null), (3, .int (nI i)), (0, .ref (ad 4 0)), (1, .ref (ad 7 0)), (2, .int 16)]) hx hb dX4_releaseHeldCommands_18 hl (by decide) rfl (fun ls hl => ?_)
      refine lv_aloadN hx hb dX4_releaseHeldCommands_20 (lv_at hl 0 rfl) ?_
      refine lv_ifnonnullN hx hb dX4_releaseHeldCommands_22 ?_
      refine lv_goto (tgt := 70) hx hb dX4_releaseHeldCommands_25 (by decide) ?_
      exact W.vret hx hb hr (fun t ht hW => Qv_of (by rw [hst, show n9 = 0 by omega]; rfl) hP hS ht) hS.2.2 dX4_releaseHeldCommands_70
set_option maxHeartbeats 4000000 in
set_option maxRecDepth 100000 in
theorem c_X4_endOldSubscriptions (l : Launch) (D : va_G) (B : Nat) (ad : Ad) (g : GC) (σ : Me) (T : GC × Me × Int32) (o : Int64) (h30 : g.2.1 ≤ 30) (t : Nat) (ht : σ 25 0 0 = nI t) (ht2 : t ≤ 1000000) (ho : ∀ s, s < g.2.1 → To t σ s) : Met l yX4_endOldSubscriptions wsX4_endOldSubscriptions ({ frames := 0, cells := 0, slots := 0, locals := 0 }) (Pre D B ad (cW D ad (g, σ) T o) [.ref (ad 4 0)]) (Qv D B (fun u => u = (ad, cW D ad (g, endF g.2.1 0 σ) T o))) 0 0 (ab B) := by
  refine Met.ofW (cc := cX4_endOldSubscriptions) (maxL := 5) (ret := none) (by decide) rfl ?_
  intro p e s m args below meth c s₁ Bd hml hv
  obtain ⟨rfl, hC, hP⟩ := hv
  have hx := Bd.exec
  have hb := Bd.bytes
  have hr := Bd.returns
  have hts := atoms_spec (ws := wsX4_endOldSubscriptions) Bd.pre
  have hown : s.vm.findClass RX4 = some m.cls := findClass_of_methodNamed Bd.named
  have hlocks := Bd.notSynchronized
  have hS : va_S (ab B) s.heap s.heap [] := va_S.rf
  have hl := lv_entry ([.ref (ad 4 0)]) (n := 5) (Nat.le_of_ble_eq_true rfl)
  rw [lg_entry_eq]
  generalize (lg_sl ([.ref (ad 4 0)]) ++ List.replicate (5 - (lg_sl ([.ref (ad 4 0)])).length) Slot.unset).toArray = ls at hl ⊢
  have hl : lv_has ls 5 [(0, .ref (ad 4 0))] := hl
  refine lv_aload_n hx hb dX4_endOldSubscriptions_0 rfl (lv_at hl 0 rfl) ?_
  refine w_get hx hb hts (by decide +kernel) hown hC hP cW_4 rfl 1 (by decide) (hts (.fieldLink RX4 17 "BuildingPoints" "subscriptions" "[LBuildingPoints$Subscription;") (by decide +kernel)) rfl dX4_endOldSubscriptions_1 ?_
  refine lv_astore_n (lv' := [(1, .ref (ad 7 1)), (0, .ref (ad 4 0))]) hx hb dX4_endOldSubscriptions_4 rfl hl (by decide) rfl (fun ls hl => ?_)
  refine lv_aload_n hx hb dX4_endOldSubscriptions_5 rfl (lv_at hl 0 rfl) ?_
  refine w_alen hx hb hC hP 4 rfl cW_71 (v := 30) rfl dX4_endOldSubscriptions_6 ?_
  refine lv_istore_n (lv' := [(2, .int 30), (1, .ref (ad 7 1)), (0, .ref (ad 4 0))]) hx hb dX4_endOldSubscriptions_7 rfl hl (by decide) rfl (fun ls hl => ?_)
  refine lv_iconst (v := 0) hx hb dX4_endOldSubscriptions_8 (by decide) ?_
  refine lv_istore_n (lv' := [(3, .int 0), (2, .int 30), (1, .ref (ad 7 1)), (0, .ref (ad 4 0))]) hx hb dX4_endOldSubscriptions_9 rfl hl (by decide) rfl (fun ls hl => ?_)
  refine w_ind (fun n9 H locs ls => ∃ (i : Nat) (σ1 : Me), i + n9 = g.2.1 ∧ endF g.2.1 0 σ = endF n9 i σ1 ∧ σ1 25 0 0 = nI t ∧ (∀ k, i ≤ k → k < g.2.1 → To t σ1 k) ∧ hw D B ad (cW D ad (g, σ1) T o) H ∧ va_S (ab B) s.heap H locs ∧ lv_has ls 5 [(3, .int (nI i)), (0, .ref (ad 4 0)), (1, .ref (ad 7 1)), (2, .int 30)]) ?_ g.2.1 _ _ _ ⟨0, σ, by omega, rfl, ht, fun k _ hk => ho k hk, hP, hS, lv_sub hl [0, 3, 2, 1] rfl⟩
  intro n9 H locs ls hJ ih
  obtain ⟨i, σ1, hi, hst, ht1, ho1, hP, hS, hl⟩ := hJ
  refine lv_iload_n hx hb dX4_endOldSubscriptions_10 rfl (lv_at hl 0 rfl) ?_
  refine lv_iload_n hx hb dX4_endOldSubscriptions_11 rfl (lv_at hl 3 rfl) ?_
  refine lv_icmp_ge (tgt := 52) hx hb dX4_endOldSubscriptions_12 (by decide) (fun c_12 => ?_) (fun c_12 => ?_)
  · have hin : 30 ≤ i := Nat.not_lt.mp (fun z => absurd c_12 (nI_ge z (by decide)))
    exact W.vret hx hb hr (fun t ht hW => Qv_of (by rw [hst, show n9 = 0 by omega]; rfl) hP hS ht) hS.2.2 dX4_endOldSubscriptions_52
  · have hlt : i < 30 := Nat.not_le.mp (fun z => c_12 (nI_le z (by omega)))
    refine lv_aload_n hx hb dX4_endOldSubscriptions_15 rfl (lv_at hl 2 rfl) ?_
    refine lv_iload_n hx hb dX4_endOldSubscriptions_16 rfl (lv_at hl 0 rfl) ?_
    rcases Nat.lt_or_ge i g.2.1 with hin | hin
    · refine w_aldN hx hb hC hP 4 rfl cW_71 (by omega) (by decide) dX4_endOldSubscriptions_17 (r := .ref (ad 3 i)) (by simp only [fP, if_pos hin]; rfl) ?_
      refine lv_astore (lv' := [(4, .ref (ad 3 i)), (3, .int (nI i)), (0, .ref (ad 4 0)), (1, .ref (ad 7 1)), (2, .int 30)]) hx hb dX4_endOldSubscriptions_18 hl (by decide) rfl (fun ls hl => ?_)
      refine lv_aload hx hb dX4_endOldSubscriptions_20 (lv_at hl 0 rfl) ?_
      refine lv_ifnonnull (tgt := 28) hx hb dX4_endOldSubscriptions_22 (by decide) ?_
      refine lv_aload hx hb dX4_endOldSubscriptions_28 (lv_at hl 0 rfl) ?_
      refine w_get hx hb hts (by decide +kernel) hown hC hP (cW_3 hin) rfl 2 (by decide) (hts (.fieldLink RX4 212 "BuildingPoints$Subscription" "endTime" "I") (by decide +kernel)) rfl dX4_endOldSubscriptions_30 ?_
      refine lv_aload_n hx hb dX4_endOldSubscriptions_33 rfl (lv_at hl 2 rfl) ?_
      refine w_get hx hb hts (by decide +kernel) hown hC hP cW_4 rfl 6 (by decide) (hts (.fieldLink RX4 79 "BuildingPoints" "now" "I") (by decide +kernel)) rfl dX4_endOldSubscriptions_34 ?_
      refine lv_icmp_gt (tgt := 46) hx hb dX4_endOldSubscriptions_37 (by decide) (fun c_37 => ?_) (fun c_37 => ?_)
      · obtain ⟨h11, v, hv4, hv5, hv6⟩ := ho1 i (Nat.le_refl i) hin
        have hvt : ¬ σ1 10 i 0 = σ1 25 0 0 := fun z => by rw [z] at c_37; exact Int32.lt_irrefl c_37
        refine lv_iinc (v := nI (i + 1)) (lv' := [(3, .int (nI (i + 1))), (4, .ref (ad 3 i)), (0, .ref (ad 4 0)), (1, .ref (ad 7 1)), (2, .int 30)]) hx hb dX4_endOldSubscriptions_46 hl (k := 1) rfl (nI_add i 1) (by decide) rfl (fun ls hl => ?_)
        refine lv_goto (tgt := 10) hx hb dX4_endOldSubscriptions_49 (by decide) ?_
        obtain ⟨n8, rfl⟩ : ∃ n8, n9 = n8 + 1 := ⟨n9 - 1, by omega⟩
        have hE : endS i σ1 = σ1 := by
          unfold endS
          have e9 : bI (¬ σ1 11 i 0 = 0 ∨ σ1 10 i 0 = σ1 25 0 0) = σ1 11 i 0 := by { rcases h11 with z | z; rw [bI_f (fun y => y.elim (fun x => x z) hvt), z]; rw [bI_t (Or.inl (by rw [z]; decide)), z] }
          rw [e9, st3_self]
        exact ih n8 _ _ _ (by omega) ⟨i + 1, σ1, by omega, by rw [hst]; show endF n8 (i + 1) (endS i σ1) = _; rw [hE], by rw [← hE, endS_n (by decide)]; exact ht1, fun k h1 h2 => by rw [← hE]; unfold To; rw [endS_i (by omega), endS_n (by decide)]; exact ho1 k (by omega) h2, hP, hS, lv_sub hl [0, 2, 3, 4] rfl⟩
      · obtain ⟨h11, v, hv4, hv5, hv6⟩ := ho1 i (Nat.le_refl i) hin
        have hc : ¬ σ1 11 i 0 = 0 ∨ σ1 10 i 0 = σ1 25 0 0 := by
          have h2 : v ≤ t := Nat.not_lt.mp (fun z => c_37 (by rw [hv4, ht1]; exact nI_lt z (by omega)))
          rcases hv6 with z | z
          · exact Or.inl (by rw [z]; decide)
          · exact Or.inr (by rw [hv4, ht1, show v = t by omega])
        refine lv_aload hx hb dX4_endOldSubscriptions_40 (lv_at hl 0 rfl) ?_
        refine lv_iconst (v := 0) hx hb dX4_endOldSubscriptions_42 (by decide) ?_
        refine w_put hx hb hts (by decide +kernel) tyX3 tyX3_ok nmX3 hown hC hP hS (cW_3 hin) rfl 5 (by decide) (hts (.fieldLink RX4 95 "BuildingPoints$Subscription" "isOpen" "Z") (by decide +kernel)) rfl rfl rfl (Nat.le_of_ble_eq_true rfl) rfl dX4_endOldSubscriptions_43 (fun H locs hP hS => ?_)
        have hP := hw_eq hP (pS5 hin 1)
        refine lv_iinc (v := nI (i + 1)) (lv' := [(3, .int (nI (i + 1))), (4, .ref (ad 3 i)), (0, .ref (ad 4 0)), (1, .ref (ad 7 1)), (2, .int 30)]) hx hb dX4_endOldSubscriptions_46 hl (k := 1) rfl (nI_add i 1) (by decide) rfl (fun ls hl => ?_)
        refine lv_goto (tgt := 10) hx hb dX4_endOldSubscriptions_49 (by decide) ?_
        obtain ⟨n8, rfl⟩ : ∃ n8, n9 = n8 + 1 := ⟨n9 - 1, by omega⟩
        have hE : endS i σ1 = st3 σ1 11 i 0 1 := by
          unfold endS
          rw [bI_t hc]
        exact ih n8 _ _ _ (by omega) ⟨i + 1, (st3 σ1 11 i 0 1), by omega, by rw [hst]; show endF n8 (i + 1) (endS i σ1) = _; rw [hE], by rw [← hE, endS_n (by decide)]; exact ht1, fun k h1 h2 => by rw [← hE]; unfold To; rw [endS_i (by omega), endS_n (by decide)]; exact ho1 k (by omega) h2, hP, hS, lv_sub hl [0, 2, 3, 4] rfl⟩
    · refine w_aldN hx hb hC hP 4 rfl cW_71 (by omega) (by decide) dX4_endOldSubscriptions_17 (r := .null) (by simp only [fP, if_neg (Nat.not_lt.mpr hin)]; rfl) ?_
      refine lv_astoreN (lv' := [(4, .null), (3, .int (nI i)), (0, .ref (ad 4 0)), (1, .ref (ad 7 1)), (2, .int 30)]) hx hb dX4_endOldSubscriptions_18 hl (by decide) rfl (fun ls hl => ?_)
      refine lv_aloadN hx hb dX4_endOldSubscriptions_20 (lv_at hl 0 rfl) ?_
      refine lv_ifnonnullN hx hb dX4_endOldSubscriptions_22 ?_
      refine lv_goto (tgt := 52) hx hb dX4_endOldSubscriptions_25 (by decide) ?_
      exact W.vret hx hb hr (fun t ht hW => Qv_of (by rw [hst, show n9 = 0 by omega]; rfl) hP hS ht) hS.2.2 dX4_endOldSubscriptions_52
set_option maxHeartbeats 4000000 in
set_option maxRecDepth 100000 in
theorem c_X4_followSchedules (l : Launch) (D : va_G) (B : Nat) (ad : Ad) (g : GC) (σ : Me) (T : GC × Me × Int32) (o : Int64) (hI : Ib g σ) (t : Nat) (ht : σ 25 0 0 = nI t) (ht2 : t ≤ 1000000) : Met l yX4_followSchedules wsX4_followSchedules ({ frames := 5, cells := 0, slots := 0, locals := 116 }) (Pre D B ad (cW D ad (g, σ) T o) [.ref (ad 4 0)]) (Qv D B (fun u => u = (ad, cW D ad (g, folF g.2.1 g.2.2 0 σ) T o))) 0 0 (ab B) := by
  refine Met.ofW (cc := cX4_followSchedules) (maxL := 5) (ret := none) (by decide) rfl ?_
  intro p e s m args below meth c s₁ Bd hml hv
  obtain ⟨rfl, hC, hP⟩ := hv
  have hx := Bd.exec
  have hb := Bd.bytes
  have hr := Bd.returns
  have hts := atoms_spec (ws := wsX4_followSchedules) Bd.pre
  have hown : s.vm.findClass RX4 = some m.cls := findClass_of_methodNamed Bd.named
  have hlocks := Bd.notSynchronized
  have hS : va_S (ab B) s.heap s.heap [] := va_S.rf
  have hl := lv_entry ([.ref (ad 4 0)]) (n := 5) (Nat.le_of_ble_eq_true rfl)
  rw [lg_entry_eq]
  generalize (lg_sl ([.ref (ad 4 0)]) ++ List.replicate (5 - (lg_sl ([.ref (ad 4 0)])).length) Slot.unset).toArray = ls at hl ⊢
  have hl : lv_has ls 5 [(0, .ref (ad 4 0))] := hl
  have hg3 := hI.2.2.1
  refine lv_aload_n hx hb dX4_followSchedules_0 rfl (lv_at hl 0 rfl) ?_
  refine w_get hx hb hts (by decide +kernel) hown hC hP cW_4 rfl 2 (by decide) (hts (.fieldLink RX4 23 "BuildingPoints" "schedules" "[LBuildingPoints$Schedule;") (by decide +kernel)) rfl dX4_followSchedules_1 ?_
  refine lv_astore_n (lv' := [(1, .ref (ad 7 2)), (0, .ref (ad 4 0))]) hx hb dX4_followSchedules_4 rfl hl (by decide) rfl (fun ls hl => ?_)
  refine lv_aload_n hx hb dX4_followSchedules_5 rfl (lv_at hl 0 rfl) ?_
  refine w_alen hx hb hC hP 5 rfl cW_72 (v := 4) rfl dX4_followSchedules_6 ?_
  refine lv_istore_n (lv' := [(2, .int 4), (1, .ref (ad 7 2)), (0, .ref (ad 4 0))]) hx hb dX4_followSchedules_7 rfl hl (by decide) rfl (fun ls hl => ?_)
  refine lv_iconst (v := 0) hx hb dX4_followSchedules_8 (by decide) ?_
  refine lv_istore_n (lv' := [(3, .int 0), (2, .int 4), (1, .ref (ad 7 2)), (0, .ref (ad 4 0))]) hx hb dX4_followSchedules_9 rfl hl (by decide) rfl (fun ls hl => ?_)
  refine w_ind (fun n9 H locs ls => ∃ (i : Nat) (σ1 : Me), i + n9 = g.2.2 ∧ folF g.2.1 g.2.2 0 σ = folF g.2.1 n9 i σ1 ∧ Ib g σ1 ∧ σ1 25 0 0 = nI t ∧ hw D B ad (cW D ad (g, σ1) T o) H ∧ va_S (ab B) s.heap H locs ∧ lv_has ls 5 [(3, .int (nI i)), (0, .ref (ad 4 0)), (1, .ref (ad 7 2)), (2, .int 4)]) ?_ g.2.2 _ _ _ ⟨0, σ, by omega, rfl, hI, ht, hP, hS, lv_sub hl [0, 3, 2, 1] rfl⟩
  intro n9 H locs ls hJ ih
  obtain ⟨i, σ1, hi, hst, hI1, ht1, hP, hS, hl⟩ := hJ
  refine lv_iload_n hx hb dX4_followSchedules_10 rfl (lv_at hl 0 rfl) ?_
  refine lv_iload_n hx hb dX4_followSchedules_11 rfl (lv_at hl 3 rfl) ?_
  refine lv_icmp_ge (tgt := 40) hx hb dX4_followSchedules_12 (by decide) (fun c_12 => ?_) (fun c_12 => ?_)
  · have hin : 4 ≤ i := Nat.not_lt.mp (fun z => absurd c_12 (nI_ge z (by decide)))
    exact W.vret hx hb hr (fun t ht hW => Qv_of (by rw [hst, show n9 = 0 by omega]; rfl) hP hS ht) hS.2.2 dX4_followSchedules_40
  · have hlt : i < 4 := Nat.not_le.mp (fun z => c_12 (nI_le z (by omega)))
    refine lv_aload_n hx hb dX4_followSchedules_15 rfl (lv_at hl 2 rfl) ?_
    refine lv_iload_n hx hb dX4_followSchedules_16 rfl (lv_at hl 0 rfl) ?_
    rcases Nat.lt_or_ge i g.2.2 with hin | hin
    · refine w_aldN hx hb hC hP 5 rfl cW_72 (by omega) (by decide) dX4_followSchedules_17 (r := .ref (ad 2 i)) (by simp only [fP, if_pos hin]; rfl) ?_
      refine lv_astore (lv' := [(4, .ref (ad 2 i)), (3, .int (nI i)), (0, .ref (ad 4 0)), (1, .ref (ad 7 2)), (2, .int 4)]) hx hb dX4_followSchedules_18 hl (by decide) rfl (fun ls hl => ?_)
      refine lv_aload hx hb dX4_followSchedules_20 (lv_at hl 0 rfl) ?_
      refine lv_ifnonnull (tgt := 28) hx hb dX4_followSchedules_22 (by decide) ?_
      refine lv_aload_n hx hb dX4_followSchedules_28 rfl (lv_at hl 2 rfl) ?_
      refine lv_aload hx hb dX4_followSchedules_29 (lv_at hl 0 rfl) ?_
      refine w_callv (va_runV (As := [.ref (ad 2 i)]) (rest := []) ⟨hx, hb, hml, hown, hts⟩ (c_X4_follow l D B ad g σ1 T o i hin hI1 t ht1 ht2) (cwV 1 hts gX4_followSchedules_X4_follow rfl rfl rfl (by decide +kernel) ⟨Nat.le_of_ble_eq_true rfl, Nat.le_of_ble_eq_true rfl⟩) (w_preV hC hP hS cW_4 rfl) rfl rfl hl.1 rfl (lv_room (Nat.le_of_ble_eq_true rfl)) dX4_followSchedules_31 ⟨Nat.le_of_ble_eq_true rfl, Nat.le_of_ble_eq_true rfl⟩) hS (fun ad1 w1 H locs hq hP hS => ?_)
      cases hq
      refine lv_iinc (v := nI (i + 1)) (lv' := [(3, .int (nI (i + 1))), (4, .ref (ad 2 i)), (0, .ref (ad 4 0)), (1, .ref (ad 7 2)), (2, .int 4)]) hx hb dX4_followSchedules_34 hl (k := 1) rfl (nI_add i 1) (by decide) rfl (fun ls hl => ?_)
      refine lv_goto (tgt := 10) hx hb dX4_followSchedules_37 (by decide) ?_
      obtain ⟨n8, rfl⟩ : ∃ n8, n9 = n8 + 1 := ⟨n9 - 1, by omega⟩
      exact ih n8 _ _ _ (by omega) ⟨i + 1, obeF g.2.1 i σ1, by omega, by rw [hst]; rfl, Ib_obeF hI1 hin, by rw [obeF_n (by decide) (by decide) (by decide) (by decide) (by decide) (by decide) (by decide) (by decide)]; exact ht1, hP, hS, lv_sub hl [0, 2, 3, 4] rfl⟩
    · refine w_aldN hx hb hC hP 5 rfl cW_72 (by omega) (by decide) dX4_followSchedules_17 (r := .null) (by simp only [fP, if_neg (Nat.not_lt.mpr hin)]; rfl) ?_
      refine lv_astoreN (lv' := [(4, .null), (3, .int (nI i)), (0, .ref (ad 4 0)), (1, .ref (ad 7 2)), (2, .int 4)]) hx hb dX4_followSchedules_18 hl (by decide) rfl (fun ls hl => ?_)
      refine lv_aloadN hx hb dX4_followSchedules_20 (lv_at hl 0 rfl) ?_
      refine lv_ifnonnullN hx hb dX4_followSchedules_22 ?_
      refine lv_goto (tgt := 40) hx hb dX4_followSchedules_25 (by decide) ?_
      exact W.vret hx hb hr (fun t ht hW => Qv_of (by rw [hst, show n9 = 0 by omega]; rfl) hP hS ht) hS.2.2 dX4_followSchedules_40
set_option maxHeartbeats 4000000 in
set_option maxRecDepth 100000 in
theorem c_X4_passMinute (l : Launch) (D : va_G) (B : Nat) (ad : Ad) (g : GC) (σ : Me) (T : GC × Me × Int32) (o : Int64) (t : Nat) (hR : Rs g t σ) (ht1 : t + 1 ≤ 1000000) : Met l yX4_passMinute wsX4_passMinute ({ frames := 6, cells := 0, slots := 0, locals := 140 }) (Pre D B ad (cW D ad (g, σ) T o) [.ref (ad 4 0)]) (Qv D B (fun u => u = (ad, cW D ad (g, minF g σ) T o))) 0 0 (ab B) := by
  refine Met.ofW (cc := cX4_passMinute) (maxL := 1) (ret := none) (by decide) rfl ?_
  intro p e s m args below meth c s₁ Bd hml hv
  obtain ⟨rfl, hC, hP⟩ := hv
  have hx := Bd.exec
  have hb := Bd.bytes
  have hr := Bd.returns
  have hts := atoms_spec (ws := wsX4_passMinute) Bd.pre
  have hown : s.vm.findClass RX4 = some m.cls := findClass_of_methodNamed Bd.named
  have hlocks := Bd.notSynchronized
  have hS : va_S (ab B) s.heap s.heap [] := va_S.rf
  have hl := lv_entry ([.ref (ad 4 0)]) (n := 1) (Nat.le_of_ble_eq_true rfl)
  rw [lg_entry_eq]
  generalize (lg_sl ([.ref (ad 4 0)]) ++ List.replicate (1 - (lg_sl ([.ref (ad 4 0)])).length) Slot.unset).toArray = ls at hl ⊢
  have hl : lv_has ls 1 [(0, .ref (ad 4 0))] := hl
  obtain ⟨hI, ht, ht2, hu, ho⟩ := hR
  have e0 : (st3 σ 25 0 0 (σ 25 0 0 + 1)) 25 0 0 = nI (t + 1) := by rw [st3_v, ht, nI_1]
  have i0 : Ib g (st3 σ 25 0 0 (σ 25 0 0 + 1)) := Ib_st hI (by decide)
  have i1 := Ib_relF (ns := g.2.1) g.1 0 _ (by omega) i0
  have e1 : (relF g.2.1 g.1 0 (st3 σ 25 0 0 (σ 25 0 0 + 1))) 25 0 0 = nI (t + 1) := by rw [relF_n (by decide) (by decide) (by decide) (by decide) (by decide) (by decide) (by decide)]; exact e0
  have o1 : ∀ s, s < g.2.1 → To (t + 1) (relF g.2.1 g.1 0 (st3 σ 25 0 0 (σ 25 0 0 + 1))) s := fun s hs => To_to (ho s hs) (by rw [relF_n (by decide) (by decide) (by decide) (by decide) (by decide) (by decide) (by decide), st3_n (by decide)]) (by rw [relF_n (by decide) (by decide) (by decide) (by decide) (by decide) (by decide) (by decide), st3_n (by decide)])
  have u0 : ∀ k, k < g.1 → Tu (t + 1) (st3 σ 25 0 0 (σ 25 0 0 + 1)) k := fun k hk => by unfold Tu; rw [st3_n (by decide)]; exact hu k hk
  have i2 := Ib_endF g.2.1 0 _ i1
  have e2 : (endF g.2.1 0 (relF g.2.1 g.1 0 (st3 σ 25 0 0 (σ 25 0 0 + 1)))) 25 0 0 = nI (t + 1) := by rw [endF_n (by decide)]; exact e1
  refine lv_aload_n hx hb dX4_passMinute_0 rfl (lv_at hl 0 rfl) ?_
  refine lv_dup hx hb dX4_passMinute_1 rfl ?_
  refine w_get hx hb hts (by decide +kernel) hown hC hP cW_4 rfl 6 (by decide) (hts (.fieldLink RX4 79 "BuildingPoints" "now" "I") (by decide +kernel)) rfl dX4_passMinute_2 ?_
  refine lv_iconst (v := 1) hx hb dX4_passMinute_5 (by decide) ?_
  refine lv_iadd hx hb dX4_passMinute_6 ?_
  refine w_put hx hb hts (by decide +kernel) tyX4 tyX4_ok nmX4 hown hC hP hS cW_4 rfl 6 (by decide) (hts (.fieldLink RX4 79 "BuildingPoints" "now" "I") (by decide +kernel)) rfl rfl rfl (Nat.le_of_ble_eq_true rfl) rfl dX4_passMinute_7 (fun H locs hP hS => ?_)
  have hP := hw_eq hP (pB6 _)
  refine lv_aload_n hx hb dX4_passMinute_10 rfl (lv_at hl 0 rfl) ?_
  refine w_callv (va_runV (As := []) (rest := []) ⟨hx, hb, hml, hown, hts⟩ (c_X4_releaseHeldCommands l D B ad g (st3 σ 25 0 0 ((σ 25 0 0) + 1)) T o i0 (t + 1) e0 (Nat.succ_pos t) ht1 u0) (cwV 0 hts gX4_passMinute_X4_releaseHeldCommands rfl rfl rfl (by decide +kernel) ⟨Nat.le_of_ble_eq_true rfl, Nat.le_of_ble_eq_true rfl⟩) (w_preV hC hP hS cW_4 rfl) rfl rfl hl.1 rfl (lv_room (Nat.le_of_ble_eq_true rfl)) dX4_passMinute_11 ⟨Nat.le_of_ble_eq_true rfl, Nat.le_of_ble_eq_true rfl⟩) hS (fun ad1 w1 H locs hq hP hS => ?_)
  cases hq
  refine lv_aload_n hx hb dX4_passMinute_14 rfl (lv_at hl 0 rfl) ?_
  refine w_callv (va_runV (As := []) (rest := []) ⟨hx, hb, hml, hown, hts⟩ (c_X4_endOldSubscriptions l D B ad g (relF g.2.1 g.1 0 (st3 σ 25 0 0 (σ 25 0 0 + 1))) T o hI.2.1 (t + 1) e1 ht1 o1) (cwV 0 hts gX4_passMinute_X4_endOldSubscriptions rfl rfl rfl (by decide +kernel) ⟨Nat.le_of_ble_eq_true rfl, Nat.le_of_ble_eq_true rfl⟩) (w_preV hC hP hS cW_4 rfl) rfl rfl hl.1 rfl (lv_room (Nat.le_of_ble_eq_true rfl)) dX4_passMinute_15 ⟨Nat.le_of_ble_eq_true rfl, Nat.le_of_ble_eq_true rfl⟩) hS (fun ad1 w1 H locs hq hP hS => ?_)
  cases hq
  refine lv_aload_n hx hb dX4_passMinute_18 rfl (lv_at hl 0 rfl) ?_
  refine w_callv (va_runV (As := []) (rest := []) ⟨hx, hb, hml, hown, hts⟩ (c_X4_followSchedules l D B ad g (endF g.2.1 0 (relF g.2.1 g.1 0 (st3 σ 25 0 0 (σ 25 0 0 + 1)))) T o i2 (t + 1) e2 ht1) (cwV 0 hts gX4_passMinute_X4_followSchedules rfl rfl rfl (by decide +kernel) ⟨Nat.le_of_ble_eq_true rfl, Nat.le_of_ble_eq_true rfl⟩) (w_preV hC hP hS cW_4 rfl) rfl rfl hl.1 rfl (lv_room (Nat.le_of_ble_eq_true rfl)) dX4_passMinute_19 ⟨Nat.le_of_ble_eq_true rfl, Nat.le_of_ble_eq_true rfl⟩) hS (fun ad1 w1 H locs hq hP hS => ?_)
  cases hq
  exact W.vret hx hb hr (fun t ht hW => Qv_of (by rfl) hP hS ht) hS.2.2 dX4_passMinute_22
end
section
/-! what each call asks, and what it does: the codes of its exceptions, its answer, its new memory -/
def bt (x lo hi : Int32) : Prop := lo ≤ x ∧ x ≤ hi
noncomputable def cdPt (n : Nat) (x0 : Int32) : Nat := cod3 (isN n x0) True True
noncomputable def cdCom (g : GC) (x0 x1 : Int32) : Nat := cod3 (isN g.1 x0) (bt x1 1 16) True
noncomputable def cdWri (g : GC) (σ : Me) (x0 x1 x2 : Int32) : Nat := cod3 (isN g.1 x0) (bt x1 1 16 ∧ okV σ (nOf x0) x2) (x1 = 6 → σ 4 (nOf x0) 0 = 0)
noncomputable def cdAdM (g : GC) (x0 : Int32) : Nat := cod3 (bt x0 (-1000) 1000) (g.1 < 16) True
noncomputable def cdAdS (g : GC) (x0 x1 : Int32) : Nat := cod3 (bt x0 0 1 ∧ bt x1 0 1000) (g.1 < 16) True
noncomputable def cdSub (g : GC) (x0 x1 x2 : Int32) : Nat := cod3 (isN g.1 x0) (bt x1 1 2000 ∧ bt x2 1 100000) (g.2.1 < 30)
noncomputable def cdEnd (g : GC) (σ : Me) (x0 : Int32) : Nat := cod3 (isN g.2.1 x0) (σ 11 (nOf x0) 0 = 0) True
noncomputable def cdAdC (g : GC) (x0 x1 : Int32) : Nat := cod3 (isN g.1 x0) (bt x1 7 16) (g.2.2 < 4)
noncomputable def cdEnt (g : GC) (σ : Me) (hi x0 x1 x2 x3 : Int32) : Nat := cod3 (isN g.2.2 x0) (bt x1 0 hi ∧ bt x2 0 1439 ∧ okV σ (nOf (σ 14 (nOf x0) 0)) x3) (nOf (σ 17 (nOf x0) 0) < 20)
noncomputable def cdTel (g : GC) (x0 x1 : Int32) : Nat := cod3 (isN g.2.2 x0) (bt x1 0 1000000) True
noncomputable def cdPas (σ : Me) (x0 : Int32) : Nat := cod3 (bt x0 1 5000) (x0 ≤ 1000000 - σ 25 0 0) True
/-- an entry more: the class keeps it in the list e (as the day dc), the model in its own list (as the day dm) -/
def entC (e : Nat) (dc x v : Int32) (σ : Me) : Me := st3 (st3 (st3 (st3 σ 22 e (nOf (σ 21 e 0)) dc) 23 e (nOf (σ 21 e 0)) x) 24 e (nOf (σ 21 e 0)) v) 21 e 0 (nI (nOf (σ 21 e 0) + 1))
def entM (c : Nat) (dm x v : Int32) (σ : Me) : Me := st3 (st3 (st3 (st3 σ 18 c (nOf (σ 17 c 0)) dm) 19 c (nOf (σ 17 c 0)) x) 20 c (nOf (σ 17 c 0)) v) 17 c 0 (nI (nOf (σ 17 c 0) + 1))
/-- the same cells: the class's don't tell what is the model's alone, nor the other way round -/
theorem cW_c {D : va_G} {ad : Ad} {g : GC} {σ : Me} {T : GC × Me × Int32} {o : Int64} {a i j : Nat} {v : Int32} (ha : a = 17 ∨ a = 18 ∨ a = 19 ∨ a = 20) : cW D ad (g, st3 σ a i j v) T o = cW D ad (g, σ) T o := by
  have e : ∀ b, b < 17 ∨ 20 < b → st3 σ a i j v b = σ b := fun b hb => st3_n (by omega)
  funext f k
  match f with
  | 0 => simp [cW, eEn, e 21]
  | 1 => simp [cW, ePt, e 1, e 2, e 3, e 7, e 4, e 5]
  | 2 => simp [cW, eSc, e 14, e 15, e 16]
  | 3 => simp [cW, eSu, e 8, e 9, e 10, e 13, e 12, e 11]
  | 4 => simp [cW, eBP, e 25, e 26]
  | 5 => simp only [cW]
  | 6 => simp only [cW]
  | 7 => simp only [cW]
  | 8 => simp [cW, e 6]
  | 9 => simp [cW, e 22]
  | 10 => simp [cW, e 23]
  | 11 => simp [cW, e 24]
  | 12 => simp only [cW]
  | n + 13 => simp only [cW]
theorem cW_m {D : va_G} {ad : Ad} {S : GC × Me} {h : GC} {τ : Me} {th : Int32} {o : Int64} {a i j : Nat} {v : Int32} (ha : a = 7 ∨ a = 21 ∨ a = 22 ∨ a = 23 ∨ a = 24) : cW D ad S (h, st3 τ a i j v, th) o = cW D ad S (h, τ, th) o := by
  have e : ∀ b, b ≠ 7 ∧ (b < 21 ∨ 24 < b) → st3 τ a i j v b = τ b := fun b hb => st3_n (by omega)
  funext f k
  match f with
  | 0 => simp only [cW]
  | 1 => simp only [cW]
  | 2 => simp only [cW]
  | 3 => simp only [cW]
  | 4 => simp only [cW]
  | 5 => simp [cW, eMo, e 25, e 26]
  | 6 => simp only [cW]
  | 7 => simp only [cW]
  | 8 => simp only [cW]
  | 9 => simp only [cW]
  | 10 => simp only [cW]
  | 11 => simp only [cW]
  | 12 =>
    show mAr D _ k = mAr D _ k
    match k with
    | 0 => simp [mAr, e 1]
    | 1 => simp [mAr, e 2]
    | 2 => simp [mAr, e 3]
    | 3 => simp [mAr, e 4]
    | 4 => simp [mAr, e 5]
    | 5 => simp [mAr, e 6]
    | 6 => simp [mAr, e 8]
    | 7 => simp [mAr, e 9]
    | 8 => simp [mAr, e 10]
    | 9 => simp [mAr, e 11]
    | 10 => simp [mAr, e 12]
    | 11 => simp [mAr, e 13]
    | 12 => simp [mAr, e 14]
    | 13 => simp [mAr, e 15]
    | 14 => simp [mAr, e 16]
    | 15 => simp [mAr, e 17]
    | 16 => simp [mAr, e 18]
    | 17 => simp [mAr, e 19]
    | 18 => simp [mAr, e 20]
    | n + 19 => rfl
  | n + 13 => simp only [cW]
theorem cW_entM {D : va_G} {ad : Ad} {g : GC} {σ : Me} {T : GC × Me × Int32} {o : Int64} {c : Nat} {dm x v : Int32} : cW D ad (g, entM c dm x v σ) T o = cW D ad (g, σ) T o := by
  unfold entM
  rw [cW_c (by omega), cW_c (by omega), cW_c (by omega), cW_c (by omega)]
theorem cW_entC {D : va_G} {ad : Ad} {S : GC × Me} {h : GC} {τ : Me} {th : Int32} {o : Int64} {e : Nat} {dc x v : Int32} : cW D ad S (h, entC e dc x v τ, th) o = cW D ad S (h, τ, th) o := by
  unfold entC
  rw [cW_m (by omega), cW_m (by omega), cW_m (by omega), cW_m (by omega)]
/-! an entry more keeps what holds -/
theorem nI_inj {a b : Nat} (ha : a < 2 ^ 31) (hb : b < 2 ^ 31) (h : nI a = nI b) : a = b := (nI_eq ha hb).mp h
theorem hasF_new {w w' : Nat → Int32} {d : Int32} {n : Nat} (h : ∀ i, i < n → w' i = w i) : hasF w' d (n + 1) ↔ hasF w d n ∨ w' n = d := by
  constructor
  · rintro ⟨i, h1, h2⟩
    rcases Nat.lt_succ_iff_lt_or_eq.mp h1 with q | q
    · exact Or.inl ⟨i, q, by rw [← h i q]; exact h2⟩
    · exact Or.inr (by rw [← q]; exact h2)
  · rintro (⟨i, h1, h2⟩ | h1)
    · exact ⟨i, by omega, by rw [h i h1]; exact h2⟩
    · exact ⟨n, by omega, h1⟩
theorem latF_same {w m t w' m' t' : Nat → Int32} {d x : Int32} : ∀ n, (∀ i, i < n → w' i = w i ∧ m' i = m i ∧ t' i = t i) → latF w' m' t' d x n = latF w m t d x n
  | 0, h => rfl
  | n + 1, h => by
    obtain ⟨h1, h2, h3⟩ := h n (Nat.lt_succ_self n)
    simp only [latF]
    rw [latF_same n (fun i hi => h i (Nat.lt_succ_of_lt hi)), h1, h2, h3]
theorem upd_lt {f : Nat → Int32} {n i : Nat} {v : Int32} (h : i < n) : upd f n v i = f i := by simp [upd, Nat.ne_of_lt h]
theorem upd_at {f : Nat → Int32} {n : Nat} {v : Int32} : upd f n v n = v := by simp [upd]
theorem latF_new {w m t : Nat → Int32} {d x dn xn v : Int32} (n : Nat) : latF (upd w n dn) (upd m n xn) (upd t n v) d x (n + 1) = if dn = d ∧ xn ≤ x ∧ (latF w m t d x n).1 ≤ xn then (xn, v) else latF w m t d x n := by
  have e := latF_same (w := w) (m := m) (t := t) (w' := upd w n dn) (m' := upd m n xn) (t' := upd t n v) (d := d) (x := x) n (fun i hi => ⟨upd_lt hi, upd_lt hi, upd_lt hi⟩)
  simp only [latF]
  rw [e, upd_at, upd_at, upd_at]
theorem nI_add10 {d d' : Nat} (h1 : d ≤ 1000000) (h2 : d' ≤ 1000000) : (10 + nI d = 10 + nI d') ↔ nI d = nI d' := by
  have e : ∀ q : Nat, (10 : Int32) + nI q = nI (10 + q) := fun q => nI_add 10 q
  rw [e, e, nI_eq (by omega) (by omega), nI_eq (by omega) (by omega)]
  omega
theorem nI_ne10 {d d' : Nat} (h1 : d ≤ 1000000) (h2 : d' < 10) : ¬ (nI d' = 10 + nI d) := by
  rw [show (10 : Int32) + nI d = nI (10 + d) from nI_add 10 d, nI_eq (by omega) (by omega)]
  omega
/-- for a weekday -/
theorem Ie_wee {σ : Me} {c n n1 n2 d : Nat} {x v : Int32} (h : Ie σ c n n1 n2) (hn : nOf (σ 17 c 0) = n) (h1 : nOf (σ 21 (2 * c) 0) = n1) (hd : d < 7) : Ie (entM c (nI d) x v (entC (2 * c) (nI d) x v σ)) c (n + 1) (n1 + 1) n2 := by
  obtain ⟨hA, hB, hC⟩ := h
  have e17 : entC (2 * c) (nI d) x v σ 17 = σ 17 := by unfold entC; rw [st3_n (by decide), st3_n (by decide), st3_n (by decide), st3_n (by decide)]
  have m18 : entM c (nI d) x v (entC (2 * c) (nI d) x v σ) 18 c = upd (σ 18 c) n (nI d) := by
    unfold entM; rw [e17, hn, st3_n (by decide), st3_n (by decide), st3_n (by decide), st3_s]; unfold entC; rw [st3_n (by decide), st3_n (by decide), st3_n (by decide), st3_n (by decide)]
  have m19 : entM c (nI d) x v (entC (2 * c) (nI d) x v σ) 19 c = upd (σ 19 c) n x := by
    unfold entM; rw [e17, hn, st3_n (by decide), st3_n (by decide), st3_s, st3_n (by decide)]; unfold entC; rw [st3_n (by decide), st3_n (by decide), st3_n (by decide), st3_n (by decide)]
  have m20 : entM c (nI d) x v (entC (2 * c) (nI d) x v σ) 20 c = upd (σ 20 c) n v := by
    unfold entM; rw [e17, hn, st3_n (by decide), st3_s, st3_n (by decide), st3_n (by decide)]; unfold entC; rw [st3_n (by decide), st3_n (by decide), st3_n (by decide), st3_n (by decide)]
  have c22 : entM c (nI d) x v (entC (2 * c) (nI d) x v σ) 22 (2 * c) = upd (σ 22 (2 * c)) n1 (nI d) := by
    unfold entM; rw [st3_n (by decide), st3_n (by decide), st3_n (by decide), st3_n (by decide)]; unfold entC; rw [h1, st3_n (by decide), st3_n (by decide), st3_n (by decide), st3_s]
  have c23 : entM c (nI d) x v (entC (2 * c) (nI d) x v σ) 23 (2 * c) = upd (σ 23 (2 * c)) n1 x := by
    unfold entM; rw [st3_n (by decide), st3_n (by decide), st3_n (by decide), st3_n (by decide)]; unfold entC; rw [h1, st3_n (by decide), st3_n (by decide), st3_s, st3_n (by decide)]
  have c24 : entM c (nI d) x v (entC (2 * c) (nI d) x v σ) 24 (2 * c) = upd (σ 24 (2 * c)) n1 v := by
    unfold entM; rw [st3_n (by decide), st3_n (by decide), st3_n (by decide), st3_n (by decide)]; unfold entC; rw [h1, st3_n (by decide), st3_s, st3_n (by decide), st3_n (by decide)]
  have s22 : ∀ a, a = 22 ∨ a = 23 ∨ a = 24 → entM c (nI d) x v (entC (2 * c) (nI d) x v σ) a (2 * c + 1) = σ a (2 * c + 1) := by
    intro a ha
    unfold entM; rw [st3_n (by omega), st3_n (by omega), st3_n (by omega), st3_n (by omega)]; unfold entC; rw [st3_i (by omega), st3_i (by omega), st3_i (by omega), st3_i (by omega)]
  refine ⟨fun q hq => ?_, fun q y hq => ?_, fun q y hq => ?_⟩
  · rw [s22 22 (by omega), m18, hasF_new (w := σ 18 c) (fun i hi => upd_lt hi), upd_at, hA q hq]
    exact ⟨fun z => Or.inl z, fun z => z.elim id (fun z => absurd z (nI_ne10 hq (by omega)))⟩
  · rw [s22 22 (by omega), s22 23 (by omega), s22 24 (by omega), m18, m19, m20, latF_new, if_neg (fun z => nI_ne10 hq (by omega) z.1)]
    exact hB q y hq
  · rw [c22, c23, c24, m18, m19, m20, latF_new, latF_new, hC q y hq]
/-- for a single day -/
theorem Ie_onc {σ : Me} {c n n1 n2 d : Nat} {x v : Int32} (h : Ie σ c n n1 n2) (hn : nOf (σ 17 c 0) = n) (h2 : nOf (σ 21 (2 * c + 1) 0) = n2) (hd : d ≤ 700) : Ie (entM c (10 + nI d) x v (entC (2 * c + 1) (nI d) x v σ)) c (n + 1) n1 (n2 + 1) := by
  obtain ⟨hA, hB, hC⟩ := h
  have e17 : entC (2 * c + 1) (nI d) x v σ 17 = σ 17 := by unfold entC; rw [st3_n (by decide), st3_n (by decide), st3_n (by decide), st3_n (by decide)]
  have m18 : entM c (10 + nI d) x v (entC (2 * c + 1) (nI d) x v σ) 18 c = upd (σ 18 c) n (10 + nI d) := by
    unfold entM; rw [e17, hn, st3_n (by decide), st3_n (by decide), st3_n (by decide), st3_s]; unfold entC; rw [st3_n (by decide), st3_n (by decide), st3_n (by decide), st3_n (by decide)]
  have m19 : entM c (10 + nI d) x v (entC (2 * c + 1) (nI d) x v σ) 19 c = upd (σ 19 c) n x := by
    unfold entM; rw [e17, hn, st3_n (by decide), st3_n (by decide), st3_s, st3_n (by decide)]; unfold entC; rw [st3_n (by decide), st3_n (by decide), st3_n (by decide), st3_n (by decide)]
  have m20 : entM c (10 + nI d) x v (entC (2 * c + 1) (nI d) x v σ) 20 c = upd (σ 20 c) n v := by
    unfold entM; rw [e17, hn, st3_n (by decide), st3_s, st3_n (by decide), st3_n (by decide)]; unfold entC; rw [st3_n (by decide), st3_n (by decide), st3_n (by decide), st3_n (by decide)]
  have c22 : entM c (10 + nI d) x v (entC (2 * c + 1) (nI d) x v σ) 22 (2 * c + 1) = upd (σ 22 (2 * c + 1)) n2 (nI d) := by
    unfold entM; rw [st3_n (by decide), st3_n (by decide), st3_n (by decide), st3_n (by decide)]; unfold entC; rw [h2, st3_n (by decide), st3_n (by decide), st3_n (by decide), st3_s]
  have c23 : entM c (10 + nI d) x v (entC (2 * c + 1) (nI d) x v σ) 23 (2 * c + 1) = upd (σ 23 (2 * c + 1)) n2 x := by
    unfold entM; rw [st3_n (by decide), st3_n (by decide), st3_n (by decide), st3_n (by decide)]; unfold entC; rw [h2, st3_n (by decide), st3_n (by decide), st3_s, st3_n (by decide)]
  have c24 : entM c (10 + nI d) x v (entC (2 * c + 1) (nI d) x v σ) 24 (2 * c + 1) = upd (σ 24 (2 * c + 1)) n2 v := by
    unfold entM; rw [st3_n (by decide), st3_n (by decide), st3_n (by decide), st3_n (by decide)]; unfold entC; rw [h2, st3_n (by decide), st3_s, st3_n (by decide), st3_n (by decide)]
  have s22 : ∀ a, a = 22 ∨ a = 23 ∨ a = 24 → entM c (10 + nI d) x v (entC (2 * c + 1) (nI d) x v σ) a (2 * c) = σ a (2 * c) := by
    intro a ha
    unfold entM; rw [st3_n (by omega), st3_n (by omega), st3_n (by omega), st3_n (by omega)]; unfold entC; rw [st3_i (by omega), st3_i (by omega), st3_i (by omega), st3_i (by omega)]
  refine ⟨fun q hq => ?_, fun q y hq => ?_, fun q y hq => ?_⟩
  · rw [c22, m18, hasF_new (w := σ 18 c) (fun i hi => upd_lt hi), hasF_new (w := σ 22 (2 * c + 1)) (fun i hi => upd_lt hi), upd_at, upd_at, hA q hq, nI_add10 (by omega) hq]
  · rw [c22, c23, c24, m18, m19, m20, latF_new, latF_new, hB q y hq]
    simp only [nI_add10 (show d ≤ 1000000 by omega) hq]
  · rw [s22 22 (by omega), s22 23 (by omega), s22 24 (by omega), m18, m19, m20, latF_new, if_neg (fun z => nI_ne10 (by omega) (by omega) z.1.symm)]
    exact hC q y hq
theorem entM_n {c a : Nat} {dm x v : Int32} {σ : Me} (h17 : a ≠ 17) (h18 : a ≠ 18) (h19 : a ≠ 19) (h20 : a ≠ 20) : entM c dm x v σ a = σ a := by
  unfold entM; rw [st3_n h17, st3_n h20, st3_n h19, st3_n h18]
theorem entC_n {e a : Nat} {dc x v : Int32} {σ : Me} (h21 : a ≠ 21) (h22 : a ≠ 22) (h23 : a ≠ 23) (h24 : a ≠ 24) : entC e dc x v σ a = σ a := by
  unfold entC; rw [st3_n h21, st3_n h24, st3_n h23, st3_n h22]
theorem entM_i {c i a : Nat} {dm x v : Int32} {σ : Me} (h : i ≠ c) : entM c dm x v σ a i = σ a i := by
  unfold entM; rw [st3_i h, st3_i h, st3_i h, st3_i h]
theorem entC_i {e i a : Nat} {dc x v : Int32} {σ : Me} (h : i ≠ e) : entC e dc x v σ a i = σ a i := by
  unfold entC; rw [st3_i h, st3_i h, st3_i h, st3_i h]
theorem Ib_ent {g : GC} {σ : Me} {c e : Nat} {dm dc x v : Int32} (h : Ib g σ) (hc : c < g.2.2) (he : e = 2 * c ∨ e = 2 * c + 1) (hv : okV σ (nOf (σ 14 c 0)) v)
    (hE : ∀ n n1 n2, σ 17 c 0 = nI n → σ 21 (2 * c) 0 = nI n1 → σ 21 (2 * c + 1) 0 = nI n2 → n ≤ 20 → n1 ≤ 20 → n2 ≤ 20 → Ie σ c n n1 n2 → Ie (entM c dm x v (entC e dc x v σ)) c (n + 1) (if e = 2 * c then n1 + 1 else n1) (if e = 2 * c then n2 else n2 + 1)) (h20 : nOf (σ 17 c 0) < 20) : Ib g (entM c dm x v (entC e dc x v σ)) := by
  obtain ⟨h1, h2, h3, h4, h5, h6⟩ := h
  have fr : ∀ a, a ≠ 17 → a ≠ 18 → a ≠ 19 → a ≠ 20 → a ≠ 21 → a ≠ 22 → a ≠ 23 → a ≠ 24 → entM c dm x v (entC e dc x v σ) a = σ a := fun a q1 q2 q3 q4 q5 q6 q7 q8 => by rw [entM_n q1 q2 q3 q4, entC_n q5 q6 q7 q8]
  refine ⟨h1, h2, h3, fun k hk => ?_, Is_to h5 (fr _ (by decide) (by decide) (by decide) (by decide) (by decide) (by decide) (by decide) (by decide)) (fr _ (by decide) (by decide) (by decide) (by decide) (by decide) (by decide) (by decide) (by decide)) (fr _ (by decide) (by decide) (by decide) (by decide) (by decide) (by decide) (by decide) (by decide)), fun k hk => ?_⟩
  · obtain ⟨q1, q2, q3, q4, q5⟩ := h4 k hk
    have e1 := fr 1 (by decide) (by decide) (by decide) (by decide) (by decide) (by decide) (by decide) (by decide)
    rw [vaO_eq, e1, fr 2 (by decide) (by decide) (by decide) (by decide) (by decide) (by decide) (by decide) (by decide), fr 3 (by decide) (by decide) (by decide) (by decide) (by decide) (by decide) (by decide) (by decide), fr 6 (by decide) (by decide) (by decide) (by decide) (by decide) (by decide) (by decide) (by decide), fr 7 (by decide) (by decide) (by decide) (by decide) (by decide) (by decide) (by decide) (by decide)]
    exact ⟨q1, inP_to q2 e1, q3, fun z hz => okV_to (q4 z hz) e1, q5⟩
  · obtain ⟨i, j, n, n1, n2, q1, q2, q3, q4, q5, q6, q7, q8, q9, q10, q11, q12⟩ := h6 k hk
    have e1 := fr 1 (by decide) (by decide) (by decide) (by decide) (by decide) (by decide) (by decide) (by decide)
    rw [fr 14 (by decide) (by decide) (by decide) (by decide) (by decide) (by decide) (by decide) (by decide), fr 15 (by decide) (by decide) (by decide) (by decide) (by decide) (by decide) (by decide) (by decide)]
    by_cases hkc : k = c
    · subst hkc
      have en : nOf (σ 17 k 0) = n := by rw [q6]; exact nI_clamp (by omega)
      have e14 : nOf (σ 14 k 0) = i := by rw [q2]; exact nI_clamp (by omega)
      rw [en] at h20
      rw [e14] at hv
      have hE' := hE n n1 n2 q6 q7 q8 q10 (by omega) (by omega) q12
      have d17 : entC e dc x v σ 17 = σ 17 := entC_n (by decide) (by decide) (by decide) (by decide)
      have a17 : entM k dm x v (entC e dc x v σ) 17 k 0 = nI (n + 1) := by unfold entM; rw [d17, en, st3_v]
      have a20 : entM k dm x v (entC e dc x v σ) 20 k = upd (σ 20 k) n v := by unfold entM; rw [d17, en, st3_n (by decide), st3_s, st3_n (by decide), st3_n (by decide), entC_n (by decide) (by decide) (by decide) (by decide)]
      refine ⟨i, j, n + 1, (if e = 2 * k then n1 + 1 else n1), (if e = 2 * k then n2 else n2 + 1), q1, q2, q3, q4, q5, a17, ?_, ?_, ?_, by omega, ?_, hE'⟩
      · rw [entM_n (by decide) (by decide) (by decide) (by decide)]
        by_cases z : e = 2 * k
        · rw [if_pos z]; subst z; unfold entC; rw [st3_v, q7, show nOf (nI n1) = n1 from nI_clamp (by omega)]
        · rw [if_neg z, entC_i (by omega)]; exact q7
      · rw [entM_n (by decide) (by decide) (by decide) (by decide)]
        by_cases z : e = 2 * k
        · rw [if_pos z, entC_i (by omega)]; exact q8
        · rw [if_neg z]
          have z2 : e = 2 * k + 1 := by omega
          subst z2; unfold entC; rw [st3_v, q8, show nOf (nI n2) = n2 from nI_clamp (by omega)]
      · split <;> omega
      · intro q hq
        rw [a20]
        rcases Nat.lt_succ_iff_lt_or_eq.mp hq with z | z
        · rw [upd_lt z]; exact okV_to (q11 q z) e1
        · subst z; rw [upd_at]; exact okV_to hv e1
    · have f1 : ∀ a, entM c dm x v (entC e dc x v σ) a k = entC e dc x v σ a k := fun a => entM_i hkc
      have f2 : ∀ a, a = 21 ∨ a = 22 ∨ a = 23 ∨ a = 24 → ∀ i, i = 2 * k ∨ i = 2 * k + 1 → entM c dm x v (entC e dc x v σ) a i = σ a i := fun a ha i hi => by rw [entM_n (by omega) (by omega) (by omega) (by omega), entC_i (by omega)]
      have f3 : ∀ a, a = 17 ∨ a = 18 ∨ a = 19 ∨ a = 20 → entM c dm x v (entC e dc x v σ) a k = σ a k := fun a ha => by rw [f1, entC_n (by omega) (by omega) (by omega) (by omega)]
      rw [f3 17 (by omega), f3 20 (by omega), f2 21 (by omega) _ (Or.inl rfl), f2 21 (by omega) _ (Or.inr rfl)]
      refine ⟨i, j, n, n1, n2, q1, q2, q3, q4, q5, q6, q7, q8, q9, q10, fun q hq => okV_to (q11 q hq) e1, ?_⟩
      unfold Ie
      rw [f3 18 (by omega), f3 19 (by omega), f3 20 (by omega), f2 22 (by omega) _ (Or.inl rfl), f2 22 (by omega) _ (Or.inr rfl), f2 23 (by omega) _ (Or.inl rfl), f2 23 (by omega) _ (Or.inr rfl), f2 24 (by omega) _ (Or.inl rfl), f2 24 (by omega) _ (Or.inr rfl)]
      exact q12
end
section
set_option maxRecDepth 20000 in
theorem wsL_law0_r1_in : ∀ w ∈ wsL_law0_r1, w ∈ lw_tbl := fun w h => (goodIn_p wsL_law0_r1 [44, 47, 546] (by decide +kernel) (by decide +kernel) w h).1
set_option maxRecDepth 20000 in
theorem wsL_law0_r2_in : ∀ w ∈ wsL_law0_r2, w ∈ lw_tbl := fun w h => (goodIn_p wsL_law0_r2 [] (by decide +kernel) (by decide +kernel) w h).1
set_option maxRecDepth 20000 in
theorem wsL_law0_r3_in : ∀ w ∈ wsL_law0_r3, w ∈ lw_tbl := fun w h => (goodIn_p wsL_law0_r3 [91, 94, 165, 185] (by decide +kernel) (by decide +kernel) w h).1
set_option maxRecDepth 20000 in
theorem wsL_law0_r4_in : ∀ w ∈ wsL_law0_r4, w ∈ lw_tbl := fun w h => (goodIn_p wsL_law0_r4 [190, 632, 635, 639] (by decide +kernel) (by decide +kernel) w h).1
set_option maxRecDepth 20000 in
theorem wsL_law0_r5_in : ∀ w ∈ wsL_law0_r5, w ∈ lw_tbl := fun w h => (goodIn_p wsL_law0_r5 [643, 628, 228, 648] (by decide +kernel) (by decide +kernel) w h).1
set_option maxRecDepth 20000 in
theorem wsL_law0_r6_in : ∀ w ∈ wsL_law0_r6, w ∈ lw_tbl := fun w h => (goodIn_p wsL_law0_r6 [236, 240, 259, 264, 269] (by decide +kernel) (by decide +kernel) w h).1
set_option maxRecDepth 20000 in
theorem wsL_law0_r7_in : ∀ w ∈ wsL_law0_r7, w ∈ lw_tbl := fun w h => (goodIn_p wsL_law0_r7 [274, 278, 282, 286, 290] (by decide +kernel) (by decide +kernel) w h).1
set_option maxRecDepth 20000 in
theorem wsL_law0_r8_in : ∀ w ∈ wsL_law0_r8, w ∈ lw_tbl := fun w h => (goodIn_p wsL_law0_r8 [294, 297, 301, 652] (by decide +kernel) (by decide +kernel) w h).1
set_option maxRecDepth 20000 in
theorem wsL_law0_r9_in : ∀ w ∈ wsL_law0_r9, w ∈ lw_tbl := fun w h => (goodIn_p wsL_law0_r9 [656, 660, 664, 668, 672, 676] (by decide +kernel) (by decide +kernel) w h).1
set_option maxRecDepth 20000 in
theorem wsL_law0_r10_in : ∀ w ∈ wsL_law0_r10, w ∈ lw_tbl := fun w h => (goodIn_p wsL_law0_r10 [308, 680, 315, 684] (by decide +kernel) (by decide +kernel) w h).1
set_option maxRecDepth 20000 in
theorem wsL_law0_r11_in : ∀ w ∈ wsL_law0_r11, w ∈ lw_tbl := fun w h => (goodIn_p wsL_law0_r11 [322, 688, 330, 692] (by decide +kernel) (by decide +kernel) w h).1
set_option maxRecDepth 20000 in
theorem wsL_law0_r12_in : ∀ w ∈ wsL_law0_r12, w ∈ lw_tbl := fun w h => (goodIn_p wsL_law0_r12 [337, 696, 344, 349] (by decide +kernel) (by decide +kernel) w h).1
set_option maxRecDepth 20000 in
theorem wsL_law0_r13_in : ∀ w ∈ wsL_law0_r13, w ∈ lw_tbl := fun w h => (goodIn_p wsL_law0_r13 [700, 381, 385, 705] (by decide +kernel) (by decide +kernel) w h).1
set_option maxRecDepth 20000 in
theorem wsL_law0_r14_in : ∀ w ∈ wsL_law0_r14, w ∈ lw_tbl := fun w h => (goodIn_p wsL_law0_r14 [709, 394, 713, 401] (by decide +kernel) (by decide +kernel) w h).1
set_option maxRecDepth 20000 in
theorem wsL_law0_r15_in : ∀ w ∈ wsL_law0_r15, w ∈ lw_tbl := fun w h => (goodIn_p wsL_law0_r15 [717, 408, 721, 415] (by decide +kernel) (by decide +kernel) w h).1
set_option maxRecDepth 20000 in
theorem wsL_law0_r16_in : ∀ w ∈ wsL_law0_r16, w ∈ lw_tbl := fun w h => (goodIn_p wsL_law0_r16 [419, 425] (by decide +kernel) (by decide +kernel) w h).1
set_option maxRecDepth 20000 in
theorem wsL_law0_r17_in : ∀ w ∈ wsL_law0_r17, w ∈ lw_tbl := fun w h => (goodIn_p wsL_law0_r17 [725, 469, 473, 477, 481] (by decide +kernel) (by decide +kernel) w h).1
set_option maxRecDepth 20000 in
theorem wsL_law0_r18_in : ∀ w ∈ wsL_law0_r18, w ∈ lw_tbl := fun w h => (goodIn_p wsL_law0_r18 [485, 489, 493, 497, 501] (by decide +kernel) (by decide +kernel) w h).1
set_option maxRecDepth 20000 in
theorem wsL_law0_r19_in : ∀ w ∈ wsL_law0_r19, w ∈ lw_tbl := fun w h => (goodIn_p wsL_law0_r19 [729, 733, 737, 741, 745] (by decide +kernel) (by decide +kernel) w h).1
set_option maxRecDepth 20000 in
theorem wsL_law0_r20_in : ∀ w ∈ wsL_law0_r20, w ∈ lw_tbl := fun w h => (goodIn_p wsL_law0_r20 [509, 749, 516, 753] (by decide +kernel) (by decide +kernel) w h).1
set_option maxRecDepth 20000 in
theorem wsL_law0_r21_in : ∀ w ∈ wsL_law0_r21, w ∈ lw_tbl := fun w h => (goodIn_p wsL_law0_r21 [524, 529, 533, 537, 541, 758] (by decide +kernel) (by decide +kernel) w h).1
set_option maxRecDepth 20000 in
theorem wsL_law0_r22_in : ∀ w ∈ wsL_law0_r22, w ∈ lw_tbl := fun w h => (goodIn_p wsL_law0_r22 [762, 82, 766] (by decide +kernel) (by decide +kernel) w h).1
set_option maxRecDepth 20000 in
theorem wsX40_in0 : ∀ w ∈ wsX40, w ∈ lw_tbl := by decide +kernel
set_option maxRecDepth 20000 in
theorem wsX50_in0 : ∀ w ∈ wsX50, w ∈ lw_tbl := by decide +kernel
set_option maxRecDepth 20000 in
theorem wsX10_in0 : ∀ w ∈ wsX10, w ∈ lw_tbl := by decide +kernel
set_option maxRecDepth 20000 in
theorem wsX30_in0 : ∀ w ∈ wsX30, w ∈ lw_tbl := by decide +kernel
set_option maxRecDepth 20000 in
theorem wsX20_in0 : ∀ w ∈ wsX20, w ∈ lw_tbl := by decide +kernel
set_option maxRecDepth 20000 in
theorem wsX00_in0 : ∀ w ∈ wsX00, w ∈ lw_tbl := by decide +kernel
theorem wsL_law_in0 : ∀ w ∈ wsL_law0, w ∈ lw_tbl := fun w h => by
  unfold wsL_law0 at h
  refine (List.mem_append.mp h).elim (fun h => ?_) (fun h => absurd h List.not_mem_nil)
  refine (List.mem_append.mp h).elim (fun h => ?_) (wsX00_in0 w)
  refine (List.mem_append.mp h).elim (fun h => ?_) (wsX20_in0 w)
  refine (List.mem_append.mp h).elim (fun h => ?_) (wsX30_in0 w)
  refine (List.mem_append.mp h).elim (fun h => ?_) (wsX10_in0 w)
  refine (List.mem_append.mp h).elim (fun h => ?_) (wsX50_in0 w)
  refine (List.mem_append.mp h).elim (fun h => ?_) (wsX40_in0 w)
  refine (List.mem_append.mp h).elim (wsL_law0_r1_in w) (fun h => ?_)
  refine (List.mem_append.mp h).elim (wsL_law0_r2_in w) (fun h => ?_)
  refine (List.mem_append.mp h).elim (wsL_law0_r3_in w) (fun h => ?_)
  refine (List.mem_append.mp h).elim (wsL_law0_r4_in w) (fun h => ?_)
  refine (List.mem_append.mp h).elim (wsL_law0_r5_in w) (fun h => ?_)
  refine (List.mem_append.mp h).elim (wsL_law0_r6_in w) (fun h => ?_)
  refine (List.mem_append.mp h).elim (wsL_law0_r7_in w) (fun h => ?_)
  refine (List.mem_append.mp h).elim (wsL_law0_r8_in w) (fun h => ?_)
  refine (List.mem_append.mp h).elim (wsL_law0_r9_in w) (fun h => ?_)
  refine (List.mem_append.mp h).elim (wsL_law0_r10_in w) (fun h => ?_)
  refine (List.mem_append.mp h).elim (wsL_law0_r11_in w) (fun h => ?_)
  refine (List.mem_append.mp h).elim (wsL_law0_r12_in w) (fun h => ?_)
  refine (List.mem_append.mp h).elim (wsL_law0_r13_in w) (fun h => ?_)
  refine (List.mem_append.mp h).elim (wsL_law0_r14_in w) (fun h => ?_)
  refine (List.mem_append.mp h).elim (wsL_law0_r15_in w) (fun h => ?_)
  refine (List.mem_append.mp h).elim (wsL_law0_r16_in w) (fun h => ?_)
  refine (List.mem_append.mp h).elim (wsL_law0_r17_in w) (fun h => ?_)
  refine (List.mem_append.mp h).elim (wsL_law0_r18_in w) (fun h => ?_)
  refine (List.mem_append.mp h).elim (wsL_law0_r19_in w) (fun h => ?_)
  refine (List.mem_append.mp h).elim (wsL_law0_r20_in w) (fun h => ?_)
  refine (List.mem_append.mp h).elim (wsL_law0_r21_in w) (fun h => ?_)
  exact wsL_law0_r22_in w h
theorem wsL_law_x0 : ∀ w ∈ (vx_atS RX4 156 "java/lang/IllegalArgumentException" ["java/lang/RuntimeException", "java/lang/Exception"]).filter goodWord, w ∈ lw_tbl := by decide +kernel
theorem wsL_law_x1 : ∀ w ∈ (vx_atS RX4 58 "java/lang/IllegalStateException" ["java/lang/RuntimeException", "java/lang/Exception"]).filter goodWord, w ∈ lw_tbl := by decide +kernel
theorem wsL_law_x2 : ∀ w ∈ (vx_atS RX4 177 "java/lang/IndexOutOfBoundsException" ["java/lang/RuntimeException", "java/lang/Exception"]).filter goodWord, w ∈ lw_tbl := by decide +kernel
theorem wsL_law_in : ∀ w ∈ wsL_law, w ∈ lw_tbl := fun w h => (List.mem_append.mp h).elim (fun h => (List.mem_append.mp h).elim (fun h => (List.mem_append.mp h).elim (fun h => wsL_law_in0 w h) (fun h => wsL_law_x0 w h)) (fun h => wsL_law_x1 w h)) (fun h => wsL_law_x2 w h)
theorem inlX0 : ∀ w ∈ wsX00, w ∈ wsL_law := fun _ h => List.mem_append_left _ (List.mem_append_left _ (List.mem_append_left _ (List.mem_append_left _ (List.mem_append_right _ h))))
theorem inX0 : ∀ w ∈ wsX00, w ∈ lw_tbl := fun w h => wsL_law_in w (inlX0 w h)
theorem inlX1 : ∀ w ∈ wsX10, w ∈ wsL_law := fun _ h => List.mem_append_left _ (List.mem_append_left _ (List.mem_append_left _ (List.mem_append_left _ (List.mem_append_left _ (List.mem_append_left _ (List.mem_append_left _ (List.mem_append_right _ h)))))))
theorem inX1 : ∀ w ∈ wsX10, w ∈ lw_tbl := fun w h => wsL_law_in w (inlX1 w h)
theorem inlX2 : ∀ w ∈ wsX20, w ∈ wsL_law := fun _ h => List.mem_append_left _ (List.mem_append_left _ (List.mem_append_left _ (List.mem_append_left _ (List.mem_append_left _ (List.mem_append_right _ h)))))
theorem inX2 : ∀ w ∈ wsX20, w ∈ lw_tbl := fun w h => wsL_law_in w (inlX2 w h)
theorem inlX3 : ∀ w ∈ wsX30, w ∈ wsL_law := fun _ h => List.mem_append_left _ (List.mem_append_left _ (List.mem_append_left _ (List.mem_append_left _ (List.mem_append_left _ (List.mem_append_left _ (List.mem_append_right _ h))))))
theorem inX3 : ∀ w ∈ wsX30, w ∈ lw_tbl := fun w h => wsL_law_in w (inlX3 w h)
theorem inlX4 : ∀ w ∈ wsX40, w ∈ wsL_law := fun _ h => List.mem_append_left _ (List.mem_append_left _ (List.mem_append_left _ (List.mem_append_left _ (List.mem_append_left _ (List.mem_append_left _ (List.mem_append_left _ (List.mem_append_left _ (List.mem_append_left _ (List.mem_append_right _ h)))))))))
theorem inX4 : ∀ w ∈ wsX40, w ∈ lw_tbl := fun w h => wsL_law_in w (inlX4 w h)
theorem inlX5 : ∀ w ∈ wsX50, w ∈ wsL_law := fun _ h => List.mem_append_left _ (List.mem_append_left _ (List.mem_append_left _ (List.mem_append_left _ (List.mem_append_left _ (List.mem_append_left _ (List.mem_append_left _ (List.mem_append_left _ (List.mem_append_right _ h))))))))
theorem inX5 : ∀ w ∈ wsX50, w ∈ lw_tbl := fun w h => wsL_law_in w (inlX5 w h)
theorem inJx145de : ∀ w ∈ wsJx145de0, w ∈ lw_tbl := by decide +kernel
theorem inJ9 : ∀ w ∈ wsJ90, w ∈ lw_tbl := by decide +kernel
theorem inJ0 : ∀ w ∈ wsJ00, w ∈ lw_tbl := by decide +kernel
theorem inJ7 : ∀ w ∈ wsJ70, w ∈ lw_tbl := by decide +kernel
end
section
theorem dL_law_0 : decode cL_law 0 = .ok (.new 8, 3) := by decide +kernel
theorem dL_law_3 : decode cL_law 3 = .ok (.dup, 1) := by decide +kernel
theorem dL_law_4 : decode cL_law 4 = .ok (.invokespecial 75, 3) := by decide +kernel
theorem dL_law_7 : decode cL_law 7 = .ok (.astore_n 1, 1) := by decide +kernel
theorem dL_law_8 : decode cL_law 8 = .ok (.new 76, 3) := by decide +kernel
theorem dL_law_11 : decode cL_law 11 = .ok (.dup, 1) := by decide +kernel
theorem dL_law_12 : decode cL_law 12 = .ok (.invokespecial 78, 3) := by decide +kernel
theorem dL_law_15 : decode cL_law 15 = .ok (.astore_n 2, 1) := by decide +kernel
theorem dL_law_16 : decode cL_law 16 = .ok (.iconst 1, 1) := by decide +kernel
theorem dL_law_17 : decode cL_law 17 = .ok (.newarray .long, 2) := by decide +kernel
theorem dL_law_19 : decode cL_law 19 = .ok (.astore_n 3, 1) := by decide +kernel
theorem dL_law_20 : decode cL_law 20 = .ok (.iconst 0, 1) := by decide +kernel
theorem dL_law_21 : decode cL_law 21 = .ok (.istore 4, 2) := by decide +kernel
theorem dL_law_23 : decode cL_law 23 = .ok (.iload 4, 2) := by decide +kernel
theorem dL_law_25 : decode cL_law 25 = .ok (.aload_n 0, 1) := by decide +kernel
theorem dL_law_26 : decode cL_law 26 = .ok (.arraylength, 1) := by decide +kernel
theorem dL_law_27 : decode cL_law 27 = .ok (.iconst 5, 1) := by decide +kernel
theorem dL_law_28 : decode cL_law 28 = .ok (.isub, 1) := by decide +kernel
theorem dL_law_29 : decode cL_law 29 = .ok (.if_icmp .gt 1281, 3) := by decide +kernel
theorem dL_law_32 : decode cL_law 32 = .ok (.aload_n 0, 1) := by decide +kernel
theorem dL_law_33 : decode cL_law 33 = .ok (.iload 4, 2) := by decide +kernel
theorem dL_law_35 : decode cL_law 35 = .ok (.iaload, 1) := by decide +kernel
theorem dL_law_36 : decode cL_law 36 = .ok (.bipush 31, 2) := by decide +kernel
theorem dL_law_38 : decode cL_law 38 = .ok (.iand, 1) := by decide +kernel
theorem dL_law_39 : decode cL_law 39 = .ok (.tableswitch 1265 0 18 #[89, 145, 213, 293, 349, 417, 473, 529, 585, 665, 701, 764, 820, 876, 944, 1036, 1128, 1196, 1252], 89) := by decide +kernel
theorem dL_law_128 : decode cL_law 128 = .ok (.aload_n 1, 1) := by decide +kernel
theorem dL_law_129 : decode cL_law 129 = .ok (.aload_n 0, 1) := by decide +kernel
theorem dL_law_130 : decode cL_law 130 = .ok (.iload 4, 2) := by decide +kernel
theorem dL_law_132 : decode cL_law 132 = .ok (.iconst 1, 1) := by decide +kernel
theorem dL_law_133 : decode cL_law 133 = .ok (.iadd, 1) := by decide +kernel
theorem dL_law_134 : decode cL_law 134 = .ok (.iaload, 1) := by decide +kernel
theorem dL_law_135 : decode cL_law 135 = .ok (.aload_n 3, 1) := by decide +kernel
theorem dL_law_136 : decode cL_law 136 = .ok (.invokestatic 79, 3) := by decide +kernel
theorem dL_law_139 : decode cL_law 139 = .ok (.istore 5, 2) := by decide +kernel
theorem dL_law_141 : decode cL_law 141 = .ok (.aload_n 2, 1) := by decide +kernel
theorem dL_law_142 : decode cL_law 142 = .ok (.aload_n 0, 1) := by decide +kernel
theorem dL_law_143 : decode cL_law 143 = .ok (.iload 4, 2) := by decide +kernel
theorem dL_law_145 : decode cL_law 145 = .ok (.iconst 1, 1) := by decide +kernel
theorem dL_law_146 : decode cL_law 146 = .ok (.iadd, 1) := by decide +kernel
theorem dL_law_147 : decode cL_law 147 = .ok (.iaload, 1) := by decide +kernel
theorem dL_law_148 : decode cL_law 148 = .ok (.invokevirtual 84, 3) := by decide +kernel
theorem dL_law_151 : decode cL_law 151 = .ok (.istore 6, 2) := by decide +kernel
theorem dL_law_153 : decode cL_law 153 = .ok (.aload_n 2, 1) := by decide +kernel
theorem dL_law_154 : decode cL_law 154 = .ok (.invokevirtual 85, 3) := by decide +kernel
theorem dL_law_157 : decode cL_law 157 = .ok (.iload 5, 2) := by decide +kernel
theorem dL_law_159 : decode cL_law 159 = .ok (.if_icmp .eq 5, 3) := by decide +kernel
theorem dL_law_162 : decode cL_law 162 = .ok (.iconst 0, 1) := by decide +kernel
theorem dL_law_163 : decode cL_law 163 = .ok (.ireturn, 1) := by decide +kernel
theorem dL_law_164 : decode cL_law 164 = .ok (.iload 5, 2) := by decide +kernel
theorem dL_law_166 : decode cL_law 166 = .ok (.ifCond .ne 15, 3) := by decide +kernel
theorem dL_law_169 : decode cL_law 169 = .ok (.aload_n 3, 1) := by decide +kernel
theorem dL_law_170 : decode cL_law 170 = .ok (.iconst 0, 1) := by decide +kernel
theorem dL_law_171 : decode cL_law 171 = .ok (.laload, 1) := by decide +kernel
theorem dL_law_172 : decode cL_law 172 = .ok (.iload 6, 2) := by decide +kernel
theorem dL_law_174 : decode cL_law 174 = .ok (.i2l, 1) := by decide +kernel
theorem dL_law_175 : decode cL_law 175 = .ok (.lcmp, 1) := by decide +kernel
theorem dL_law_176 : decode cL_law 176 = .ok (.ifCond .eq 5, 3) := by decide +kernel
theorem dL_law_179 : decode cL_law 179 = .ok (.iconst 0, 1) := by decide +kernel
theorem dL_law_180 : decode cL_law 180 = .ok (.ireturn, 1) := by decide +kernel
theorem dL_law_181 : decode cL_law 181 = .ok (.goto 1123, 3) := by decide +kernel
theorem dL_law_184 : decode cL_law 184 = .ok (.aload_n 1, 1) := by decide +kernel
theorem dL_law_185 : decode cL_law 185 = .ok (.aload_n 0, 1) := by decide +kernel
theorem dL_law_186 : decode cL_law 186 = .ok (.iload 4, 2) := by decide +kernel
theorem dL_law_188 : decode cL_law 188 = .ok (.iconst 1, 1) := by decide +kernel
theorem dL_law_189 : decode cL_law 189 = .ok (.iadd, 1) := by decide +kernel
theorem dL_law_190 : decode cL_law 190 = .ok (.iaload, 1) := by decide +kernel
theorem dL_law_191 : decode cL_law 191 = .ok (.aload_n 0, 1) := by decide +kernel
theorem dL_law_192 : decode cL_law 192 = .ok (.iload 4, 2) := by decide +kernel
theorem dL_law_194 : decode cL_law 194 = .ok (.iconst 2, 1) := by decide +kernel
theorem dL_law_195 : decode cL_law 195 = .ok (.iadd, 1) := by decide +kernel
theorem dL_law_196 : decode cL_law 196 = .ok (.iaload, 1) := by decide +kernel
theorem dL_law_197 : decode cL_law 197 = .ok (.aload_n 3, 1) := by decide +kernel
theorem dL_law_198 : decode cL_law 198 = .ok (.invokestatic 89, 3) := by decide +kernel
theorem dL_law_201 : decode cL_law 201 = .ok (.istore 5, 2) := by decide +kernel
theorem dL_law_203 : decode cL_law 203 = .ok (.aload_n 2, 1) := by decide +kernel
theorem dL_law_204 : decode cL_law 204 = .ok (.aload_n 0, 1) := by decide +kernel
theorem dL_law_205 : decode cL_law 205 = .ok (.iload 4, 2) := by decide +kernel
theorem dL_law_207 : decode cL_law 207 = .ok (.iconst 1, 1) := by decide +kernel
theorem dL_law_208 : decode cL_law 208 = .ok (.iadd, 1) := by decide +kernel
theorem dL_law_209 : decode cL_law 209 = .ok (.iaload, 1) := by decide +kernel
theorem dL_law_210 : decode cL_law 210 = .ok (.aload_n 0, 1) := by decide +kernel
theorem dL_law_211 : decode cL_law 211 = .ok (.iload 4, 2) := by decide +kernel
theorem dL_law_213 : decode cL_law 213 = .ok (.iconst 2, 1) := by decide +kernel
theorem dL_law_214 : decode cL_law 214 = .ok (.iadd, 1) := by decide +kernel
theorem dL_law_215 : decode cL_law 215 = .ok (.iaload, 1) := by decide +kernel
theorem dL_law_216 : decode cL_law 216 = .ok (.invokevirtual 92, 3) := by decide +kernel
theorem dL_law_219 : decode cL_law 219 = .ok (.istore 6, 2) := by decide +kernel
theorem dL_law_221 : decode cL_law 221 = .ok (.aload_n 2, 1) := by decide +kernel
theorem dL_law_222 : decode cL_law 222 = .ok (.invokevirtual 85, 3) := by decide +kernel
theorem dL_law_225 : decode cL_law 225 = .ok (.iload 5, 2) := by decide +kernel
theorem dL_law_227 : decode cL_law 227 = .ok (.if_icmp .eq 5, 3) := by decide +kernel
theorem dL_law_230 : decode cL_law 230 = .ok (.iconst 0, 1) := by decide +kernel
theorem dL_law_231 : decode cL_law 231 = .ok (.ireturn, 1) := by decide +kernel
theorem dL_law_232 : decode cL_law 232 = .ok (.iload 5, 2) := by decide +kernel
theorem dL_law_234 : decode cL_law 234 = .ok (.ifCond .ne 15, 3) := by decide +kernel
theorem dL_law_237 : decode cL_law 237 = .ok (.aload_n 3, 1) := by decide +kernel
theorem dL_law_238 : decode cL_law 238 = .ok (.iconst 0, 1) := by decide +kernel
theorem dL_law_239 : decode cL_law 239 = .ok (.laload, 1) := by decide +kernel
theorem dL_law_240 : decode cL_law 240 = .ok (.iload 6, 2) := by decide +kernel
theorem dL_law_242 : decode cL_law 242 = .ok (.i2l, 1) := by decide +kernel
theorem dL_law_243 : decode cL_law 243 = .ok (.lcmp, 1) := by decide +kernel
theorem dL_law_244 : decode cL_law 244 = .ok (.ifCond .eq 5, 3) := by decide +kernel
theorem dL_law_247 : decode cL_law 247 = .ok (.iconst 0, 1) := by decide +kernel
theorem dL_law_248 : decode cL_law 248 = .ok (.ireturn, 1) := by decide +kernel
theorem dL_law_249 : decode cL_law 249 = .ok (.goto 1055, 3) := by decide +kernel
theorem dL_law_252 : decode cL_law 252 = .ok (.aload_n 1, 1) := by decide +kernel
theorem dL_law_253 : decode cL_law 253 = .ok (.aload_n 0, 1) := by decide +kernel
theorem dL_law_254 : decode cL_law 254 = .ok (.iload 4, 2) := by decide +kernel
theorem dL_law_256 : decode cL_law 256 = .ok (.iconst 1, 1) := by decide +kernel
theorem dL_law_257 : decode cL_law 257 = .ok (.iadd, 1) := by decide +kernel
theorem dL_law_258 : decode cL_law 258 = .ok (.iaload, 1) := by decide +kernel
theorem dL_law_259 : decode cL_law 259 = .ok (.aload_n 0, 1) := by decide +kernel
theorem dL_law_260 : decode cL_law 260 = .ok (.iload 4, 2) := by decide +kernel
theorem dL_law_262 : decode cL_law 262 = .ok (.iconst 2, 1) := by decide +kernel
theorem dL_law_263 : decode cL_law 263 = .ok (.iadd, 1) := by decide +kernel
theorem dL_law_264 : decode cL_law 264 = .ok (.iaload, 1) := by decide +kernel
theorem dL_law_265 : decode cL_law 265 = .ok (.aload_n 0, 1) := by decide +kernel
theorem dL_law_266 : decode cL_law 266 = .ok (.iload 4, 2) := by decide +kernel
theorem dL_law_268 : decode cL_law 268 = .ok (.iconst 3, 1) := by decide +kernel
theorem dL_law_269 : decode cL_law 269 = .ok (.iadd, 1) := by decide +kernel
theorem dL_law_270 : decode cL_law 270 = .ok (.iaload, 1) := by decide +kernel
theorem dL_law_271 : decode cL_law 271 = .ok (.aload_n 3, 1) := by decide +kernel
theorem dL_law_272 : decode cL_law 272 = .ok (.invokestatic 93, 3) := by decide +kernel
theorem dL_law_275 : decode cL_law 275 = .ok (.istore 5, 2) := by decide +kernel
theorem dL_law_277 : decode cL_law 277 = .ok (.aload_n 2, 1) := by decide +kernel
theorem dL_law_278 : decode cL_law 278 = .ok (.aload_n 0, 1) := by decide +kernel
theorem dL_law_279 : decode cL_law 279 = .ok (.iload 4, 2) := by decide +kernel
theorem dL_law_281 : decode cL_law 281 = .ok (.iconst 1, 1) := by decide +kernel
theorem dL_law_282 : decode cL_law 282 = .ok (.iadd, 1) := by decide +kernel
theorem dL_law_283 : decode cL_law 283 = .ok (.iaload, 1) := by decide +kernel
theorem dL_law_284 : decode cL_law 284 = .ok (.aload_n 0, 1) := by decide +kernel
theorem dL_law_285 : decode cL_law 285 = .ok (.iload 4, 2) := by decide +kernel
theorem dL_law_287 : decode cL_law 287 = .ok (.iconst 2, 1) := by decide +kernel
theorem dL_law_288 : decode cL_law 288 = .ok (.iadd, 1) := by decide +kernel
theorem dL_law_289 : decode cL_law 289 = .ok (.iaload, 1) := by decide +kernel
theorem dL_law_290 : decode cL_law 290 = .ok (.aload_n 0, 1) := by decide +kernel
theorem dL_law_291 : decode cL_law 291 = .ok (.iload 4, 2) := by decide +kernel
theorem dL_law_293 : decode cL_law 293 = .ok (.iconst 3, 1) := by decide +kernel
theorem dL_law_294 : decode cL_law 294 = .ok (.iadd, 1) := by decide +kernel
theorem dL_law_295 : decode cL_law 295 = .ok (.iaload, 1) := by decide +kernel
theorem dL_law_296 : decode cL_law 296 = .ok (.invokevirtual 96, 3) := by decide +kernel
theorem dL_law_299 : decode cL_law 299 = .ok (.istore 6, 2) := by decide +kernel
theorem dL_law_301 : decode cL_law 301 = .ok (.aload_n 2, 1) := by decide +kernel
theorem dL_law_302 : decode cL_law 302 = .ok (.invokevirtual 85, 3) := by decide +kernel
theorem dL_law_305 : decode cL_law 305 = .ok (.iload 5, 2) := by decide +kernel
theorem dL_law_307 : decode cL_law 307 = .ok (.if_icmp .eq 5, 3) := by decide +kernel
theorem dL_law_310 : decode cL_law 310 = .ok (.iconst 0, 1) := by decide +kernel
theorem dL_law_311 : decode cL_law 311 = .ok (.ireturn, 1) := by decide +kernel
theorem dL_law_312 : decode cL_law 312 = .ok (.iload 5, 2) := by decide +kernel
theorem dL_law_314 : decode cL_law 314 = .ok (.ifCond .ne 15, 3) := by decide +kernel
theorem dL_law_317 : decode cL_law 317 = .ok (.aload_n 3, 1) := by decide +kernel
theorem dL_law_318 : decode cL_law 318 = .ok (.iconst 0, 1) := by decide +kernel
theorem dL_law_319 : decode cL_law 319 = .ok (.laload, 1) := by decide +kernel
theorem dL_law_320 : decode cL_law 320 = .ok (.iload 6, 2) := by decide +kernel
theorem dL_law_322 : decode cL_law 322 = .ok (.i2l, 1) := by decide +kernel
theorem dL_law_323 : decode cL_law 323 = .ok (.lcmp, 1) := by decide +kernel
theorem dL_law_324 : decode cL_law 324 = .ok (.ifCond .eq 5, 3) := by decide +kernel
theorem dL_law_327 : decode cL_law 327 = .ok (.iconst 0, 1) := by decide +kernel
theorem dL_law_328 : decode cL_law 328 = .ok (.ireturn, 1) := by decide +kernel
theorem dL_law_329 : decode cL_law 329 = .ok (.goto 975, 3) := by decide +kernel
theorem dL_law_332 : decode cL_law 332 = .ok (.aload_n 1, 1) := by decide +kernel
theorem dL_law_333 : decode cL_law 333 = .ok (.aload_n 0, 1) := by decide +kernel
theorem dL_law_334 : decode cL_law 334 = .ok (.iload 4, 2) := by decide +kernel
theorem dL_law_336 : decode cL_law 336 = .ok (.iconst 1, 1) := by decide +kernel
theorem dL_law_337 : decode cL_law 337 = .ok (.iadd, 1) := by decide +kernel
theorem dL_law_338 : decode cL_law 338 = .ok (.iaload, 1) := by decide +kernel
theorem dL_law_339 : decode cL_law 339 = .ok (.aload_n 3, 1) := by decide +kernel
theorem dL_law_340 : decode cL_law 340 = .ok (.invokestatic 97, 3) := by decide +kernel
theorem dL_law_343 : decode cL_law 343 = .ok (.istore 5, 2) := by decide +kernel
theorem dL_law_345 : decode cL_law 345 = .ok (.aload_n 2, 1) := by decide +kernel
theorem dL_law_346 : decode cL_law 346 = .ok (.aload_n 0, 1) := by decide +kernel
theorem dL_law_347 : decode cL_law 347 = .ok (.iload 4, 2) := by decide +kernel
theorem dL_law_349 : decode cL_law 349 = .ok (.iconst 1, 1) := by decide +kernel
theorem dL_law_350 : decode cL_law 350 = .ok (.iadd, 1) := by decide +kernel
theorem dL_law_351 : decode cL_law 351 = .ok (.iaload, 1) := by decide +kernel
theorem dL_law_352 : decode cL_law 352 = .ok (.invokevirtual 99, 3) := by decide +kernel
theorem dL_law_355 : decode cL_law 355 = .ok (.istore 6, 2) := by decide +kernel
theorem dL_law_357 : decode cL_law 357 = .ok (.aload_n 2, 1) := by decide +kernel
theorem dL_law_358 : decode cL_law 358 = .ok (.invokevirtual 85, 3) := by decide +kernel
theorem dL_law_361 : decode cL_law 361 = .ok (.iload 5, 2) := by decide +kernel
theorem dL_law_363 : decode cL_law 363 = .ok (.if_icmp .eq 5, 3) := by decide +kernel
theorem dL_law_366 : decode cL_law 366 = .ok (.iconst 0, 1) := by decide +kernel
theorem dL_law_367 : decode cL_law 367 = .ok (.ireturn, 1) := by decide +kernel
theorem dL_law_368 : decode cL_law 368 = .ok (.iload 5, 2) := by decide +kernel
theorem dL_law_370 : decode cL_law 370 = .ok (.ifCond .ne 15, 3) := by decide +kernel
theorem dL_law_373 : decode cL_law 373 = .ok (.aload_n 3, 1) := by decide +kernel
theorem dL_law_374 : decode cL_law 374 = .ok (.iconst 0, 1) := by decide +kernel
theorem dL_law_375 : decode cL_law 375 = .ok (.laload, 1) := by decide +kernel
theorem dL_law_376 : decode cL_law 376 = .ok (.iload 6, 2) := by decide +kernel
theorem dL_law_378 : decode cL_law 378 = .ok (.i2l, 1) := by decide +kernel
theorem dL_law_379 : decode cL_law 379 = .ok (.lcmp, 1) := by decide +kernel
theorem dL_law_380 : decode cL_law 380 = .ok (.ifCond .eq 5, 3) := by decide +kernel
theorem dL_law_383 : decode cL_law 383 = .ok (.iconst 0, 1) := by decide +kernel
theorem dL_law_384 : decode cL_law 384 = .ok (.ireturn, 1) := by decide +kernel
theorem dL_law_385 : decode cL_law 385 = .ok (.goto 919, 3) := by decide +kernel
theorem dL_law_388 : decode cL_law 388 = .ok (.aload_n 1, 1) := by decide +kernel
theorem dL_law_389 : decode cL_law 389 = .ok (.aload_n 0, 1) := by decide +kernel
theorem dL_law_390 : decode cL_law 390 = .ok (.iload 4, 2) := by decide +kernel
theorem dL_law_392 : decode cL_law 392 = .ok (.iconst 1, 1) := by decide +kernel
theorem dL_law_393 : decode cL_law 393 = .ok (.iadd, 1) := by decide +kernel
end
section
theorem dL_law_394 : decode cL_law 394 = .ok (.iaload, 1) := by decide +kernel
theorem dL_law_395 : decode cL_law 395 = .ok (.aload_n 0, 1) := by decide +kernel
theorem dL_law_396 : decode cL_law 396 = .ok (.iload 4, 2) := by decide +kernel
theorem dL_law_398 : decode cL_law 398 = .ok (.iconst 2, 1) := by decide +kernel
theorem dL_law_399 : decode cL_law 399 = .ok (.iadd, 1) := by decide +kernel
theorem dL_law_400 : decode cL_law 400 = .ok (.iaload, 1) := by decide +kernel
theorem dL_law_401 : decode cL_law 401 = .ok (.aload_n 3, 1) := by decide +kernel
theorem dL_law_402 : decode cL_law 402 = .ok (.invokestatic 100, 3) := by decide +kernel
theorem dL_law_405 : decode cL_law 405 = .ok (.istore 5, 2) := by decide +kernel
theorem dL_law_407 : decode cL_law 407 = .ok (.aload_n 2, 1) := by decide +kernel
theorem dL_law_408 : decode cL_law 408 = .ok (.aload_n 0, 1) := by decide +kernel
theorem dL_law_409 : decode cL_law 409 = .ok (.iload 4, 2) := by decide +kernel
theorem dL_law_411 : decode cL_law 411 = .ok (.iconst 1, 1) := by decide +kernel
theorem dL_law_412 : decode cL_law 412 = .ok (.iadd, 1) := by decide +kernel
theorem dL_law_413 : decode cL_law 413 = .ok (.iaload, 1) := by decide +kernel
theorem dL_law_414 : decode cL_law 414 = .ok (.aload_n 0, 1) := by decide +kernel
theorem dL_law_415 : decode cL_law 415 = .ok (.iload 4, 2) := by decide +kernel
theorem dL_law_417 : decode cL_law 417 = .ok (.iconst 2, 1) := by decide +kernel
theorem dL_law_418 : decode cL_law 418 = .ok (.iadd, 1) := by decide +kernel
theorem dL_law_419 : decode cL_law 419 = .ok (.iaload, 1) := by decide +kernel
theorem dL_law_420 : decode cL_law 420 = .ok (.invokevirtual 102, 3) := by decide +kernel
theorem dL_law_423 : decode cL_law 423 = .ok (.istore 6, 2) := by decide +kernel
theorem dL_law_425 : decode cL_law 425 = .ok (.aload_n 2, 1) := by decide +kernel
theorem dL_law_426 : decode cL_law 426 = .ok (.invokevirtual 85, 3) := by decide +kernel
theorem dL_law_429 : decode cL_law 429 = .ok (.iload 5, 2) := by decide +kernel
theorem dL_law_431 : decode cL_law 431 = .ok (.if_icmp .eq 5, 3) := by decide +kernel
theorem dL_law_434 : decode cL_law 434 = .ok (.iconst 0, 1) := by decide +kernel
theorem dL_law_435 : decode cL_law 435 = .ok (.ireturn, 1) := by decide +kernel
theorem dL_law_436 : decode cL_law 436 = .ok (.iload 5, 2) := by decide +kernel
theorem dL_law_438 : decode cL_law 438 = .ok (.ifCond .ne 15, 3) := by decide +kernel
theorem dL_law_441 : decode cL_law 441 = .ok (.aload_n 3, 1) := by decide +kernel
theorem dL_law_442 : decode cL_law 442 = .ok (.iconst 0, 1) := by decide +kernel
theorem dL_law_443 : decode cL_law 443 = .ok (.laload, 1) := by decide +kernel
theorem dL_law_444 : decode cL_law 444 = .ok (.iload 6, 2) := by decide +kernel
theorem dL_law_446 : decode cL_law 446 = .ok (.i2l, 1) := by decide +kernel
theorem dL_law_447 : decode cL_law 447 = .ok (.lcmp, 1) := by decide +kernel
theorem dL_law_448 : decode cL_law 448 = .ok (.ifCond .eq 5, 3) := by decide +kernel
theorem dL_law_451 : decode cL_law 451 = .ok (.iconst 0, 1) := by decide +kernel
theorem dL_law_452 : decode cL_law 452 = .ok (.ireturn, 1) := by decide +kernel
theorem dL_law_453 : decode cL_law 453 = .ok (.goto 851, 3) := by decide +kernel
theorem dL_law_456 : decode cL_law 456 = .ok (.aload_n 1, 1) := by decide +kernel
theorem dL_law_457 : decode cL_law 457 = .ok (.aload_n 0, 1) := by decide +kernel
theorem dL_law_458 : decode cL_law 458 = .ok (.iload 4, 2) := by decide +kernel
theorem dL_law_460 : decode cL_law 460 = .ok (.iconst 1, 1) := by decide +kernel
theorem dL_law_461 : decode cL_law 461 = .ok (.iadd, 1) := by decide +kernel
theorem dL_law_462 : decode cL_law 462 = .ok (.iaload, 1) := by decide +kernel
theorem dL_law_463 : decode cL_law 463 = .ok (.aload_n 3, 1) := by decide +kernel
theorem dL_law_464 : decode cL_law 464 = .ok (.invokestatic 103, 3) := by decide +kernel
theorem dL_law_467 : decode cL_law 467 = .ok (.istore 5, 2) := by decide +kernel
theorem dL_law_469 : decode cL_law 469 = .ok (.aload_n 2, 1) := by decide +kernel
theorem dL_law_470 : decode cL_law 470 = .ok (.aload_n 0, 1) := by decide +kernel
theorem dL_law_471 : decode cL_law 471 = .ok (.iload 4, 2) := by decide +kernel
theorem dL_law_473 : decode cL_law 473 = .ok (.iconst 1, 1) := by decide +kernel
theorem dL_law_474 : decode cL_law 474 = .ok (.iadd, 1) := by decide +kernel
theorem dL_law_475 : decode cL_law 475 = .ok (.iaload, 1) := by decide +kernel
theorem dL_law_476 : decode cL_law 476 = .ok (.invokevirtual 105, 3) := by decide +kernel
theorem dL_law_479 : decode cL_law 479 = .ok (.istore 6, 2) := by decide +kernel
theorem dL_law_481 : decode cL_law 481 = .ok (.aload_n 2, 1) := by decide +kernel
theorem dL_law_482 : decode cL_law 482 = .ok (.invokevirtual 85, 3) := by decide +kernel
theorem dL_law_485 : decode cL_law 485 = .ok (.iload 5, 2) := by decide +kernel
theorem dL_law_487 : decode cL_law 487 = .ok (.if_icmp .eq 5, 3) := by decide +kernel
theorem dL_law_490 : decode cL_law 490 = .ok (.iconst 0, 1) := by decide +kernel
theorem dL_law_491 : decode cL_law 491 = .ok (.ireturn, 1) := by decide +kernel
theorem dL_law_492 : decode cL_law 492 = .ok (.iload 5, 2) := by decide +kernel
theorem dL_law_494 : decode cL_law 494 = .ok (.ifCond .ne 15, 3) := by decide +kernel
theorem dL_law_497 : decode cL_law 497 = .ok (.aload_n 3, 1) := by decide +kernel
theorem dL_law_498 : decode cL_law 498 = .ok (.iconst 0, 1) := by decide +kernel
theorem dL_law_499 : decode cL_law 499 = .ok (.laload, 1) := by decide +kernel
theorem dL_law_500 : decode cL_law 500 = .ok (.iload 6, 2) := by decide +kernel
theorem dL_law_502 : decode cL_law 502 = .ok (.i2l, 1) := by decide +kernel
theorem dL_law_503 : decode cL_law 503 = .ok (.lcmp, 1) := by decide +kernel
theorem dL_law_504 : decode cL_law 504 = .ok (.ifCond .eq 5, 3) := by decide +kernel
theorem dL_law_507 : decode cL_law 507 = .ok (.iconst 0, 1) := by decide +kernel
theorem dL_law_508 : decode cL_law 508 = .ok (.ireturn, 1) := by decide +kernel
theorem dL_law_509 : decode cL_law 509 = .ok (.goto 795, 3) := by decide +kernel
theorem dL_law_512 : decode cL_law 512 = .ok (.aload_n 1, 1) := by decide +kernel
theorem dL_law_513 : decode cL_law 513 = .ok (.aload_n 0, 1) := by decide +kernel
theorem dL_law_514 : decode cL_law 514 = .ok (.iload 4, 2) := by decide +kernel
theorem dL_law_516 : decode cL_law 516 = .ok (.iconst 1, 1) := by decide +kernel
theorem dL_law_517 : decode cL_law 517 = .ok (.iadd, 1) := by decide +kernel
theorem dL_law_518 : decode cL_law 518 = .ok (.iaload, 1) := by decide +kernel
theorem dL_law_519 : decode cL_law 519 = .ok (.aload_n 3, 1) := by decide +kernel
theorem dL_law_520 : decode cL_law 520 = .ok (.invokestatic 106, 3) := by decide +kernel
theorem dL_law_523 : decode cL_law 523 = .ok (.istore 5, 2) := by decide +kernel
theorem dL_law_525 : decode cL_law 525 = .ok (.aload_n 2, 1) := by decide +kernel
theorem dL_law_526 : decode cL_law 526 = .ok (.aload_n 0, 1) := by decide +kernel
theorem dL_law_527 : decode cL_law 527 = .ok (.iload 4, 2) := by decide +kernel
theorem dL_law_529 : decode cL_law 529 = .ok (.iconst 1, 1) := by decide +kernel
theorem dL_law_530 : decode cL_law 530 = .ok (.iadd, 1) := by decide +kernel
theorem dL_law_531 : decode cL_law 531 = .ok (.iaload, 1) := by decide +kernel
theorem dL_law_532 : decode cL_law 532 = .ok (.invokevirtual 108, 3) := by decide +kernel
theorem dL_law_535 : decode cL_law 535 = .ok (.istore 6, 2) := by decide +kernel
theorem dL_law_537 : decode cL_law 537 = .ok (.aload_n 2, 1) := by decide +kernel
theorem dL_law_538 : decode cL_law 538 = .ok (.invokevirtual 85, 3) := by decide +kernel
theorem dL_law_541 : decode cL_law 541 = .ok (.iload 5, 2) := by decide +kernel
theorem dL_law_543 : decode cL_law 543 = .ok (.if_icmp .eq 5, 3) := by decide +kernel
theorem dL_law_546 : decode cL_law 546 = .ok (.iconst 0, 1) := by decide +kernel
theorem dL_law_547 : decode cL_law 547 = .ok (.ireturn, 1) := by decide +kernel
theorem dL_law_548 : decode cL_law 548 = .ok (.iload 5, 2) := by decide +kernel
theorem dL_law_550 : decode cL_law 550 = .ok (.ifCond .ne 15, 3) := by decide +kernel
theorem dL_law_553 : decode cL_law 553 = .ok (.aload_n 3, 1) := by decide +kernel
theorem dL_law_554 : decode cL_law 554 = .ok (.iconst 0, 1) := by decide +kernel
theorem dL_law_555 : decode cL_law 555 = .ok (.laload, 1) := by decide +kernel
theorem dL_law_556 : decode cL_law 556 = .ok (.iload 6, 2) := by decide +kernel
theorem dL_law_558 : decode cL_law 558 = .ok (.i2l, 1) := by decide +kernel
theorem dL_law_559 : decode cL_law 559 = .ok (.lcmp, 1) := by decide +kernel
theorem dL_law_560 : decode cL_law 560 = .ok (.ifCond .eq 5, 3) := by decide +kernel
theorem dL_law_563 : decode cL_law 563 = .ok (.iconst 0, 1) := by decide +kernel
theorem dL_law_564 : decode cL_law 564 = .ok (.ireturn, 1) := by decide +kernel
theorem dL_law_565 : decode cL_law 565 = .ok (.goto 739, 3) := by decide +kernel
theorem dL_law_568 : decode cL_law 568 = .ok (.aload_n 1, 1) := by decide +kernel
theorem dL_law_569 : decode cL_law 569 = .ok (.aload_n 0, 1) := by decide +kernel
theorem dL_law_570 : decode cL_law 570 = .ok (.iload 4, 2) := by decide +kernel
theorem dL_law_572 : decode cL_law 572 = .ok (.iconst 1, 1) := by decide +kernel
theorem dL_law_573 : decode cL_law 573 = .ok (.iadd, 1) := by decide +kernel
theorem dL_law_574 : decode cL_law 574 = .ok (.iaload, 1) := by decide +kernel
theorem dL_law_575 : decode cL_law 575 = .ok (.aload_n 3, 1) := by decide +kernel
theorem dL_law_576 : decode cL_law 576 = .ok (.invokestatic 109, 3) := by decide +kernel
theorem dL_law_579 : decode cL_law 579 = .ok (.istore 5, 2) := by decide +kernel
theorem dL_law_581 : decode cL_law 581 = .ok (.aload_n 2, 1) := by decide +kernel
theorem dL_law_582 : decode cL_law 582 = .ok (.aload_n 0, 1) := by decide +kernel
theorem dL_law_583 : decode cL_law 583 = .ok (.iload 4, 2) := by decide +kernel
theorem dL_law_585 : decode cL_law 585 = .ok (.iconst 1, 1) := by decide +kernel
theorem dL_law_586 : decode cL_law 586 = .ok (.iadd, 1) := by decide +kernel
theorem dL_law_587 : decode cL_law 587 = .ok (.iaload, 1) := by decide +kernel
theorem dL_law_588 : decode cL_law 588 = .ok (.invokevirtual 111, 3) := by decide +kernel
theorem dL_law_591 : decode cL_law 591 = .ok (.istore 6, 2) := by decide +kernel
theorem dL_law_593 : decode cL_law 593 = .ok (.aload_n 2, 1) := by decide +kernel
theorem dL_law_594 : decode cL_law 594 = .ok (.invokevirtual 85, 3) := by decide +kernel
theorem dL_law_597 : decode cL_law 597 = .ok (.iload 5, 2) := by decide +kernel
theorem dL_law_599 : decode cL_law 599 = .ok (.if_icmp .eq 5, 3) := by decide +kernel
theorem dL_law_602 : decode cL_law 602 = .ok (.iconst 0, 1) := by decide +kernel
theorem dL_law_603 : decode cL_law 603 = .ok (.ireturn, 1) := by decide +kernel
theorem dL_law_604 : decode cL_law 604 = .ok (.iload 5, 2) := by decide +kernel
theorem dL_law_606 : decode cL_law 606 = .ok (.ifCond .ne 15, 3) := by decide +kernel
theorem dL_law_609 : decode cL_law 609 = .ok (.aload_n 3, 1) := by decide +kernel
theorem dL_law_610 : decode cL_law 610 = .ok (.iconst 0, 1) := by decide +kernel
theorem dL_law_611 : decode cL_law 611 = .ok (.laload, 1) := by decide +kernel
theorem dL_law_612 : decode cL_law 612 = .ok (.iload 6, 2) := by decide +kernel
theorem dL_law_614 : decode cL_law 614 = .ok (.i2l, 1) := by decide +kernel
theorem dL_law_615 : decode cL_law 615 = .ok (.lcmp, 1) := by decide +kernel
theorem dL_law_616 : decode cL_law 616 = .ok (.ifCond .eq 5, 3) := by decide +kernel
theorem dL_law_619 : decode cL_law 619 = .ok (.iconst 0, 1) := by decide +kernel
theorem dL_law_620 : decode cL_law 620 = .ok (.ireturn, 1) := by decide +kernel
theorem dL_law_621 : decode cL_law 621 = .ok (.goto 683, 3) := by decide +kernel
theorem dL_law_624 : decode cL_law 624 = .ok (.aload_n 1, 1) := by decide +kernel
theorem dL_law_625 : decode cL_law 625 = .ok (.aload_n 0, 1) := by decide +kernel
theorem dL_law_626 : decode cL_law 626 = .ok (.iload 4, 2) := by decide +kernel
theorem dL_law_628 : decode cL_law 628 = .ok (.iconst 1, 1) := by decide +kernel
theorem dL_law_629 : decode cL_law 629 = .ok (.iadd, 1) := by decide +kernel
theorem dL_law_630 : decode cL_law 630 = .ok (.iaload, 1) := by decide +kernel
theorem dL_law_631 : decode cL_law 631 = .ok (.aload_n 0, 1) := by decide +kernel
theorem dL_law_632 : decode cL_law 632 = .ok (.iload 4, 2) := by decide +kernel
theorem dL_law_634 : decode cL_law 634 = .ok (.iconst 2, 1) := by decide +kernel
theorem dL_law_635 : decode cL_law 635 = .ok (.iadd, 1) := by decide +kernel
theorem dL_law_636 : decode cL_law 636 = .ok (.iaload, 1) := by decide +kernel
theorem dL_law_637 : decode cL_law 637 = .ok (.aload_n 0, 1) := by decide +kernel
theorem dL_law_638 : decode cL_law 638 = .ok (.iload 4, 2) := by decide +kernel
theorem dL_law_640 : decode cL_law 640 = .ok (.iconst 3, 1) := by decide +kernel
theorem dL_law_641 : decode cL_law 641 = .ok (.iadd, 1) := by decide +kernel
theorem dL_law_642 : decode cL_law 642 = .ok (.iaload, 1) := by decide +kernel
theorem dL_law_643 : decode cL_law 643 = .ok (.aload_n 3, 1) := by decide +kernel
theorem dL_law_644 : decode cL_law 644 = .ok (.invokestatic 112, 3) := by decide +kernel
theorem dL_law_647 : decode cL_law 647 = .ok (.istore 5, 2) := by decide +kernel
theorem dL_law_649 : decode cL_law 649 = .ok (.aload_n 2, 1) := by decide +kernel
theorem dL_law_650 : decode cL_law 650 = .ok (.aload_n 0, 1) := by decide +kernel
theorem dL_law_651 : decode cL_law 651 = .ok (.iload 4, 2) := by decide +kernel
theorem dL_law_653 : decode cL_law 653 = .ok (.iconst 1, 1) := by decide +kernel
theorem dL_law_654 : decode cL_law 654 = .ok (.iadd, 1) := by decide +kernel
theorem dL_law_655 : decode cL_law 655 = .ok (.iaload, 1) := by decide +kernel
theorem dL_law_656 : decode cL_law 656 = .ok (.aload_n 0, 1) := by decide +kernel
theorem dL_law_657 : decode cL_law 657 = .ok (.iload 4, 2) := by decide +kernel
theorem dL_law_659 : decode cL_law 659 = .ok (.iconst 2, 1) := by decide +kernel
theorem dL_law_660 : decode cL_law 660 = .ok (.iadd, 1) := by decide +kernel
theorem dL_law_661 : decode cL_law 661 = .ok (.iaload, 1) := by decide +kernel
theorem dL_law_662 : decode cL_law 662 = .ok (.aload_n 0, 1) := by decide +kernel
theorem dL_law_663 : decode cL_law 663 = .ok (.iload 4, 2) := by decide +kernel
theorem dL_law_665 : decode cL_law 665 = .ok (.iconst 3, 1) := by decide +kernel
theorem dL_law_666 : decode cL_law 666 = .ok (.iadd, 1) := by decide +kernel
theorem dL_law_667 : decode cL_law 667 = .ok (.iaload, 1) := by decide +kernel
theorem dL_law_668 : decode cL_law 668 = .ok (.invokevirtual 114, 3) := by decide +kernel
theorem dL_law_671 : decode cL_law 671 = .ok (.istore 6, 2) := by decide +kernel
theorem dL_law_673 : decode cL_law 673 = .ok (.aload_n 2, 1) := by decide +kernel
theorem dL_law_674 : decode cL_law 674 = .ok (.invokevirtual 85, 3) := by decide +kernel
theorem dL_law_677 : decode cL_law 677 = .ok (.iload 5, 2) := by decide +kernel
theorem dL_law_679 : decode cL_law 679 = .ok (.if_icmp .eq 5, 3) := by decide +kernel
theorem dL_law_682 : decode cL_law 682 = .ok (.iconst 0, 1) := by decide +kernel
theorem dL_law_683 : decode cL_law 683 = .ok (.ireturn, 1) := by decide +kernel
theorem dL_law_684 : decode cL_law 684 = .ok (.iload 5, 2) := by decide +kernel
theorem dL_law_686 : decode cL_law 686 = .ok (.ifCond .ne 15, 3) := by decide +kernel
theorem dL_law_689 : decode cL_law 689 = .ok (.aload_n 3, 1) := by decide +kernel
theorem dL_law_690 : decode cL_law 690 = .ok (.iconst 0, 1) := by decide +kernel
theorem dL_law_691 : decode cL_law 691 = .ok (.laload, 1) := by decide +kernel
theorem dL_law_692 : decode cL_law 692 = .ok (.iload 6, 2) := by decide +kernel
theorem dL_law_694 : decode cL_law 694 = .ok (.i2l, 1) := by decide +kernel
theorem dL_law_695 : decode cL_law 695 = .ok (.lcmp, 1) := by decide +kernel
theorem dL_law_696 : decode cL_law 696 = .ok (.ifCond .eq 5, 3) := by decide +kernel
theorem dL_law_699 : decode cL_law 699 = .ok (.iconst 0, 1) := by decide +kernel
theorem dL_law_700 : decode cL_law 700 = .ok (.ireturn, 1) := by decide +kernel
theorem dL_law_701 : decode cL_law 701 = .ok (.goto 603, 3) := by decide +kernel
end
section
theorem dL_law_704 : decode cL_law 704 = .ok (.aload_n 1, 1) := by decide +kernel
theorem dL_law_705 : decode cL_law 705 = .ok (.aload_n 0, 1) := by decide +kernel
theorem dL_law_706 : decode cL_law 706 = .ok (.iload 4, 2) := by decide +kernel
theorem dL_law_708 : decode cL_law 708 = .ok (.iconst 1, 1) := by decide +kernel
theorem dL_law_709 : decode cL_law 709 = .ok (.iadd, 1) := by decide +kernel
theorem dL_law_710 : decode cL_law 710 = .ok (.iaload, 1) := by decide +kernel
theorem dL_law_711 : decode cL_law 711 = .ok (.invokestatic 115, 3) := by decide +kernel
theorem dL_law_714 : decode cL_law 714 = .ok (.istore 5, 2) := by decide +kernel
theorem dL_law_716 : decode cL_law 716 = .ok (.aload_n 2, 1) := by decide +kernel
theorem dL_law_717 : decode cL_law 717 = .ok (.aload_n 0, 1) := by decide +kernel
theorem dL_law_718 : decode cL_law 718 = .ok (.iload 4, 2) := by decide +kernel
theorem dL_law_720 : decode cL_law 720 = .ok (.iconst 1, 1) := by decide +kernel
theorem dL_law_721 : decode cL_law 721 = .ok (.iadd, 1) := by decide +kernel
theorem dL_law_722 : decode cL_law 722 = .ok (.iaload, 1) := by decide +kernel
theorem dL_law_723 : decode cL_law 723 = .ok (.invokevirtual 118, 3) := by decide +kernel
theorem dL_law_726 : decode cL_law 726 = .ok (.aload_n 2, 1) := by decide +kernel
theorem dL_law_727 : decode cL_law 727 = .ok (.invokevirtual 85, 3) := by decide +kernel
theorem dL_law_730 : decode cL_law 730 = .ok (.iload 5, 2) := by decide +kernel
theorem dL_law_732 : decode cL_law 732 = .ok (.if_icmp .eq 5, 3) := by decide +kernel
theorem dL_law_735 : decode cL_law 735 = .ok (.iconst 0, 1) := by decide +kernel
theorem dL_law_736 : decode cL_law 736 = .ok (.ireturn, 1) := by decide +kernel
theorem dL_law_737 : decode cL_law 737 = .ok (.goto 567, 3) := by decide +kernel
theorem dL_law_740 : decode cL_law 740 = .ok (.aload_n 1, 1) := by decide +kernel
theorem dL_law_741 : decode cL_law 741 = .ok (.aload_n 0, 1) := by decide +kernel
theorem dL_law_742 : decode cL_law 742 = .ok (.iload 4, 2) := by decide +kernel
theorem dL_law_744 : decode cL_law 744 = .ok (.iconst 1, 1) := by decide +kernel
theorem dL_law_745 : decode cL_law 745 = .ok (.iadd, 1) := by decide +kernel
theorem dL_law_746 : decode cL_law 746 = .ok (.iaload, 1) := by decide +kernel
theorem dL_law_747 : decode cL_law 747 = .ok (.aload_n 3, 1) := by decide +kernel
theorem dL_law_748 : decode cL_law 748 = .ok (.invokestatic 119, 3) := by decide +kernel
theorem dL_law_751 : decode cL_law 751 = .ok (.istore 5, 2) := by decide +kernel
theorem dL_law_753 : decode cL_law 753 = .ok (.aload_n 2, 1) := by decide +kernel
theorem dL_law_754 : decode cL_law 754 = .ok (.aload_n 0, 1) := by decide +kernel
theorem dL_law_755 : decode cL_law 755 = .ok (.iload 4, 2) := by decide +kernel
theorem dL_law_757 : decode cL_law 757 = .ok (.iconst 1, 1) := by decide +kernel
theorem dL_law_758 : decode cL_law 758 = .ok (.iadd, 1) := by decide +kernel
theorem dL_law_759 : decode cL_law 759 = .ok (.iaload, 1) := by decide +kernel
theorem dL_law_760 : decode cL_law 760 = .ok (.invokevirtual 121, 3) := by decide +kernel
theorem dL_law_763 : decode cL_law 763 = .ok (.istore 6, 2) := by decide +kernel
theorem dL_law_765 : decode cL_law 765 = .ok (.aload_n 2, 1) := by decide +kernel
theorem dL_law_766 : decode cL_law 766 = .ok (.invokevirtual 85, 3) := by decide +kernel
theorem dL_law_769 : decode cL_law 769 = .ok (.iload 5, 2) := by decide +kernel
theorem dL_law_771 : decode cL_law 771 = .ok (.if_icmp .eq 5, 3) := by decide +kernel
theorem dL_law_774 : decode cL_law 774 = .ok (.iconst 0, 1) := by decide +kernel
theorem dL_law_775 : decode cL_law 775 = .ok (.ireturn, 1) := by decide +kernel
theorem dL_law_776 : decode cL_law 776 = .ok (.iload 5, 2) := by decide +kernel
theorem dL_law_778 : decode cL_law 778 = .ok (.ifCond .ne 22, 3) := by decide +kernel
theorem dL_law_781 : decode cL_law 781 = .ok (.aload_n 3, 1) := by decide +kernel
theorem dL_law_782 : decode cL_law 782 = .ok (.iconst 0, 1) := by decide +kernel
theorem dL_law_783 : decode cL_law 783 = .ok (.laload, 1) := by decide +kernel
theorem dL_law_784 : decode cL_law 784 = .ok (.iload 6, 2) := by decide +kernel
theorem dL_law_786 : decode cL_law 786 = .ok (.ifCond .eq 7, 3) := by decide +kernel
theorem dL_law_789 : decode cL_law 789 = .ok (.lconst 1, 1) := by decide +kernel
theorem dL_law_790 : decode cL_law 790 = .ok (.goto 4, 3) := by decide +kernel
theorem dL_law_793 : decode cL_law 793 = .ok (.lconst 0, 1) := by decide +kernel
theorem dL_law_794 : decode cL_law 794 = .ok (.lcmp, 1) := by decide +kernel
theorem dL_law_795 : decode cL_law 795 = .ok (.ifCond .eq 5, 3) := by decide +kernel
theorem dL_law_798 : decode cL_law 798 = .ok (.iconst 0, 1) := by decide +kernel
theorem dL_law_799 : decode cL_law 799 = .ok (.ireturn, 1) := by decide +kernel
theorem dL_law_800 : decode cL_law 800 = .ok (.goto 504, 3) := by decide +kernel
theorem dL_law_803 : decode cL_law 803 = .ok (.aload_n 1, 1) := by decide +kernel
theorem dL_law_804 : decode cL_law 804 = .ok (.aload_n 0, 1) := by decide +kernel
theorem dL_law_805 : decode cL_law 805 = .ok (.iload 4, 2) := by decide +kernel
theorem dL_law_807 : decode cL_law 807 = .ok (.iconst 1, 1) := by decide +kernel
theorem dL_law_808 : decode cL_law 808 = .ok (.iadd, 1) := by decide +kernel
theorem dL_law_809 : decode cL_law 809 = .ok (.iaload, 1) := by decide +kernel
theorem dL_law_810 : decode cL_law 810 = .ok (.aload_n 3, 1) := by decide +kernel
theorem dL_law_811 : decode cL_law 811 = .ok (.invokestatic 122, 3) := by decide +kernel
theorem dL_law_814 : decode cL_law 814 = .ok (.istore 5, 2) := by decide +kernel
theorem dL_law_816 : decode cL_law 816 = .ok (.aload_n 2, 1) := by decide +kernel
theorem dL_law_817 : decode cL_law 817 = .ok (.aload_n 0, 1) := by decide +kernel
theorem dL_law_818 : decode cL_law 818 = .ok (.iload 4, 2) := by decide +kernel
theorem dL_law_820 : decode cL_law 820 = .ok (.iconst 1, 1) := by decide +kernel
theorem dL_law_821 : decode cL_law 821 = .ok (.iadd, 1) := by decide +kernel
theorem dL_law_822 : decode cL_law 822 = .ok (.iaload, 1) := by decide +kernel
theorem dL_law_823 : decode cL_law 823 = .ok (.invokevirtual 124, 3) := by decide +kernel
theorem dL_law_826 : decode cL_law 826 = .ok (.istore 6, 2) := by decide +kernel
theorem dL_law_828 : decode cL_law 828 = .ok (.aload_n 2, 1) := by decide +kernel
theorem dL_law_829 : decode cL_law 829 = .ok (.invokevirtual 85, 3) := by decide +kernel
theorem dL_law_832 : decode cL_law 832 = .ok (.iload 5, 2) := by decide +kernel
theorem dL_law_834 : decode cL_law 834 = .ok (.if_icmp .eq 5, 3) := by decide +kernel
theorem dL_law_837 : decode cL_law 837 = .ok (.iconst 0, 1) := by decide +kernel
theorem dL_law_838 : decode cL_law 838 = .ok (.ireturn, 1) := by decide +kernel
theorem dL_law_839 : decode cL_law 839 = .ok (.iload 5, 2) := by decide +kernel
theorem dL_law_841 : decode cL_law 841 = .ok (.ifCond .ne 15, 3) := by decide +kernel
theorem dL_law_844 : decode cL_law 844 = .ok (.aload_n 3, 1) := by decide +kernel
theorem dL_law_845 : decode cL_law 845 = .ok (.iconst 0, 1) := by decide +kernel
theorem dL_law_846 : decode cL_law 846 = .ok (.laload, 1) := by decide +kernel
theorem dL_law_847 : decode cL_law 847 = .ok (.iload 6, 2) := by decide +kernel
theorem dL_law_849 : decode cL_law 849 = .ok (.i2l, 1) := by decide +kernel
theorem dL_law_850 : decode cL_law 850 = .ok (.lcmp, 1) := by decide +kernel
theorem dL_law_851 : decode cL_law 851 = .ok (.ifCond .eq 5, 3) := by decide +kernel
theorem dL_law_854 : decode cL_law 854 = .ok (.iconst 0, 1) := by decide +kernel
theorem dL_law_855 : decode cL_law 855 = .ok (.ireturn, 1) := by decide +kernel
theorem dL_law_856 : decode cL_law 856 = .ok (.goto 448, 3) := by decide +kernel
theorem dL_law_859 : decode cL_law 859 = .ok (.aload_n 1, 1) := by decide +kernel
theorem dL_law_860 : decode cL_law 860 = .ok (.aload_n 0, 1) := by decide +kernel
theorem dL_law_861 : decode cL_law 861 = .ok (.iload 4, 2) := by decide +kernel
theorem dL_law_863 : decode cL_law 863 = .ok (.iconst 1, 1) := by decide +kernel
theorem dL_law_864 : decode cL_law 864 = .ok (.iadd, 1) := by decide +kernel
theorem dL_law_865 : decode cL_law 865 = .ok (.iaload, 1) := by decide +kernel
theorem dL_law_866 : decode cL_law 866 = .ok (.aload_n 3, 1) := by decide +kernel
theorem dL_law_867 : decode cL_law 867 = .ok (.invokestatic 125, 3) := by decide +kernel
theorem dL_law_870 : decode cL_law 870 = .ok (.istore 5, 2) := by decide +kernel
theorem dL_law_872 : decode cL_law 872 = .ok (.aload_n 2, 1) := by decide +kernel
theorem dL_law_873 : decode cL_law 873 = .ok (.aload_n 0, 1) := by decide +kernel
theorem dL_law_874 : decode cL_law 874 = .ok (.iload 4, 2) := by decide +kernel
theorem dL_law_876 : decode cL_law 876 = .ok (.iconst 1, 1) := by decide +kernel
theorem dL_law_877 : decode cL_law 877 = .ok (.iadd, 1) := by decide +kernel
theorem dL_law_878 : decode cL_law 878 = .ok (.iaload, 1) := by decide +kernel
theorem dL_law_879 : decode cL_law 879 = .ok (.invokevirtual 127, 3) := by decide +kernel
theorem dL_law_882 : decode cL_law 882 = .ok (.istore 6, 2) := by decide +kernel
theorem dL_law_884 : decode cL_law 884 = .ok (.aload_n 2, 1) := by decide +kernel
theorem dL_law_885 : decode cL_law 885 = .ok (.invokevirtual 85, 3) := by decide +kernel
theorem dL_law_888 : decode cL_law 888 = .ok (.iload 5, 2) := by decide +kernel
theorem dL_law_890 : decode cL_law 890 = .ok (.if_icmp .eq 5, 3) := by decide +kernel
theorem dL_law_893 : decode cL_law 893 = .ok (.iconst 0, 1) := by decide +kernel
theorem dL_law_894 : decode cL_law 894 = .ok (.ireturn, 1) := by decide +kernel
theorem dL_law_895 : decode cL_law 895 = .ok (.iload 5, 2) := by decide +kernel
theorem dL_law_897 : decode cL_law 897 = .ok (.ifCond .ne 15, 3) := by decide +kernel
theorem dL_law_900 : decode cL_law 900 = .ok (.aload_n 3, 1) := by decide +kernel
theorem dL_law_901 : decode cL_law 901 = .ok (.iconst 0, 1) := by decide +kernel
theorem dL_law_902 : decode cL_law 902 = .ok (.laload, 1) := by decide +kernel
theorem dL_law_903 : decode cL_law 903 = .ok (.iload 6, 2) := by decide +kernel
theorem dL_law_905 : decode cL_law 905 = .ok (.i2l, 1) := by decide +kernel
theorem dL_law_906 : decode cL_law 906 = .ok (.lcmp, 1) := by decide +kernel
theorem dL_law_907 : decode cL_law 907 = .ok (.ifCond .eq 5, 3) := by decide +kernel
theorem dL_law_910 : decode cL_law 910 = .ok (.iconst 0, 1) := by decide +kernel
theorem dL_law_911 : decode cL_law 911 = .ok (.ireturn, 1) := by decide +kernel
theorem dL_law_912 : decode cL_law 912 = .ok (.goto 392, 3) := by decide +kernel
theorem dL_law_915 : decode cL_law 915 = .ok (.aload_n 1, 1) := by decide +kernel
theorem dL_law_916 : decode cL_law 916 = .ok (.aload_n 0, 1) := by decide +kernel
theorem dL_law_917 : decode cL_law 917 = .ok (.iload 4, 2) := by decide +kernel
theorem dL_law_919 : decode cL_law 919 = .ok (.iconst 1, 1) := by decide +kernel
theorem dL_law_920 : decode cL_law 920 = .ok (.iadd, 1) := by decide +kernel
theorem dL_law_921 : decode cL_law 921 = .ok (.iaload, 1) := by decide +kernel
theorem dL_law_922 : decode cL_law 922 = .ok (.aload_n 0, 1) := by decide +kernel
theorem dL_law_923 : decode cL_law 923 = .ok (.iload 4, 2) := by decide +kernel
theorem dL_law_925 : decode cL_law 925 = .ok (.iconst 2, 1) := by decide +kernel
theorem dL_law_926 : decode cL_law 926 = .ok (.iadd, 1) := by decide +kernel
theorem dL_law_927 : decode cL_law 927 = .ok (.iaload, 1) := by decide +kernel
theorem dL_law_928 : decode cL_law 928 = .ok (.aload_n 3, 1) := by decide +kernel
theorem dL_law_929 : decode cL_law 929 = .ok (.invokestatic 128, 3) := by decide +kernel
theorem dL_law_932 : decode cL_law 932 = .ok (.istore 5, 2) := by decide +kernel
theorem dL_law_934 : decode cL_law 934 = .ok (.aload_n 2, 1) := by decide +kernel
theorem dL_law_935 : decode cL_law 935 = .ok (.aload_n 0, 1) := by decide +kernel
theorem dL_law_936 : decode cL_law 936 = .ok (.iload 4, 2) := by decide +kernel
theorem dL_law_938 : decode cL_law 938 = .ok (.iconst 1, 1) := by decide +kernel
theorem dL_law_939 : decode cL_law 939 = .ok (.iadd, 1) := by decide +kernel
theorem dL_law_940 : decode cL_law 940 = .ok (.iaload, 1) := by decide +kernel
theorem dL_law_941 : decode cL_law 941 = .ok (.aload_n 0, 1) := by decide +kernel
theorem dL_law_942 : decode cL_law 942 = .ok (.iload 4, 2) := by decide +kernel
theorem dL_law_944 : decode cL_law 944 = .ok (.iconst 2, 1) := by decide +kernel
theorem dL_law_945 : decode cL_law 945 = .ok (.iadd, 1) := by decide +kernel
theorem dL_law_946 : decode cL_law 946 = .ok (.iaload, 1) := by decide +kernel
theorem dL_law_947 : decode cL_law 947 = .ok (.invokevirtual 130, 3) := by decide +kernel
theorem dL_law_950 : decode cL_law 950 = .ok (.istore 6, 2) := by decide +kernel
theorem dL_law_952 : decode cL_law 952 = .ok (.aload_n 2, 1) := by decide +kernel
theorem dL_law_953 : decode cL_law 953 = .ok (.invokevirtual 85, 3) := by decide +kernel
theorem dL_law_956 : decode cL_law 956 = .ok (.iload 5, 2) := by decide +kernel
theorem dL_law_958 : decode cL_law 958 = .ok (.if_icmp .eq 5, 3) := by decide +kernel
theorem dL_law_961 : decode cL_law 961 = .ok (.iconst 0, 1) := by decide +kernel
theorem dL_law_962 : decode cL_law 962 = .ok (.ireturn, 1) := by decide +kernel
theorem dL_law_963 : decode cL_law 963 = .ok (.iload 5, 2) := by decide +kernel
theorem dL_law_965 : decode cL_law 965 = .ok (.ifCond .ne 15, 3) := by decide +kernel
theorem dL_law_968 : decode cL_law 968 = .ok (.aload_n 3, 1) := by decide +kernel
theorem dL_law_969 : decode cL_law 969 = .ok (.iconst 0, 1) := by decide +kernel
theorem dL_law_970 : decode cL_law 970 = .ok (.laload, 1) := by decide +kernel
theorem dL_law_971 : decode cL_law 971 = .ok (.iload 6, 2) := by decide +kernel
theorem dL_law_973 : decode cL_law 973 = .ok (.i2l, 1) := by decide +kernel
theorem dL_law_974 : decode cL_law 974 = .ok (.lcmp, 1) := by decide +kernel
theorem dL_law_975 : decode cL_law 975 = .ok (.ifCond .eq 5, 3) := by decide +kernel
theorem dL_law_978 : decode cL_law 978 = .ok (.iconst 0, 1) := by decide +kernel
theorem dL_law_979 : decode cL_law 979 = .ok (.ireturn, 1) := by decide +kernel
theorem dL_law_980 : decode cL_law 980 = .ok (.goto 324, 3) := by decide +kernel
theorem dL_law_983 : decode cL_law 983 = .ok (.aload_n 1, 1) := by decide +kernel
theorem dL_law_984 : decode cL_law 984 = .ok (.aload_n 0, 1) := by decide +kernel
theorem dL_law_985 : decode cL_law 985 = .ok (.iload 4, 2) := by decide +kernel
theorem dL_law_987 : decode cL_law 987 = .ok (.iconst 1, 1) := by decide +kernel
theorem dL_law_988 : decode cL_law 988 = .ok (.iadd, 1) := by decide +kernel
theorem dL_law_989 : decode cL_law 989 = .ok (.iaload, 1) := by decide +kernel
theorem dL_law_990 : decode cL_law 990 = .ok (.aload_n 0, 1) := by decide +kernel
theorem dL_law_991 : decode cL_law 991 = .ok (.iload 4, 2) := by decide +kernel
theorem dL_law_993 : decode cL_law 993 = .ok (.iconst 2, 1) := by decide +kernel
theorem dL_law_994 : decode cL_law 994 = .ok (.iadd, 1) := by decide +kernel
theorem dL_law_995 : decode cL_law 995 = .ok (.iaload, 1) := by decide +kernel
theorem dL_law_996 : decode cL_law 996 = .ok (.aload_n 0, 1) := by decide +kernel
theorem dL_law_997 : decode cL_law 997 = .ok (.iload 4, 2) := by decide +kernel
theorem dL_law_999 : decode cL_law 999 = .ok (.iconst 3, 1) := by decide +kernel
theorem dL_law_1000 : decode cL_law 1000 = .ok (.iadd, 1) := by decide +kernel
theorem dL_law_1001 : decode cL_law 1001 = .ok (.iaload, 1) := by decide +kernel
theorem dL_law_1002 : decode cL_law 1002 = .ok (.aload_n 0, 1) := by decide +kernel
theorem dL_law_1003 : decode cL_law 1003 = .ok (.iload 4, 2) := by decide +kernel
theorem dL_law_1005 : decode cL_law 1005 = .ok (.iconst 4, 1) := by decide +kernel
theorem dL_law_1006 : decode cL_law 1006 = .ok (.iadd, 1) := by decide +kernel
theorem dL_law_1007 : decode cL_law 1007 = .ok (.iaload, 1) := by decide +kernel
theorem dL_law_1008 : decode cL_law 1008 = .ok (.aload_n 3, 1) := by decide +kernel
theorem dL_law_1009 : decode cL_law 1009 = .ok (.invokestatic 131, 3) := by decide +kernel
theorem dL_law_1012 : decode cL_law 1012 = .ok (.istore 5, 2) := by decide +kernel
theorem dL_law_1014 : decode cL_law 1014 = .ok (.aload_n 2, 1) := by decide +kernel
end
section
theorem dL_law_1015 : decode cL_law 1015 = .ok (.aload_n 0, 1) := by decide +kernel
theorem dL_law_1016 : decode cL_law 1016 = .ok (.iload 4, 2) := by decide +kernel
theorem dL_law_1018 : decode cL_law 1018 = .ok (.iconst 1, 1) := by decide +kernel
theorem dL_law_1019 : decode cL_law 1019 = .ok (.iadd, 1) := by decide +kernel
theorem dL_law_1020 : decode cL_law 1020 = .ok (.iaload, 1) := by decide +kernel
theorem dL_law_1021 : decode cL_law 1021 = .ok (.aload_n 0, 1) := by decide +kernel
theorem dL_law_1022 : decode cL_law 1022 = .ok (.iload 4, 2) := by decide +kernel
theorem dL_law_1024 : decode cL_law 1024 = .ok (.iconst 2, 1) := by decide +kernel
theorem dL_law_1025 : decode cL_law 1025 = .ok (.iadd, 1) := by decide +kernel
theorem dL_law_1026 : decode cL_law 1026 = .ok (.iaload, 1) := by decide +kernel
theorem dL_law_1027 : decode cL_law 1027 = .ok (.aload_n 0, 1) := by decide +kernel
theorem dL_law_1028 : decode cL_law 1028 = .ok (.iload 4, 2) := by decide +kernel
theorem dL_law_1030 : decode cL_law 1030 = .ok (.iconst 3, 1) := by decide +kernel
theorem dL_law_1031 : decode cL_law 1031 = .ok (.iadd, 1) := by decide +kernel
theorem dL_law_1032 : decode cL_law 1032 = .ok (.iaload, 1) := by decide +kernel
theorem dL_law_1033 : decode cL_law 1033 = .ok (.aload_n 0, 1) := by decide +kernel
theorem dL_law_1034 : decode cL_law 1034 = .ok (.iload 4, 2) := by decide +kernel
theorem dL_law_1036 : decode cL_law 1036 = .ok (.iconst 4, 1) := by decide +kernel
theorem dL_law_1037 : decode cL_law 1037 = .ok (.iadd, 1) := by decide +kernel
theorem dL_law_1038 : decode cL_law 1038 = .ok (.iaload, 1) := by decide +kernel
theorem dL_law_1039 : decode cL_law 1039 = .ok (.invokevirtual 134, 3) := by decide +kernel
theorem dL_law_1042 : decode cL_law 1042 = .ok (.istore 6, 2) := by decide +kernel
theorem dL_law_1044 : decode cL_law 1044 = .ok (.aload_n 2, 1) := by decide +kernel
theorem dL_law_1045 : decode cL_law 1045 = .ok (.invokevirtual 85, 3) := by decide +kernel
theorem dL_law_1048 : decode cL_law 1048 = .ok (.iload 5, 2) := by decide +kernel
theorem dL_law_1050 : decode cL_law 1050 = .ok (.if_icmp .eq 5, 3) := by decide +kernel
theorem dL_law_1053 : decode cL_law 1053 = .ok (.iconst 0, 1) := by decide +kernel
theorem dL_law_1054 : decode cL_law 1054 = .ok (.ireturn, 1) := by decide +kernel
theorem dL_law_1055 : decode cL_law 1055 = .ok (.iload 5, 2) := by decide +kernel
theorem dL_law_1057 : decode cL_law 1057 = .ok (.ifCond .ne 15, 3) := by decide +kernel
theorem dL_law_1060 : decode cL_law 1060 = .ok (.aload_n 3, 1) := by decide +kernel
theorem dL_law_1061 : decode cL_law 1061 = .ok (.iconst 0, 1) := by decide +kernel
theorem dL_law_1062 : decode cL_law 1062 = .ok (.laload, 1) := by decide +kernel
theorem dL_law_1063 : decode cL_law 1063 = .ok (.iload 6, 2) := by decide +kernel
theorem dL_law_1065 : decode cL_law 1065 = .ok (.i2l, 1) := by decide +kernel
theorem dL_law_1066 : decode cL_law 1066 = .ok (.lcmp, 1) := by decide +kernel
theorem dL_law_1067 : decode cL_law 1067 = .ok (.ifCond .eq 5, 3) := by decide +kernel
theorem dL_law_1070 : decode cL_law 1070 = .ok (.iconst 0, 1) := by decide +kernel
theorem dL_law_1071 : decode cL_law 1071 = .ok (.ireturn, 1) := by decide +kernel
theorem dL_law_1072 : decode cL_law 1072 = .ok (.goto 232, 3) := by decide +kernel
theorem dL_law_1075 : decode cL_law 1075 = .ok (.aload_n 1, 1) := by decide +kernel
theorem dL_law_1076 : decode cL_law 1076 = .ok (.aload_n 0, 1) := by decide +kernel
theorem dL_law_1077 : decode cL_law 1077 = .ok (.iload 4, 2) := by decide +kernel
theorem dL_law_1079 : decode cL_law 1079 = .ok (.iconst 1, 1) := by decide +kernel
theorem dL_law_1080 : decode cL_law 1080 = .ok (.iadd, 1) := by decide +kernel
theorem dL_law_1081 : decode cL_law 1081 = .ok (.iaload, 1) := by decide +kernel
theorem dL_law_1082 : decode cL_law 1082 = .ok (.aload_n 0, 1) := by decide +kernel
theorem dL_law_1083 : decode cL_law 1083 = .ok (.iload 4, 2) := by decide +kernel
theorem dL_law_1085 : decode cL_law 1085 = .ok (.iconst 2, 1) := by decide +kernel
theorem dL_law_1086 : decode cL_law 1086 = .ok (.iadd, 1) := by decide +kernel
theorem dL_law_1087 : decode cL_law 1087 = .ok (.iaload, 1) := by decide +kernel
theorem dL_law_1088 : decode cL_law 1088 = .ok (.aload_n 0, 1) := by decide +kernel
theorem dL_law_1089 : decode cL_law 1089 = .ok (.iload 4, 2) := by decide +kernel
theorem dL_law_1091 : decode cL_law 1091 = .ok (.iconst 3, 1) := by decide +kernel
theorem dL_law_1092 : decode cL_law 1092 = .ok (.iadd, 1) := by decide +kernel
theorem dL_law_1093 : decode cL_law 1093 = .ok (.iaload, 1) := by decide +kernel
theorem dL_law_1094 : decode cL_law 1094 = .ok (.aload_n 0, 1) := by decide +kernel
theorem dL_law_1095 : decode cL_law 1095 = .ok (.iload 4, 2) := by decide +kernel
theorem dL_law_1097 : decode cL_law 1097 = .ok (.iconst 4, 1) := by decide +kernel
theorem dL_law_1098 : decode cL_law 1098 = .ok (.iadd, 1) := by decide +kernel
theorem dL_law_1099 : decode cL_law 1099 = .ok (.iaload, 1) := by decide +kernel
theorem dL_law_1100 : decode cL_law 1100 = .ok (.aload_n 3, 1) := by decide +kernel
theorem dL_law_1101 : decode cL_law 1101 = .ok (.invokestatic 135, 3) := by decide +kernel
theorem dL_law_1104 : decode cL_law 1104 = .ok (.istore 5, 2) := by decide +kernel
theorem dL_law_1106 : decode cL_law 1106 = .ok (.aload_n 2, 1) := by decide +kernel
theorem dL_law_1107 : decode cL_law 1107 = .ok (.aload_n 0, 1) := by decide +kernel
theorem dL_law_1108 : decode cL_law 1108 = .ok (.iload 4, 2) := by decide +kernel
theorem dL_law_1110 : decode cL_law 1110 = .ok (.iconst 1, 1) := by decide +kernel
theorem dL_law_1111 : decode cL_law 1111 = .ok (.iadd, 1) := by decide +kernel
theorem dL_law_1112 : decode cL_law 1112 = .ok (.iaload, 1) := by decide +kernel
theorem dL_law_1113 : decode cL_law 1113 = .ok (.aload_n 0, 1) := by decide +kernel
theorem dL_law_1114 : decode cL_law 1114 = .ok (.iload 4, 2) := by decide +kernel
theorem dL_law_1116 : decode cL_law 1116 = .ok (.iconst 2, 1) := by decide +kernel
theorem dL_law_1117 : decode cL_law 1117 = .ok (.iadd, 1) := by decide +kernel
theorem dL_law_1118 : decode cL_law 1118 = .ok (.iaload, 1) := by decide +kernel
theorem dL_law_1119 : decode cL_law 1119 = .ok (.aload_n 0, 1) := by decide +kernel
theorem dL_law_1120 : decode cL_law 1120 = .ok (.iload 4, 2) := by decide +kernel
theorem dL_law_1122 : decode cL_law 1122 = .ok (.iconst 3, 1) := by decide +kernel
theorem dL_law_1123 : decode cL_law 1123 = .ok (.iadd, 1) := by decide +kernel
theorem dL_law_1124 : decode cL_law 1124 = .ok (.iaload, 1) := by decide +kernel
theorem dL_law_1125 : decode cL_law 1125 = .ok (.aload_n 0, 1) := by decide +kernel
theorem dL_law_1126 : decode cL_law 1126 = .ok (.iload 4, 2) := by decide +kernel
theorem dL_law_1128 : decode cL_law 1128 = .ok (.iconst 4, 1) := by decide +kernel
theorem dL_law_1129 : decode cL_law 1129 = .ok (.iadd, 1) := by decide +kernel
theorem dL_law_1130 : decode cL_law 1130 = .ok (.iaload, 1) := by decide +kernel
theorem dL_law_1131 : decode cL_law 1131 = .ok (.invokevirtual 137, 3) := by decide +kernel
theorem dL_law_1134 : decode cL_law 1134 = .ok (.istore 6, 2) := by decide +kernel
theorem dL_law_1136 : decode cL_law 1136 = .ok (.aload_n 2, 1) := by decide +kernel
theorem dL_law_1137 : decode cL_law 1137 = .ok (.invokevirtual 85, 3) := by decide +kernel
theorem dL_law_1140 : decode cL_law 1140 = .ok (.iload 5, 2) := by decide +kernel
theorem dL_law_1142 : decode cL_law 1142 = .ok (.if_icmp .eq 5, 3) := by decide +kernel
theorem dL_law_1145 : decode cL_law 1145 = .ok (.iconst 0, 1) := by decide +kernel
theorem dL_law_1146 : decode cL_law 1146 = .ok (.ireturn, 1) := by decide +kernel
theorem dL_law_1147 : decode cL_law 1147 = .ok (.iload 5, 2) := by decide +kernel
theorem dL_law_1149 : decode cL_law 1149 = .ok (.ifCond .ne 15, 3) := by decide +kernel
theorem dL_law_1152 : decode cL_law 1152 = .ok (.aload_n 3, 1) := by decide +kernel
theorem dL_law_1153 : decode cL_law 1153 = .ok (.iconst 0, 1) := by decide +kernel
theorem dL_law_1154 : decode cL_law 1154 = .ok (.laload, 1) := by decide +kernel
theorem dL_law_1155 : decode cL_law 1155 = .ok (.iload 6, 2) := by decide +kernel
theorem dL_law_1157 : decode cL_law 1157 = .ok (.i2l, 1) := by decide +kernel
theorem dL_law_1158 : decode cL_law 1158 = .ok (.lcmp, 1) := by decide +kernel
theorem dL_law_1159 : decode cL_law 1159 = .ok (.ifCond .eq 5, 3) := by decide +kernel
theorem dL_law_1162 : decode cL_law 1162 = .ok (.iconst 0, 1) := by decide +kernel
theorem dL_law_1163 : decode cL_law 1163 = .ok (.ireturn, 1) := by decide +kernel
theorem dL_law_1164 : decode cL_law 1164 = .ok (.goto 140, 3) := by decide +kernel
theorem dL_law_1167 : decode cL_law 1167 = .ok (.aload_n 1, 1) := by decide +kernel
theorem dL_law_1168 : decode cL_law 1168 = .ok (.aload_n 0, 1) := by decide +kernel
theorem dL_law_1169 : decode cL_law 1169 = .ok (.iload 4, 2) := by decide +kernel
theorem dL_law_1171 : decode cL_law 1171 = .ok (.iconst 1, 1) := by decide +kernel
theorem dL_law_1172 : decode cL_law 1172 = .ok (.iadd, 1) := by decide +kernel
theorem dL_law_1173 : decode cL_law 1173 = .ok (.iaload, 1) := by decide +kernel
theorem dL_law_1174 : decode cL_law 1174 = .ok (.aload_n 0, 1) := by decide +kernel
theorem dL_law_1175 : decode cL_law 1175 = .ok (.iload 4, 2) := by decide +kernel
theorem dL_law_1177 : decode cL_law 1177 = .ok (.iconst 2, 1) := by decide +kernel
theorem dL_law_1178 : decode cL_law 1178 = .ok (.iadd, 1) := by decide +kernel
theorem dL_law_1179 : decode cL_law 1179 = .ok (.iaload, 1) := by decide +kernel
theorem dL_law_1180 : decode cL_law 1180 = .ok (.aload_n 3, 1) := by decide +kernel
theorem dL_law_1181 : decode cL_law 1181 = .ok (.invokestatic 138, 3) := by decide +kernel
theorem dL_law_1184 : decode cL_law 1184 = .ok (.istore 5, 2) := by decide +kernel
theorem dL_law_1186 : decode cL_law 1186 = .ok (.aload_n 2, 1) := by decide +kernel
theorem dL_law_1187 : decode cL_law 1187 = .ok (.aload_n 0, 1) := by decide +kernel
theorem dL_law_1188 : decode cL_law 1188 = .ok (.iload 4, 2) := by decide +kernel
theorem dL_law_1190 : decode cL_law 1190 = .ok (.iconst 1, 1) := by decide +kernel
theorem dL_law_1191 : decode cL_law 1191 = .ok (.iadd, 1) := by decide +kernel
theorem dL_law_1192 : decode cL_law 1192 = .ok (.iaload, 1) := by decide +kernel
theorem dL_law_1193 : decode cL_law 1193 = .ok (.aload_n 0, 1) := by decide +kernel
theorem dL_law_1194 : decode cL_law 1194 = .ok (.iload 4, 2) := by decide +kernel
theorem dL_law_1196 : decode cL_law 1196 = .ok (.iconst 2, 1) := by decide +kernel
theorem dL_law_1197 : decode cL_law 1197 = .ok (.iadd, 1) := by decide +kernel
theorem dL_law_1198 : decode cL_law 1198 = .ok (.iaload, 1) := by decide +kernel
theorem dL_law_1199 : decode cL_law 1199 = .ok (.invokevirtual 140, 3) := by decide +kernel
theorem dL_law_1202 : decode cL_law 1202 = .ok (.istore 6, 2) := by decide +kernel
theorem dL_law_1204 : decode cL_law 1204 = .ok (.aload_n 2, 1) := by decide +kernel
theorem dL_law_1205 : decode cL_law 1205 = .ok (.invokevirtual 85, 3) := by decide +kernel
theorem dL_law_1208 : decode cL_law 1208 = .ok (.iload 5, 2) := by decide +kernel
theorem dL_law_1210 : decode cL_law 1210 = .ok (.if_icmp .eq 5, 3) := by decide +kernel
theorem dL_law_1213 : decode cL_law 1213 = .ok (.iconst 0, 1) := by decide +kernel
theorem dL_law_1214 : decode cL_law 1214 = .ok (.ireturn, 1) := by decide +kernel
theorem dL_law_1215 : decode cL_law 1215 = .ok (.iload 5, 2) := by decide +kernel
theorem dL_law_1217 : decode cL_law 1217 = .ok (.ifCond .ne 15, 3) := by decide +kernel
theorem dL_law_1220 : decode cL_law 1220 = .ok (.aload_n 3, 1) := by decide +kernel
theorem dL_law_1221 : decode cL_law 1221 = .ok (.iconst 0, 1) := by decide +kernel
theorem dL_law_1222 : decode cL_law 1222 = .ok (.laload, 1) := by decide +kernel
theorem dL_law_1223 : decode cL_law 1223 = .ok (.iload 6, 2) := by decide +kernel
theorem dL_law_1225 : decode cL_law 1225 = .ok (.i2l, 1) := by decide +kernel
theorem dL_law_1226 : decode cL_law 1226 = .ok (.lcmp, 1) := by decide +kernel
theorem dL_law_1227 : decode cL_law 1227 = .ok (.ifCond .eq 5, 3) := by decide +kernel
theorem dL_law_1230 : decode cL_law 1230 = .ok (.iconst 0, 1) := by decide +kernel
theorem dL_law_1231 : decode cL_law 1231 = .ok (.ireturn, 1) := by decide +kernel
theorem dL_law_1232 : decode cL_law 1232 = .ok (.goto 72, 3) := by decide +kernel
theorem dL_law_1235 : decode cL_law 1235 = .ok (.aload_n 1, 1) := by decide +kernel
theorem dL_law_1236 : decode cL_law 1236 = .ok (.aload_n 0, 1) := by decide +kernel
theorem dL_law_1237 : decode cL_law 1237 = .ok (.iload 4, 2) := by decide +kernel
theorem dL_law_1239 : decode cL_law 1239 = .ok (.iconst 1, 1) := by decide +kernel
theorem dL_law_1240 : decode cL_law 1240 = .ok (.iadd, 1) := by decide +kernel
theorem dL_law_1241 : decode cL_law 1241 = .ok (.iaload, 1) := by decide +kernel
theorem dL_law_1242 : decode cL_law 1242 = .ok (.aload_n 3, 1) := by decide +kernel
theorem dL_law_1243 : decode cL_law 1243 = .ok (.invokestatic 141, 3) := by decide +kernel
theorem dL_law_1246 : decode cL_law 1246 = .ok (.istore 5, 2) := by decide +kernel
theorem dL_law_1248 : decode cL_law 1248 = .ok (.aload_n 2, 1) := by decide +kernel
theorem dL_law_1249 : decode cL_law 1249 = .ok (.aload_n 0, 1) := by decide +kernel
theorem dL_law_1250 : decode cL_law 1250 = .ok (.iload 4, 2) := by decide +kernel
theorem dL_law_1252 : decode cL_law 1252 = .ok (.iconst 1, 1) := by decide +kernel
theorem dL_law_1253 : decode cL_law 1253 = .ok (.iadd, 1) := by decide +kernel
theorem dL_law_1254 : decode cL_law 1254 = .ok (.iaload, 1) := by decide +kernel
theorem dL_law_1255 : decode cL_law 1255 = .ok (.invokevirtual 143, 3) := by decide +kernel
theorem dL_law_1258 : decode cL_law 1258 = .ok (.istore 6, 2) := by decide +kernel
theorem dL_law_1260 : decode cL_law 1260 = .ok (.aload_n 2, 1) := by decide +kernel
theorem dL_law_1261 : decode cL_law 1261 = .ok (.invokevirtual 85, 3) := by decide +kernel
theorem dL_law_1264 : decode cL_law 1264 = .ok (.iload 5, 2) := by decide +kernel
theorem dL_law_1266 : decode cL_law 1266 = .ok (.if_icmp .eq 5, 3) := by decide +kernel
theorem dL_law_1269 : decode cL_law 1269 = .ok (.iconst 0, 1) := by decide +kernel
theorem dL_law_1270 : decode cL_law 1270 = .ok (.ireturn, 1) := by decide +kernel
theorem dL_law_1271 : decode cL_law 1271 = .ok (.iload 5, 2) := by decide +kernel
theorem dL_law_1273 : decode cL_law 1273 = .ok (.ifCond .ne 15, 3) := by decide +kernel
theorem dL_law_1276 : decode cL_law 1276 = .ok (.aload_n 3, 1) := by decide +kernel
theorem dL_law_1277 : decode cL_law 1277 = .ok (.iconst 0, 1) := by decide +kernel
theorem dL_law_1278 : decode cL_law 1278 = .ok (.laload, 1) := by decide +kernel
theorem dL_law_1279 : decode cL_law 1279 = .ok (.iload 6, 2) := by decide +kernel
theorem dL_law_1281 : decode cL_law 1281 = .ok (.i2l, 1) := by decide +kernel
theorem dL_law_1282 : decode cL_law 1282 = .ok (.lcmp, 1) := by decide +kernel
theorem dL_law_1283 : decode cL_law 1283 = .ok (.ifCond .eq 5, 3) := by decide +kernel
theorem dL_law_1286 : decode cL_law 1286 = .ok (.iconst 0, 1) := by decide +kernel
theorem dL_law_1287 : decode cL_law 1287 = .ok (.ireturn, 1) := by decide +kernel
theorem dL_law_1288 : decode cL_law 1288 = .ok (.goto 16, 3) := by decide +kernel
theorem dL_law_1291 : decode cL_law 1291 = .ok (.aload_n 1, 1) := by decide +kernel
theorem dL_law_1292 : decode cL_law 1292 = .ok (.invokevirtual 144, 3) := by decide +kernel
theorem dL_law_1295 : decode cL_law 1295 = .ok (.aload_n 2, 1) := by decide +kernel
theorem dL_law_1296 : decode cL_law 1296 = .ok (.invokevirtual 147, 3) := by decide +kernel
theorem dL_law_1299 : decode cL_law 1299 = .ok (.if_icmp .eq 5, 3) := by decide +kernel
theorem dL_law_1302 : decode cL_law 1302 = .ok (.iconst 0, 1) := by decide +kernel
theorem dL_law_1303 : decode cL_law 1303 = .ok (.ireturn, 1) := by decide +kernel
theorem dL_law_1304 : decode cL_law 1304 = .ok (.iinc 4 5, 3) := by decide +kernel
theorem dL_law_1307 : decode cL_law 1307 = .ok (.goto (-1284), 3) := by decide +kernel
theorem dL_law_1310 : decode cL_law 1310 = .ok (.iconst 1, 1) := by decide +kernel
theorem dL_law_1311 : decode cL_law 1311 = .ok (.ireturn, 1) := by decide +kernel
end
