section
-- ===== PART A: goes FIRST, ahead of the names: the tables' words, and 'selects' of the private methods out of them =====
/-- a private method of a class that the tables say can be made, by its rows of tables_1 -/
def lw_okq (q : MethodName × Nat) : Prop := (q.1.cls ≠ "java/lang/invoke/MethodHandle" ∧ q.1.cls ≠ "java/lang/invoke/VarHandle") ∧ Cond.instantiable q.1.cls q.2 ∈ tables_1 ∧ Cond.privateMethod q.1 ∈ tables_1 ∧ Cond.instanceMethod q.1 ∈ tables_1
theorem lw_p0 : lw_okq (⟨"java/lang/Throwable", "fillInStackTrace", "(I)Ljava/lang/Throwable;"⟩, 6) := ⟨⟨by decide +kernel, by decide +kernel⟩, List.mem_of_getElem? (i := 109) (by decide +kernel), List.mem_of_getElem? (i := 107) (by decide +kernel), List.mem_of_getElem? (i := 108) (by decide +kernel)⟩
theorem lw_p1 : lw_okq (⟨"BuildingPoints", "pointAt", "(I)LBuildingPoints$Point;"⟩, 8) := ⟨⟨by decide +kernel, by decide +kernel⟩, List.mem_of_getElem? (i := 16) (by decide +kernel), List.mem_of_getElem? (i := 213) (by decide +kernel), List.mem_of_getElem? (i := 214) (by decide +kernel)⟩
theorem lw_p2 : lw_okq (⟨"BuildingPoints", "put", "(LBuildingPoints$Point;II)V"⟩, 8) := ⟨⟨by decide +kernel, by decide +kernel⟩, List.mem_of_getElem? (i := 16) (by decide +kernel), List.mem_of_getElem? (i := 247) (by decide +kernel), List.mem_of_getElem? (i := 248) (by decide +kernel)⟩
theorem lw_p3 : lw_okq (⟨"BuildingPoints", "reportChange", "(LBuildingPoints$Point;)V"⟩, 8) := ⟨⟨by decide +kernel, by decide +kernel⟩, List.mem_of_getElem? (i := 16) (by decide +kernel), List.mem_of_getElem? (i := 263) (by decide +kernel), List.mem_of_getElem? (i := 264) (by decide +kernel)⟩
theorem lw_p4 : lw_okq (⟨"BuildingPoints", "subscriptionAt", "(I)LBuildingPoints$Subscription;"⟩, 8) := ⟨⟨by decide +kernel, by decide +kernel⟩, List.mem_of_getElem? (i := 16) (by decide +kernel), List.mem_of_getElem? (i := 358) (by decide +kernel), List.mem_of_getElem? (i := 359) (by decide +kernel)⟩
theorem lw_p5 : lw_okq (⟨"BuildingPoints", "scheduleAt", "(I)LBuildingPoints$Schedule;"⟩, 8) := ⟨⟨by decide +kernel, by decide +kernel⟩, List.mem_of_getElem? (i := 16) (by decide +kernel), List.mem_of_getElem? (i := 446) (by decide +kernel), List.mem_of_getElem? (i := 447) (by decide +kernel)⟩
theorem lw_p6 : lw_okq (⟨"BuildingPoints", "follow", "(LBuildingPoints$Schedule;)V"⟩, 8) := ⟨⟨by decide +kernel, by decide +kernel⟩, List.mem_of_getElem? (i := 16) (by decide +kernel), List.mem_of_getElem? (i := 462) (by decide +kernel), List.mem_of_getElem? (i := 463) (by decide +kernel)⟩
theorem lw_p7 : lw_okq (⟨"BuildingPoints", "passMinute", "()V"⟩, 8) := ⟨⟨by decide +kernel, by decide +kernel⟩, List.mem_of_getElem? (i := 16) (by decide +kernel), List.mem_of_getElem? (i := 502) (by decide +kernel), List.mem_of_getElem? (i := 503) (by decide +kernel)⟩
theorem lw_p8 : lw_okq (⟨"BuildingPoints", "releaseHeldCommands", "()V"⟩, 8) := ⟨⟨by decide +kernel, by decide +kernel⟩, List.mem_of_getElem? (i := 16) (by decide +kernel), List.mem_of_getElem? (i := 506) (by decide +kernel), List.mem_of_getElem? (i := 507) (by decide +kernel)⟩
theorem lw_p9 : lw_okq (⟨"BuildingPoints", "endOldSubscriptions", "()V"⟩, 8) := ⟨⟨by decide +kernel, by decide +kernel⟩, List.mem_of_getElem? (i := 16) (by decide +kernel), List.mem_of_getElem? (i := 510) (by decide +kernel), List.mem_of_getElem? (i := 511) (by decide +kernel)⟩
theorem lw_p10 : lw_okq (⟨"BuildingPoints", "followSchedules", "()V"⟩, 8) := ⟨⟨by decide +kernel, by decide +kernel⟩, List.mem_of_getElem? (i := 16) (by decide +kernel), List.mem_of_getElem? (i := 514) (by decide +kernel), List.mem_of_getElem? (i := 515) (by decide +kernel)⟩
theorem lw_p11 : lw_okq (⟨"BuildingPointsModel", "goes", "(ZZZ)Z"⟩, 25) := ⟨⟨by decide +kernel, by decide +kernel⟩, List.mem_of_getElem? (i := 518) (by decide +kernel), List.mem_of_getElem? (i := 612) (by decide +kernel), List.mem_of_getElem? (i := 613) (by decide +kernel)⟩
theorem lw_p12 : lw_okq (⟨"BuildingPointsModel", "adds", "(IZI)I"⟩, 25) := ⟨⟨by decide +kernel, by decide +kernel⟩, List.mem_of_getElem? (i := 518) (by decide +kernel), List.mem_of_getElem? (i := 616) (by decide +kernel), List.mem_of_getElem? (i := 617) (by decide +kernel)⟩
theorem lw_p13 : lw_okq (⟨"BuildingPointsModel", "isPoint", "(I)Z"⟩, 25) := ⟨⟨by decide +kernel, by decide +kernel⟩, List.mem_of_getElem? (i := 518) (by decide +kernel), List.mem_of_getElem? (i := 629) (by decide +kernel), List.mem_of_getElem? (i := 630) (by decide +kernel)⟩
theorem lw_p14 : lw_okq (⟨"BuildingPointsModel", "canHave", "(II)Z"⟩, 25) := ⟨⟨by decide +kernel, by decide +kernel⟩, List.mem_of_getElem? (i := 518) (by decide +kernel), List.mem_of_getElem? (i := 633) (by decide +kernel), List.mem_of_getElem? (i := 634) (by decide +kernel)⟩
theorem lw_p15 : lw_okq (⟨"BuildingPointsModel", "sets", "(III)V"⟩, 25) := ⟨⟨by decide +kernel, by decide +kernel⟩, List.mem_of_getElem? (i := 518) (by decide +kernel), List.mem_of_getElem? (i := 637) (by decide +kernel), List.mem_of_getElem? (i := 638) (by decide +kernel)⟩
def lw_privs_1 : List (MethodName × Nat) := [(⟨"java/lang/Throwable", "fillInStackTrace", "(I)Ljava/lang/Throwable;"⟩, 6), (⟨"BuildingPoints", "pointAt", "(I)LBuildingPoints$Point;"⟩, 8), (⟨"BuildingPoints", "put", "(LBuildingPoints$Point;II)V"⟩, 8), (⟨"BuildingPoints", "reportChange", "(LBuildingPoints$Point;)V"⟩, 8), (⟨"BuildingPoints", "subscriptionAt", "(I)LBuildingPoints$Subscription;"⟩, 8), (⟨"BuildingPoints", "scheduleAt", "(I)LBuildingPoints$Schedule;"⟩, 8), (⟨"BuildingPoints", "follow", "(LBuildingPoints$Schedule;)V"⟩, 8), (⟨"BuildingPoints", "passMinute", "()V"⟩, 8), (⟨"BuildingPoints", "releaseHeldCommands", "()V"⟩, 8), (⟨"BuildingPoints", "endOldSubscriptions", "()V"⟩, 8), (⟨"BuildingPoints", "followSchedules", "()V"⟩, 8), (⟨"BuildingPointsModel", "goes", "(ZZZ)Z"⟩, 25), (⟨"BuildingPointsModel", "adds", "(IZI)I"⟩, 25), (⟨"BuildingPointsModel", "isPoint", "(I)Z"⟩, 25), (⟨"BuildingPointsModel", "canHave", "(II)Z"⟩, 25), (⟨"BuildingPointsModel", "sets", "(III)V"⟩, 25)]
theorem lw_r1 : ∀ q ∈ lw_privs_1, lw_okq q := List.forall_mem_cons.mpr ⟨lw_p0, List.forall_mem_cons.mpr ⟨lw_p1, List.forall_mem_cons.mpr ⟨lw_p2, List.forall_mem_cons.mpr ⟨lw_p3, List.forall_mem_cons.mpr ⟨lw_p4, List.forall_mem_cons.mpr ⟨lw_p5, List.forall_mem_cons.mpr ⟨lw_p6, List.forall_mem_cons.mpr ⟨lw_p7, List.forall_mem_cons.mpr ⟨lw_p8, List.forall_mem_cons.mpr ⟨lw_p9, List.forall_mem_cons.mpr ⟨lw_p10, List.forall_mem_cons.mpr ⟨lw_p11, List.forall_mem_cons.mpr ⟨lw_p12, List.forall_mem_cons.mpr ⟨lw_p13, List.forall_mem_cons.mpr ⟨lw_p14, List.forall_mem_cons.mpr ⟨lw_p15, fun _ h => absurd h List.not_mem_nil⟩⟩⟩⟩⟩⟩⟩⟩⟩⟩⟩⟩⟩⟩⟩⟩
theorem lw_p16 : lw_okq (⟨"BuildingPointsModel", "valueOf", "(I)I"⟩, 25) := ⟨⟨by decide +kernel, by decide +kernel⟩, List.mem_of_getElem? (i := 518) (by decide +kernel), List.mem_of_getElem? (i := 641) (by decide +kernel), List.mem_of_getElem? (i := 642) (by decide +kernel)⟩
theorem lw_p17 : lw_okq (⟨"BuildingPointsModel", "standingOf", "(I)I"⟩, 25) := ⟨⟨by decide +kernel, by decide +kernel⟩, List.mem_of_getElem? (i := 518) (by decide +kernel), List.mem_of_getElem? (i := 645) (by decide +kernel), List.mem_of_getElem? (i := 646) (by decide +kernel)⟩
theorem lw_p18 : lw_okq (⟨"BuildingPointsModel", "informs", "(II)V"⟩, 25) := ⟨⟨by decide +kernel, by decide +kernel⟩, List.mem_of_getElem? (i := 518) (by decide +kernel), List.mem_of_getElem? (i := 649) (by decide +kernel), List.mem_of_getElem? (i := 650) (by decide +kernel)⟩
theorem lw_p19 : lw_okq (⟨"BuildingPointsModel", "isSubscription", "(I)Z"⟩, 25) := ⟨⟨by decide +kernel, by decide +kernel⟩, List.mem_of_getElem? (i := 518) (by decide +kernel), List.mem_of_getElem? (i := 682) (by decide +kernel), List.mem_of_getElem? (i := 683) (by decide +kernel)⟩
theorem lw_p20 : lw_okq (⟨"BuildingPointsModel", "isSchedule", "(I)Z"⟩, 25) := ⟨⟨by decide +kernel, by decide +kernel⟩, List.mem_of_getElem? (i := 518) (by decide +kernel), List.mem_of_getElem? (i := 706) (by decide +kernel), List.mem_of_getElem? (i := 707) (by decide +kernel)⟩
theorem lw_p21 : lw_okq (⟨"BuildingPointsModel", "enters", "(IIII)I"⟩, 25) := ⟨⟨by decide +kernel, by decide +kernel⟩, List.mem_of_getElem? (i := 518) (by decide +kernel), List.mem_of_getElem? (i := 710) (by decide +kernel), List.mem_of_getElem? (i := 711) (by decide +kernel)⟩
theorem lw_p22 : lw_okq (⟨"BuildingPointsModel", "obeys", "(I)V"⟩, 25) := ⟨⟨by decide +kernel, by decide +kernel⟩, List.mem_of_getElem? (i := 518) (by decide +kernel), List.mem_of_getElem? (i := 714) (by decide +kernel), List.mem_of_getElem? (i := 715) (by decide +kernel)⟩
theorem lw_p23 : lw_okq (⟨"BuildingPointsModel", "toldBy", "(II)I"⟩, 25) := ⟨⟨by decide +kernel, by decide +kernel⟩, List.mem_of_getElem? (i := 518) (by decide +kernel), List.mem_of_getElem? (i := 718) (by decide +kernel), List.mem_of_getElem? (i := 719) (by decide +kernel)⟩
theorem lw_p24 : lw_okq (⟨"BuildingPointsModel", "minutes", "()V"⟩, 25) := ⟨⟨by decide +kernel, by decide +kernel⟩, List.mem_of_getElem? (i := 518) (by decide +kernel), List.mem_of_getElem? (i := 735) (by decide +kernel), List.mem_of_getElem? (i := 736) (by decide +kernel)⟩
def lw_privs_2 : List (MethodName × Nat) := [(⟨"BuildingPointsModel", "valueOf", "(I)I"⟩, 25), (⟨"BuildingPointsModel", "standingOf", "(I)I"⟩, 25), (⟨"BuildingPointsModel", "informs", "(II)V"⟩, 25), (⟨"BuildingPointsModel", "isSubscription", "(I)Z"⟩, 25), (⟨"BuildingPointsModel", "isSchedule", "(I)Z"⟩, 25), (⟨"BuildingPointsModel", "enters", "(IIII)I"⟩, 25), (⟨"BuildingPointsModel", "obeys", "(I)V"⟩, 25), (⟨"BuildingPointsModel", "toldBy", "(II)I"⟩, 25), (⟨"BuildingPointsModel", "minutes", "()V"⟩, 25)]
theorem lw_r2 : ∀ q ∈ lw_privs_2, lw_okq q := List.forall_mem_cons.mpr ⟨lw_p16, List.forall_mem_cons.mpr ⟨lw_p17, List.forall_mem_cons.mpr ⟨lw_p18, List.forall_mem_cons.mpr ⟨lw_p19, List.forall_mem_cons.mpr ⟨lw_p20, List.forall_mem_cons.mpr ⟨lw_p21, List.forall_mem_cons.mpr ⟨lw_p22, List.forall_mem_cons.mpr ⟨lw_p23, List.forall_mem_cons.mpr ⟨lw_p24, fun _ h => absurd h List.not_mem_nil⟩⟩⟩⟩⟩⟩⟩⟩⟩
def lw_privs : List (MethodName × Nat) := lw_privs_1 ++ (lw_privs_2)
def lw_tbl : List Cond := k2_sels lw_privs ++ tables_1
theorem lw_privs_ok : ∀ q ∈ lw_privs, lw_okq q := by
  show ∀ q ∈ lw_privs_1 ++ (lw_privs_2), lw_okq q
  exact List.forall_mem_append.mpr ⟨lw_r1, lw_r2⟩
-- ===== end of PART A; then your names; then what follows =====
/-! ===== BEGIN words of one list among another's, by their places ===== -/
theorem goodIn_r {big : List Cond} (ws : List Cond) (ps : List Nat) (hp : ws = ps.filterMap (fun i => big[i]?)) (h : ws.all goodWord = true) : GoodIn big ws := by
  intro w hw
  have h1 := List.all_eq_true.mp h w hw
  rw [hp] at hw
  obtain ⟨i, -, hi⟩ := List.mem_filterMap.mp hw
  have hm : w ∈ big := by first | exact List.mem_of_getElem? hi | exact List.getElem?_mem hi
  exact ⟨hm, good_of_word h1⟩
theorem goodIn_app {big a b : List Cond} (ha : GoodIn big a) (hb : GoodIn big b) : GoodIn big (a ++ b) := fun w h => (List.mem_append.mp h).elim (ha w) (hb w)
theorem goodIn_ca {big a b : List Cond} {c : Cond} (ha : GoodIn big (c :: a)) (hb : GoodIn big b) : GoodIn big (c :: (a ++ b)) := fun w h => (List.mem_cons.mp h).elim (fun e => ha w (List.mem_cons.mpr (Or.inl e))) (fun h => (List.mem_append.mp h).elim (fun h => ha w (List.mem_cons.mpr (Or.inr h))) (hb w))
theorem goodIn_sub {big ws : List Cond} (hm : ∀ w ∈ ws, w ∈ big) (h : ws.all goodWord = true) : GoodIn big ws := fun w hw => ⟨hm w hw, good_of_word (List.all_eq_true.mp h w hw)⟩
/-! ===== END ===== -/

/-! ===== BEGIN exceptions that leave a method, and their catching by the caller (launches without stack traces) ===== -/
section VXA
/-! The laws vx_back, vx_callV, vx_callS, vx_callSW, vx_throw0, vx_throwS follow proofs of the library, with one case more: JvmDerived/Free/Laws.lean (Back.of_free), Shelf42/LK1.lean (callV, callS), Shelf/KitTraced.lean (throwNew0V, throwNewS). -/
/-- where a method has thrown q: the class by its name, the cell, what was written, the world -/
def vx_T (XC : String → State → State → Prop) (st : State) (q : Addr) (t : State) (mc ms : Nat) (free : Addr → Prop) : Prop :=
  ∃ (E : String) (ce : Cell) (L : List Loc), XC E st t ∧ t.heap[q]? = some ce ∧ ce.vm = .none ∧ st.vm.findClass E = some ce.cls ∧ st.WarmedH t.vm ∧ st.sameButNew ({ t with vm := st.vm } : State) L mc ms ∧ ∀ z ∈ L, free z.base
def vx_Q (Qc : Array Value → State → Outcome → State → Prop) (XC : String → State → State → Prop) (mc ms : Nat) (free : Addr → Prop) : Array Value → State → Outcome → State → Prop := fun a st o t =>
  (Qc a st o t ∧ ∃ L, FrameEnd st o t L mc ms ∧ ∀ q ∈ L, free q.base) ∨ ∃ q, o = .threw q ∧ vx_T XC st q t mc ms free
/-- a callee that returns or throws -/
def vx_Met (l : Launch) (y : MethodName) (ws : List Cond) (rm : Room) (Pc : Array Value → State → Prop) (Qc : Array Value → State → Outcome → State → Prop) (XC : String → State → State → Prop) (mc ms : Nat) (free : Addr → Prop) : Prop :=
  MetFree l y (headSpec ws rm) Pc (fun _ _ _ _ _ => True) (vx_Q Qc XC mc ms free)
def vx_Post (XC : String → State → State → Prop) (mc ms : Nat) (free : Addr → Prop) : Pt → Array Value → Addr → Pt → Prop := fun A a q B =>
  ∃ (g : JFrame) (mk : MethodId) (t : State) (L : List Loc) (E : String) (ce : Cell), B.U.heap = t.heap ∧ B.U.vm = t.vm ∧ XC E (A.U.calling g mk a) t ∧ t.heap[q]? = some ce ∧ ce.vm = .none ∧ A.U.vm.findClass E = some ce.cls ∧ B.locs = A.locs ++ L ∧ (∀ z ∈ L, free z.base) ∧ B.cells = A.cells + mc ∧ B.slots = A.slots + ms
def vx_Back (l : Launch) (R : Room) (p : Program) (e : Env) (below : List Frame) (s : State) (sargs : Array Value) (y : MethodName) (len W9 : Nat)
    (Pre : Pt → Array Value → Prop) (Post : Pt → Array Value → Option Value → Pt → Prop) (PostX : Pt → Array Value → Addr → Pt → Prop) : Prop :=
  ∀ (m : MethodId) (meth : Method) (c : Code) (A : Pt) (g : JFrame) (ig : Instr) (mk : MethodId) (a : Array Value),
    Stand p l e R s m sargs below meth c A.U A.locs A.cells A.slots → g.method = m → g.locals.size = c.maxLocals → decode c.code g.pc = .ok (ig, len) →
    2 * g.monitorRoom + (g.stack.map fun v => v.category).sum ≤ W9 → A.U.methodNamed? y = some mk → Pre A a →
    (∃ (v : Option Value) (B : Pt), Stand p l e R s m sargs below meth c B.U B.locs B.cells B.slots ∧ Post A a v B ∧
      Steps p.tables e below (doInvoke e (A.U.setTop g) [] mk a).1 (B.U.setTop { g with pc := g.pc + len, stack := v.toList ++ g.stack })) ∨
    (∃ (q : Addr) (B : Pt), Stand p l e R s m sargs below meth c B.U B.locs B.cells B.slots ∧ PostX A a q B ∧
      Steps p.tables e below (doInvoke e (A.U.setTop g) [] mk a).1 ((B.U.setTop g).pushFrame (.throwing q)))
section Payer
variable {l : Launch} {R : Room} {p : Program} {e : Env} {below : List Frame} {s : State} {sargs : Array Value} {y : MethodName} {len W9 : Nat}
theorem vx_back {ws : List Cond} {rm : Room} {Pc : Array Value → State → Prop} {Qc : Array Value → State → Outcome → State → Prop} {XC : String → State → State → Prop} {mc ms : Nat} {free : Addr → Prop} {bytes : ByteArray} {maxL : Nat} {ret : Option FieldType}
    (hM : vx_Met l y ws rm Pc Qc XC mc ms free) (hblind : FrameBlind Pc) (hrc : rm.cells = mc) (hrs : rm.slots = ms)
    (hframes : rm.frames + 1 ≤ R.frames) (hlocals : W9 + (maxL + 11) + rm.locals ≤ R.locals)
    (hws : ∀ w ∈ ws, ∀ a' U, s.WarmedH U.vm → w.before a' U = true) (hcode : Cond.code y bytes maxL ret ∈ ws) (hinit : ∀ a' U, s.WarmedH U.vm → (Cond.initialized y.cls).before a' U = true) :
    vx_Back l R p e below s sargs y len W9 (PreOf R mc ms Pc) (PostOf Qc mc ms free) (vx_Post XC mc ms free) := by
  intro m meth c A g ig mk a X hg hsize hdg hW hn hp
  have h1 : (headSpec ws rm).pre.before a A.U = true := atoms_intro fun w hw => hws w hw _ _ X.warmed
  have h2 : (Cond.code y bytes maxL ret).before a A.U = true := hws _ hcode _ _ X.warmed
  have h3 : (Cond.initialized y.cls).before a A.U = true := hinit _ _ X.warmed
  have h4 : A.cells + (headSpec ws rm).room.cells ≤ R.cells := by rw [show (headSpec ws rm).room.cells = mc from hrc]; exact hp.1
  have h5 : A.slots + (headSpec ws rm).room.slots ≤ R.slots := by rw [show (headSpec ws rm).room.slots = ms from hrs]; exact hp.2.1
  have hPc : Pc a (A.U.calling g mk a) := hblind _ _ _ _ hp.2.2
  obtain ⟨U, Ls, c0, s0⟩ := A
  dsimp only [Pt.U, Pt.locs, Pt.cells, Pt.slots] at h1 h2 h3 h4 h5 X hn hPc ⊢
  obtain ⟨methY, cY, hmY, hcY, -, hlY, -, -, -, -⟩ := Cond.code_spec hn h2
  obtain ⟨kY, hkY, -⟩ := className_of_methodNamed hn
  have hinitY : kY.init = .initialized := Cond.initialized_spec (findClass_of_methodNamed hn) hkY h3
  have h : At U g.method c below := by rw [hg]; exact X.here
  have hlocals9 : W9 + (maxL + 11) + (headSpec ws rm).room.locals ≤ R.locals := hlocals
  have happ : (headSpec ws rm).appliesLoose y e.platform (U.calling g mk a) = true :=
    Spec.appliesLoose_calling (g := g) h hdg hn hkY hinitY
      (X.room_calling (g := g) (R' := (headSpec ws rm).room) hsize hmY hcY hframes (by rw [hlY]; omega) h4 h5) h1
  obtain ⟨mid, hmid⟩ := h.above
  have hfr : (U.setTop g).frames = (.java g :: mid) ++ below := by rw [State.frames_setTop' g h.top, hmid]; rfl
  obtain ⟨o, s₂, hsteps, -, hend, hq⟩ := Steps.callFree hM p X.admits X.cas X.clock (acts := []) hfr happ hPc trivial
  have hq' : vx_Q Qc XC mc ms free a (U.calling g mk a) o s₂ := hq
  rw [State.frames_setTop' g h.top] at hend
  obtain ⟨g₀, hg0⟩ := Option.isSome_iff_exists.mp h.top
  obtain ⟨r, hr⟩ := State.topJava?_eq_some.mp hg0
  have hr' : (({ U with heap := s₂.heap, slotsUsed := s₂.slotsUsed } : State).setVm s₂.vm).frames = .java g₀ :: r := hr
  rcases hq' with ⟨hqc, L, hfe, hL⟩ | ⟨q, rfl, E, ce, L, hx, hce, hcv, hcl, hW₂, hsm, hL⟩
  · obtain ⟨⟨v, rfl⟩, hW₂, e2, q2, q3, q4, q5, q6⟩ := id hfe
    have e3 : s₂ = ({ (U.calling g mk a).setFrames s₂.frames with heap := s₂.heap, slotsUsed := s₂.slotsUsed } : State).setVm s₂.vm := by
      have : s₂ = ({ s₂ with vm := (U.calling g mk a).vm } : State).setVm s₂.vm := rfl
      rw [e2] at this
      exact this
    obtain ⟨c₂, i₂, len₂, hc₂, hd₂, hf₂⟩ := hend
    have hW' : U.WarmedH s₂.vm := hW₂
    have hcc : c₂ = c := by
      have h1 : s₂.code? g.method = U.code? g.method := by
        rw [State.code?_eq, State.code?_eq, hW'.alike.method?]
      exact Option.some.inj (hc₂.symm.trans (h1.trans h.code))
    subst hcc
    have hlen : len₂ = len := by rw [hdg] at hd₂; cases hd₂; rfl
    subst hlen
    have hs₂ : s₂ = (({ U with heap := s₂.heap, slotsUsed := s₂.slotsUsed } : State).setVm s₂.vm).setTop { g with pc := g.pc + len₂, stack := v.toList ++ g.stack } := by
      refine e3.trans ?_
      rw [hf₂, State.calling_eq h.top, State.setFrames_setFrames, State.setTop_of_frames _ hr', hr]
      rfl
    have hsame : U.sameButNew ({ U with heap := s₂.heap, slotsUsed := s₂.slotsUsed } : State) L mc ms := by
      refine ⟨?_, q2, q3, q4, q5, q6⟩
      obtain ⟨t, ht, -⟩ := State.frames_cons hr
      show ({ U with heap := s₂.heap, slotsUsed := s₂.slotsUsed } : State) = { U.setFrames U.frames with heap := s₂.heap, slotsUsed := s₂.slotsUsed }
      rw [State.setFrames_self ht]
    subst hg
    refine Or.inl ⟨v, ⟨(({ U with heap := s₂.heap, slotsUsed := s₂.slotsUsed } : State).setVm s₂.vm), Ls ++ L, c0 + mc, s0 + ms⟩,
      ⟨X.admits, X.cas, X.clock, X.frames, X.room, X.hears, X.method, X.code, (X.here.setHeapUsed s₂.heap s₂.slotsUsed).setVm hW'.alike, X.tail, State.WarmedH.trans X.warmed hW', X.limits, X.bytes, X.same.trans (hsame.setVm s.vm)⟩,
      ⟨g, mk, s₂, L, rfl, rfl, hqc, rfl, hL, rfl, rfl⟩, ?_⟩
    show Steps p.tables e below _ ((({ U with heap := s₂.heap, slotsUsed := s₂.slotsUsed } : State).setVm s₂.vm).setTop { g with pc := g.pc + len₂, stack := v.toList ++ g.stack })
    rw [← hs₂]
    exact hsteps
  · obtain ⟨e2, q2, q3, q4, q5, q6⟩ := id hsm
    have e3 : s₂ = ({ (U.calling g mk a).setFrames s₂.frames with heap := s₂.heap, slotsUsed := s₂.slotsUsed } : State).setVm s₂.vm := by
      have : s₂ = ({ s₂ with vm := (U.calling g mk a).vm } : State).setVm s₂.vm := rfl
      rw [e2] at this
      exact this
    have hf₂ : s₂.frames = .throwing q :: .java g :: U.frames.tail := hend
    have hW' : U.WarmedH s₂.vm := hW₂
    have hs₂ : s₂ = ((({ U with heap := s₂.heap, slotsUsed := s₂.slotsUsed } : State).setVm s₂.vm).setTop g).pushFrame (.throwing q) := by
      refine e3.trans ?_
      rw [hf₂, State.calling_eq h.top, State.setFrames_setFrames, State.pushFrame, State.frames_setTop _ hr', State.setTop_of_frames _ hr', State.setFrames_setFrames, hr]
      rfl
    have hsame : U.sameButNew ({ U with heap := s₂.heap, slotsUsed := s₂.slotsUsed } : State) L mc ms := by
      refine ⟨?_, q2, q3, q4, q5, q6⟩
      obtain ⟨t, ht, -⟩ := State.frames_cons hr
      show ({ U with heap := s₂.heap, slotsUsed := s₂.slotsUsed } : State) = { U.setFrames U.frames with heap := s₂.heap, slotsUsed := s₂.slotsUsed }
      rw [State.setFrames_self ht]
    subst hg
    refine Or.inr ⟨q, ⟨(({ U with heap := s₂.heap, slotsUsed := s₂.slotsUsed } : State).setVm s₂.vm), Ls ++ L, c0 + mc, s0 + ms⟩,
      ⟨X.admits, X.cas, X.clock, X.frames, X.room, X.hears, X.method, X.code, (X.here.setHeapUsed s₂.heap s₂.slotsUsed).setVm hW'.alike, X.tail, State.WarmedH.trans X.warmed hW', X.limits, X.bytes, X.same.trans (hsame.setVm s.vm)⟩,
      ⟨g, mk, s₂, L, E, ce, rfl, rfl, hx, hce, hcv, hcl, rfl, hL, rfl, rfl⟩, ?_⟩
    show Steps p.tables e below _ (((({ U with heap := s₂.heap, slotsUsed := s₂.slotsUsed } : State).setVm s₂.vm).setTop g).pushFrame (.throwing q))
    rw [← hs₂]
    exact hsteps
end Payer
section Calls
variable {p : Program} {l : Launch} {e : Env} {R : Room} {s : State} {m : MethodId} {args : Array Value} {below : List Frame} {meth : Method} {c : Code} {T : State} {locs : List Loc} {cells slots : Nat}
theorem vx_callV (X : Stand p l e R s m args below meth c T locs cells slots) (hexec : p.tables.exec = Jvm.exec) {own C : String} {index : Nat} {y : MethodName} {bytes : ByteArray} {maxL : Nat} {ret : Option FieldType}
    (hown : s.vm.findClass own = some m.cls) (hlink : (Cond.methodLink own index y).before args s = true) (hinst : (Cond.instanceMethod y).before args s = true) (hsel : (Cond.selects C y y).before args s = true)
    (hcode : (Cond.code y bytes maxL ret).before args s = true) (hy : y.cls ≠ "java/lang/invoke/MethodHandle" ∧ y.cls ≠ "java/lang/invoke/VarHandle")
    {W9 : Nat} {Pre : Pt → Array Value → Prop} {Post : Pt → Array Value → Option Value → Pt → Prop} {PostX : Pt → Array Value → Addr → Pt → Prop} (hK : vx_Back l R p e below s args y 3 W9 Pre Post PostX)
    {b : Addr} {cellB : Cell} (hcell : T.heap[b]? = some cellB) (hobj : cellB.vm.isStatics = false) (hcls : s.vm.findClass C = some cellB.cls)
    {g : JFrame} (hg : g.method = m) (hsize : g.locals.size = c.maxLocals) {argsL rest : List Value} (hlen : ∀ sig, parseMethodDescriptor y.desc = some sig → argsL.length = sig.parameters.length)
    (hstack : g.stack = argsL.reverse ++ .ref b :: rest) (hW : 2 * g.monitorRoom + (rest.map fun v => v.category).sum ≤ W9) (hdg : decode c.code g.pc = .ok (.invokevirtual index, 3))
    (hpre : ∀ vm₁, s.WarmedH vm₁ → Pre ⟨T.setVm vm₁, locs, cells, slots⟩ (Value.ref b :: argsL).toArray) :
    (∃ (v : Option Value) (vm₁ : Vm) (B : Pt), s.WarmedH vm₁ ∧ Stand p l e R s m args below meth c B.U B.locs B.cells B.slots ∧ Post ⟨T.setVm vm₁, locs, cells, slots⟩ (Value.ref b :: argsL).toArray v B ∧
      ∀ target, Steps p.tables e below (B.U.setTop { g with pc := g.pc + 3, stack := v.toList ++ rest }) target → Steps p.tables e below (T.setTop g) target) ∨
    (∃ (q : Addr) (vm₁ : Vm) (B : Pt), s.WarmedH vm₁ ∧ Stand p l e R s m args below meth c B.U B.locs B.cells B.slots ∧ PostX ⟨T.setVm vm₁, locs, cells, slots⟩ (Value.ref b :: argsL).toArray q B ∧
      Steps p.tables e below (T.setTop g) ((B.U.setTop { g with stack := rest }).pushFrame (.throwing q))) := by
  obtain ⟨mk, methM, hnamed, hmethM, hstM, habM⟩ := Cond.instanceMethod_spec hinst
  obtain ⟨methM', cM, hmethM', -, -, -, -, -, -, hsigM⟩ := Cond.code_spec hnamed hcode
  cases hmethM.symm.trans hmethM'
  obtain ⟨c2, r2, m2, q1, q2, q3, q4, kP, hkP, hkPi⟩ := Cond.selects_spec hsel
  cases hcls.symm.trans q1
  cases (State.methodFound?_of_named hnamed hy).symm.trans q2
  cases hnamed.symm.trans q3
  have hselP : selectMethod e.platform s.vm cellB.cls mk = .method mk := by rw [Launch.admits_selectMethod X.admits]; exact q4
  obtain ⟨vm₁, X₁, hstep₁⟩ := X.invokevirtual hexec hown hlink hnamed hmethM hstM hkP hkPi hy (a := b) (cell := cellB) hcell
    (fun z h => by rw [h] at hobj; cases hobj) hselP hmethM habM hkP hkPi (g := g) hg (argsL := argsL) (rest := rest) (hlen _ hsigM) hstack hdg
  rcases hK m meth c ⟨T.setVm vm₁, locs, cells, slots⟩ { g with stack := rest } (.invokevirtual index) mk (Value.ref b :: argsL).toArray X₁ hg hsize hdg hW (X₁.named hnamed) (hpre vm₁ X₁.warmed) with ⟨v, B, X', hpost, hsteps⟩ | ⟨q, B, X', hpost, hsteps⟩
  · exact Or.inl ⟨v, vm₁, B, X₁.warmed, X', hpost, fun target h => hstep₁ _ fun acts => by rw [doInvoke_state]; exact hsteps.trans h⟩
  · exact Or.inr ⟨q, vm₁, B, X₁.warmed, X', hpost, hstep₁ _ fun acts => by rw [doInvoke_state]; exact hsteps⟩
theorem vx_callS (X : Stand p l e R s m args below meth c T locs cells slots) (hexec : p.tables.exec = Jvm.exec) {own : String} {index : Nat} {y : MethodName} {bytes : ByteArray} {maxL : Nat} {ret : Option FieldType}
    (hown : s.vm.findClass own = some m.cls) (hlink : (Cond.methodLink own index y).before args s = true) (hstat : (Cond.static y).before args s = true) (hinit : (Cond.initialized y.cls).before args s = true)
    (hcode : (Cond.code y bytes maxL ret).before args s = true) (hy : y.cls ≠ "java/lang/invoke/MethodHandle" ∧ y.cls ≠ "java/lang/invoke/VarHandle")
    {W9 : Nat} {Pre : Pt → Array Value → Prop} {Post : Pt → Array Value → Option Value → Pt → Prop} {PostX : Pt → Array Value → Addr → Pt → Prop} (hK : vx_Back l R p e below s args y 3 W9 Pre Post PostX)
    {g : JFrame} (hg : g.method = m) (hsize : g.locals.size = c.maxLocals) {argsL rest : List Value} (hlen : ∀ sig, parseMethodDescriptor y.desc = some sig → argsL.length = sig.parameters.length)
    (hstack : g.stack = argsL.reverse ++ rest) (hW : 2 * g.monitorRoom + (rest.map fun v => v.category).sum ≤ W9) (hdg : decode c.code g.pc = .ok (.invokestatic index, 3))
    (hpre : ∀ vm₁, s.WarmedH vm₁ → Pre ⟨T.setVm vm₁, locs, cells, slots⟩ argsL.toArray) :
    (∃ (v : Option Value) (vm₁ : Vm) (B : Pt), s.WarmedH vm₁ ∧ Stand p l e R s m args below meth c B.U B.locs B.cells B.slots ∧ Post ⟨T.setVm vm₁, locs, cells, slots⟩ argsL.toArray v B ∧
      ∀ target, Steps p.tables e below (B.U.setTop { g with pc := g.pc + 3, stack := v.toList ++ rest }) target → Steps p.tables e below (T.setTop g) target) ∨
    (∃ (q : Addr) (vm₁ : Vm) (B : Pt), s.WarmedH vm₁ ∧ Stand p l e R s m args below meth c B.U B.locs B.cells B.slots ∧ PostX ⟨T.setVm vm₁, locs, cells, slots⟩ argsL.toArray q B ∧
      Steps p.tables e below (T.setTop g) ((B.U.setTop { g with stack := rest }).pushFrame (.throwing q))) := by
  obtain ⟨mk, hnamed⟩ := Cond.code_named hcode
  obtain ⟨methM, cM, hmethM, -, -, -, -, -, -, hsigM⟩ := Cond.code_spec hnamed hcode
  have hstatic : methM.isStatic = true := Cond.static_spec hnamed hmethM hstat
  obtain ⟨kP, hkP, -⟩ := className_of_methodNamed hnamed
  have hinitP : kP.init = .initialized := Cond.initialized_spec (findClass_of_methodNamed hnamed) hkP hinit
  obtain ⟨vm₁, X₁, hstep₁⟩ := X.invokestatic hexec hown hlink hnamed hmethM hstatic hkP hinitP hy (g := g) hg (argsL := argsL) (rest := rest) (hlen _ hsigM) hstack hdg
  rcases hK m meth c ⟨T.setVm vm₁, locs, cells, slots⟩ { g with stack := rest } (.invokestatic index) mk argsL.toArray X₁ hg hsize hdg hW (X₁.named hnamed) (hpre vm₁ X₁.warmed) with ⟨v, B, X', hpost, hsteps⟩ | ⟨q, B, X', hpost, hsteps⟩
  · exact Or.inl ⟨v, vm₁, B, X₁.warmed, X', hpost, fun target h => hstep₁ _ fun acts => by rw [doInvoke_state]; exact hsteps.trans h⟩
  · exact Or.inr ⟨q, vm₁, B, X₁.warmed, X', hpost, hstep₁ _ fun acts => by rw [doInvoke_state]; exact hsteps⟩
end Calls
theorem vx_cls {s : State} {T : State} {vm₁ : Vm} {E : String} {k : ClassId} (hW : s.WarmedH vm₁) (h : (T.setVm vm₁).vm.findClass E = some k) : s.vm.findClass E = some k := by
  have h1 : vm₁.findClass E = some k := h
  rw [hW.alike.findClass] at h1
  exact h1
/-- the method's frame g, with q thrown over it -/
def vx_W (p : Program) (l : Launch) (e : Env) (R : Room) (s : State) (m : MethodId) (args : Array Value) (below : List Frame) (meth : Method) (c : Code) (H : Heap) (locs : List Loc) (cells slots : Nat) (Q : State → Prop) (g : JFrame) (q : Addr) : Prop :=
  ∀ T : State, T.heap = H → Stand p l e R s m args below meth c T locs cells slots → ∃ t, Steps p.tables e below ((T.setTop g).pushFrame (.throwing q)) t ∧ Q t
def vx_Run (p : Program) (l : Launch) (e : Env) (R : Room) (s : State) (m : MethodId) (args : Array Value) (below : List Frame) (meth : Method) (c : Code) (H : Heap) (locs : List Loc) (cells slots mc ms : Nat) (g : JFrame) (rest : List Value) (Qa : State → Outcome → State → Prop) (XC : String → State → State → Prop) (free : Addr → Prop) : Prop :=
  ∀ T : State, T.heap = H → Stand p l e R s m args below meth c T locs cells slots →
    (∃ (v : Option Value) (st₀ t T' : State) (L : List Loc), st₀.heap = H ∧ Stand p l e R s m args below meth c T' (locs ++ L) (cells + mc) (slots + ms) ∧ (∀ q ∈ L, free q.base) ∧ T'.heap = t.heap ∧ T'.vm = t.vm ∧ Qa st₀ (.returned v) t ∧
      Goes p e below T g T' { g with pc := g.pc + 3, stack := v.toList ++ rest }) ∨
    (∃ (q : Addr) (st₀ t T' : State) (L : List Loc) (E : String) (ce : Cell), st₀.heap = H ∧ Stand p l e R s m args below meth c T' (locs ++ L) (cells + mc) (slots + ms) ∧ (∀ z ∈ L, free z.base) ∧ T'.heap = t.heap ∧ T'.vm = t.vm ∧ XC E st₀ t ∧ t.heap[q]? = some ce ∧ ce.vm = .none ∧ s.vm.findClass E = some ce.cls ∧
      Steps p.tables e below (T.setTop g) ((T'.setTop { g with stack := rest }).pushFrame (.throwing q)))
def vx_X {S : Type} (px : S → Prop) (B : String → S → State → Prop) (A : Nat → Prop) : String → State → State → Prop := fun E st t => ∃ u : S, px u ∧ B E u t ∧ va_F A st t
section Runs
variable {p : Program} {l : Launch} {e : Env} {R : Room} {s : State} {m : MethodId} {args : Array Value} {below : List Frame} {meth : Method} {c : Code} {H : Heap} {locs : List Loc} {cells slots : Nat}
variable {y : MethodName} {bytes cc : ByteArray} {maxL nL mc ms n index : Nat} {ret : Option FieldType} {ws : List Cond} {rm : Room} {Pc : Array Value → State → Prop} {Qc : Array Value → State → Outcome → State → Prop} {XC : String → State → State → Prop} {free : Addr → Prop} {Ts : List Cond} {own C : String} {b : Addr} {As rest : List Value} {g : JFrame}
theorem vx_callBack (cb : CallB R s args own index y bytes maxL ret ws rm mc ms n) (hM : vx_Met l y ws rm Pc Qc XC mc ms free) (hbl : FrameBlind Pc) : vx_Back l R p e below s args y 3 8 (PreOf R mc ms Pc) (PostOf Qc mc ms free) (vx_Post XC mc ms free) := by
  obtain ⟨hrc, hrs, hfr, hlo, hws, hcw, -, hini, -⟩ := cb
  exact vx_back (bytes := bytes) (maxL := maxL) (ret := ret) hM hbl hrc hrs hfr hlo hws hcw (fun a' U hW => word_at hW (Or.inl (by first | rfl | simp [Cond.onTables, Cond.keeps, Cond.steady])) hini)
theorem vx_runV (S : CallFix p m c cc nL s args Ts own) (hM : vx_Met l y ws rm Pc Qc XC mc ms free) (cw : CallW R s args own C index y bytes maxL ret ws rm mc ms n) (hp : PreV s H C b Pc As)
    (hg : g.method = m) (hn : As.length = n) (hsize : g.locals.size = nL) (hstack : g.stack = As.reverse ++ .ref b :: rest) (hW : 2 * g.monitorRoom + (rest.map fun v => v.category).sum ≤ 8) (hdg : decode cc g.pc = .ok (.invokevirtual index, 3)) (hf : cells + mc ≤ R.cells ∧ slots + ms ≤ R.slots) :
    vx_Run p l e R s m args below meth c H locs cells slots mc ms g rest (Qc (Value.ref b :: As).toArray) XC free := by
  have hK : vx_Back l R p e below s args y 3 8 (PreOf R mc ms Pc) (PostOf Qc mc ms free) (vx_Post XC mc ms free) := vx_callBack cw.1 hM hp.1
  obtain ⟨⟨-, -, -, -, -, -, hcode, -, hy, hlen, hl⟩, hin, hse⟩ := cw
  obtain ⟨hx, hb, hml, ho, -⟩ := S
  obtain ⟨-, ⟨cellB, hcB, hoB, hclB⟩, hPc⟩ := hp
  intro T hT X
  rcases vx_callV X hx (C := C) (bytes := bytes) (maxL := maxL) (ret := ret) ho hl hin hse hcode hy hK (by rw [hT]; exact hcB) hoB hclB hg (hsize.trans hml.symm) (argsL := As) (rest := rest) (fun sig h => hn.trans (hlen sig h)) hstack hW (by rw [hb]; exact hdg)
    (fun vm₁ hW₁ => ⟨hf.1, hf.2, hPc (T.setVm vm₁) hT hW₁⟩) with ⟨v, vm₁, ⟨U', l2, c2, s2⟩, hW₁, X', ⟨g', mk, t, L, e1, e2, hq, h1, hL, h2, h3⟩, st⟩ | ⟨q, vm₁, ⟨U', l2, c2, s2⟩, hW₁, X', ⟨g', mk, t, L, E, ce, e1, e2, hq, hce, hcv, hcl, h1, hL, h2, h3⟩, st⟩
  · dsimp only [Pt.U, Pt.locs, Pt.cells, Pt.slots] at X' e1 e2 h1 h2 h3 st
    subst h1; subst h2; subst h3
    exact Or.inl ⟨v, (T.setVm vm₁).calling g' mk (Value.ref b :: As).toArray, t, U', L, hT, X', hL, e1, e2, hq, st⟩
  · dsimp only [Pt.U, Pt.locs, Pt.cells, Pt.slots] at X' e1 e2 h1 h2 h3 st hcl
    subst h1; subst h2; subst h3
    exact Or.inr ⟨q, (T.setVm vm₁).calling g' mk (Value.ref b :: As).toArray, t, U', L, E, ce, hT, X', hL, e1, e2, hq, hce, hcv, vx_cls hW₁ hcl, st⟩
theorem vx_runS (S : CallFix p m c cc nL s args Ts own) (hM : vx_Met l y ws rm Pc Qc XC mc ms free) (cw : CallB R s args own index y bytes maxL ret ws rm mc ms n ∧ (Cond.static y).before args s = true) (hp : PreS s H Pc As)
    (hg : g.method = m) (hn : As.length = n) (hsize : g.locals.size = nL) (hstack : g.stack = As.reverse ++ rest) (hW : 2 * g.monitorRoom + (rest.map fun v => v.category).sum ≤ 8) (hdg : decode cc g.pc = .ok (.invokestatic index, 3)) (hf : cells + mc ≤ R.cells ∧ slots + ms ≤ R.slots) :
    vx_Run p l e R s m args below meth c H locs cells slots mc ms g rest (Qc As.toArray) XC free := by
  have hK : vx_Back l R p e below s args y 3 8 (PreOf R mc ms Pc) (PostOf Qc mc ms free) (vx_Post XC mc ms free) := vx_callBack cw.1 hM hp.1
  obtain ⟨⟨-, -, -, -, -, -, hcode, hini, hy, hlen, hl⟩, hstt⟩ := cw
  obtain ⟨hx, hb, hml, ho, -⟩ := S
  intro T hT X
  rcases vx_callS X hx (bytes := bytes) (maxL := maxL) (ret := ret) ho hl hstt hini hcode hy hK hg (hsize.trans hml.symm) (argsL := As) (rest := rest) (fun sig h => hn.trans (hlen sig h)) hstack hW (by rw [hb]; exact hdg)
    (fun vm₁ hW₁ => ⟨hf.1, hf.2, hp.2 (T.setVm vm₁) hT hW₁⟩) with ⟨v, vm₁, ⟨U', l2, c2, s2⟩, hW₁, X', ⟨g', mk, t, L, e1, e2, hq, h1, hL, h2, h3⟩, st⟩ | ⟨q, vm₁, ⟨U', l2, c2, s2⟩, hW₁, X', ⟨g', mk, t, L, E, ce, e1, e2, hq, hce, hcv, hcl, h1, hL, h2, h3⟩, st⟩
  · dsimp only [Pt.U, Pt.locs, Pt.cells, Pt.slots] at X' e1 e2 h1 h2 h3 st
    subst h1; subst h2; subst h3
    exact Or.inl ⟨v, (T.setVm vm₁).calling g' mk As.toArray, t, U', L, hT, X', hL, e1, e2, hq, st⟩
  · dsimp only [Pt.U, Pt.locs, Pt.cells, Pt.slots] at X' e1 e2 h1 h2 h3 st hcl
    subst h1; subst h2; subst h3
    exact Or.inr ⟨q, (T.setVm vm₁).calling g' mk As.toArray, t, U', L, E, ce, hT, X', hL, e1, e2, hq, hce, hcv, vx_cls hW₁ hcl, st⟩
end Runs
section Rows
variable {p : Program} {l : Launch} {e : Env} {R : Room} {s : State} {m : MethodId} {args : Array Value} {below : List Frame} {meth : Method} {c : Code} {H : Heap} {locs : List Loc} {cells slots : Nat} {Q : State → Prop}
variable {mc ms : Nat} {free : Addr → Prop} {A0 A1 : Nat → Prop} {H0 : Heap} {a : Array Value} {pc : Nat} {ls : Array Slot} {st0 rest : List Value}
theorem vx_keep {st₀ t T' : State} {L : List Loc} (h0 : st₀.heap = H) (e1 : T'.heap = t.heap) (hS : va_S A0 H0 H locs) (hA : ∀ q, q < H.size → A1 q → A0 q) (hf : ∀ q, free q → A0 q) (hL : ∀ q ∈ L, free q.base) (hF : va_F A1 st₀ t) :
    H.size ≤ T'.heap.size ∧ (∀ q : Nat, q < H.size → ¬ A1 q → T'.heap[q]? = H[q]?) ∧ va_S A0 H0 T'.heap (locs ++ L) := by
  obtain ⟨hz, hk⟩ := hF
  rw [h0] at hz hk
  exact ⟨by rw [e1]; exact hz, fun q h1 h2 => by rw [e1]; exact hk q h1 h2,
    ⟨Nat.le_trans hS.1 (by rw [e1]; exact hz), fun q h1 h2 => by rw [e1, hk q (Nat.lt_of_lt_of_le h1 hS.1) (fun z => h2 (hA q (Nat.lt_of_lt_of_le h1 hS.1) z))]; exact hS.2.1 q h1 h2, fun q hq => by
      rcases List.mem_append.mp hq with h | h
      · exact hS.2.2 q h
      · exact hf _ (hL q h)⟩⟩
theorem vx_calli {S SX : Type} {post : Int32 → S → Prop} {px : SX → Prop} {B : S → State → Prop} {BX : String → SX → State → Prop} {AX : Nat → Prop} (hr : vx_Run p l e R s m args below meth c H locs cells slots mc ms (F0 m pc ls st0) rest (va_Qi post B A1 a) (vx_X px BX AX) free) (hS : va_S A0 H0 H locs) (hA : ∀ q, q < H.size → A1 q → A0 q) (hf : ∀ q, free q → A0 q) (hAX : ∀ q, q < H.size → AX q → A0 q)
    (kx : ∀ (E : String) (ce : Cell) (q9 : Addr) (u : SX) (t : State) (H1 : Heap) (locs1 : List Loc), t.heap = H1 → s.vm.Alike t.vm → px u → BX E u t → H.size ≤ H1.size → (∀ q : Nat, q < H.size → ¬ AX q → H1[q]? = H[q]?) → va_S A0 H0 H1 locs1 → H1[q9]? = some ce → ce.vm = .none → s.vm.findClass E = some ce.cls → vx_W p l e R s m args below meth c H1 locs1 (cells + mc) (slots + ms) Q (F0 m pc ls rest) q9)
    (kk : ∀ (r : Int32) (u : S) (t : State) (H1 : Heap) (locs1 : List Loc), t.heap = H1 → s.vm.Alike t.vm → post r u → B u t → H.size ≤ H1.size → (∀ q : Nat, q < H.size → ¬ A1 q → H1[q]? = H[q]?) → va_S A0 H0 H1 locs1 → W p l e R s m args below meth c H1 locs1 (cells + mc) (slots + ms) Q (F0 m (pc + 3) ls (.int r :: rest))) : W p l e R s m args below meth c H locs cells slots Q (F0 m pc ls st0) := by
  intro T hT X
  rcases hr T hT X with ⟨v, st₀, t, T', L, h0, X', hL, e1, e2, ⟨⟨r, u, hv, hp, hb⟩, hF⟩, st⟩ | ⟨q, st₀, t, T', L, E, ce, h0, X', hL, e1, e2, ⟨u, hp, hb, hF⟩, hce, hcv, hcl, st⟩
  · cases hv
    obtain ⟨k1, k2, k3⟩ := vx_keep h0 e1 hS hA hf hL hF
    obtain ⟨t2, a1, b1⟩ := kk r u t T'.heap (locs ++ L) e1.symm (by rw [← e2]; exact X'.warmed.alike) hp hb k1 k2 k3 T' rfl X'
    exact ⟨t2, st t2 a1, b1⟩
  · obtain ⟨k1, k2, k3⟩ := vx_keep h0 e1 hS hAX hf hL hF
    obtain ⟨t2, a1, b1⟩ := kx E ce q u t T'.heap (locs ++ L) e1.symm (by rw [← e2]; exact X'.warmed.alike) hp hb k1 k2 k3 (by rw [e1]; exact hce) hcv hcl T' rfl X'
    exact ⟨t2, st.trans a1, b1⟩
theorem vx_calll {S SX : Type} {post : Int64 → S → Prop} {px : SX → Prop} {B : S → State → Prop} {BX : String → SX → State → Prop} {AX : Nat → Prop} (hr : vx_Run p l e R s m args below meth c H locs cells slots mc ms (F0 m pc ls st0) rest (va_Ql post B A1 a) (vx_X px BX AX) free) (hS : va_S A0 H0 H locs) (hA : ∀ q, q < H.size → A1 q → A0 q) (hf : ∀ q, free q → A0 q) (hAX : ∀ q, q < H.size → AX q → A0 q)
    (kx : ∀ (E : String) (ce : Cell) (q9 : Addr) (u : SX) (t : State) (H1 : Heap) (locs1 : List Loc), t.heap = H1 → s.vm.Alike t.vm → px u → BX E u t → H.size ≤ H1.size → (∀ q : Nat, q < H.size → ¬ AX q → H1[q]? = H[q]?) → va_S A0 H0 H1 locs1 → H1[q9]? = some ce → ce.vm = .none → s.vm.findClass E = some ce.cls → vx_W p l e R s m args below meth c H1 locs1 (cells + mc) (slots + ms) Q (F0 m pc ls rest) q9)
    (kk : ∀ (r : Int64) (u : S) (t : State) (H1 : Heap) (locs1 : List Loc), t.heap = H1 → s.vm.Alike t.vm → post r u → B u t → H.size ≤ H1.size → (∀ q : Nat, q < H.size → ¬ A1 q → H1[q]? = H[q]?) → va_S A0 H0 H1 locs1 → W p l e R s m args below meth c H1 locs1 (cells + mc) (slots + ms) Q (F0 m (pc + 3) ls (.long r :: rest))) : W p l e R s m args below meth c H locs cells slots Q (F0 m pc ls st0) := by
  intro T hT X
  rcases hr T hT X with ⟨v, st₀, t, T', L, h0, X', hL, e1, e2, ⟨⟨r, u, hv, hp, hb⟩, hF⟩, st⟩ | ⟨q, st₀, t, T', L, E, ce, h0, X', hL, e1, e2, ⟨u, hp, hb, hF⟩, hce, hcv, hcl, st⟩
  · cases hv
    obtain ⟨k1, k2, k3⟩ := vx_keep h0 e1 hS hA hf hL hF
    obtain ⟨t2, a1, b1⟩ := kk r u t T'.heap (locs ++ L) e1.symm (by rw [← e2]; exact X'.warmed.alike) hp hb k1 k2 k3 T' rfl X'
    exact ⟨t2, st t2 a1, b1⟩
  · obtain ⟨k1, k2, k3⟩ := vx_keep h0 e1 hS hAX hf hL hF
    obtain ⟨t2, a1, b1⟩ := kx E ce q u t T'.heap (locs ++ L) e1.symm (by rw [← e2]; exact X'.warmed.alike) hp hb k1 k2 k3 (by rw [e1]; exact hce) hcv hcl T' rfl X'
    exact ⟨t2, st.trans a1, b1⟩
theorem vx_callf {S SX : Type} {post : UInt32 → S → Prop} {px : SX → Prop} {B : S → State → Prop} {BX : String → SX → State → Prop} {AX : Nat → Prop} (hr : vx_Run p l e R s m args below meth c H locs cells slots mc ms (F0 m pc ls st0) rest (va_Qf post B A1 a) (vx_X px BX AX) free) (hS : va_S A0 H0 H locs) (hA : ∀ q, q < H.size → A1 q → A0 q) (hf : ∀ q, free q → A0 q) (hAX : ∀ q, q < H.size → AX q → A0 q)
    (kx : ∀ (E : String) (ce : Cell) (q9 : Addr) (u : SX) (t : State) (H1 : Heap) (locs1 : List Loc), t.heap = H1 → s.vm.Alike t.vm → px u → BX E u t → H.size ≤ H1.size → (∀ q : Nat, q < H.size → ¬ AX q → H1[q]? = H[q]?) → va_S A0 H0 H1 locs1 → H1[q9]? = some ce → ce.vm = .none → s.vm.findClass E = some ce.cls → vx_W p l e R s m args below meth c H1 locs1 (cells + mc) (slots + ms) Q (F0 m pc ls rest) q9)
    (kk : ∀ (r : UInt32) (u : S) (t : State) (H1 : Heap) (locs1 : List Loc), t.heap = H1 → s.vm.Alike t.vm → post r u → B u t → H.size ≤ H1.size → (∀ q : Nat, q < H.size → ¬ A1 q → H1[q]? = H[q]?) → va_S A0 H0 H1 locs1 → W p l e R s m args below meth c H1 locs1 (cells + mc) (slots + ms) Q (F0 m (pc + 3) ls (.float r :: rest))) : W p l e R s m args below meth c H locs cells slots Q (F0 m pc ls st0) := by
  intro T hT X
  rcases hr T hT X with ⟨v, st₀, t, T', L, h0, X', hL, e1, e2, ⟨⟨r, u, hv, hp, hb⟩, hF⟩, st⟩ | ⟨q, st₀, t, T', L, E, ce, h0, X', hL, e1, e2, ⟨u, hp, hb, hF⟩, hce, hcv, hcl, st⟩
  · cases hv
    obtain ⟨k1, k2, k3⟩ := vx_keep h0 e1 hS hA hf hL hF
    obtain ⟨t2, a1, b1⟩ := kk r u t T'.heap (locs ++ L) e1.symm (by rw [← e2]; exact X'.warmed.alike) hp hb k1 k2 k3 T' rfl X'
    exact ⟨t2, st t2 a1, b1⟩
  · obtain ⟨k1, k2, k3⟩ := vx_keep h0 e1 hS hAX hf hL hF
    obtain ⟨t2, a1, b1⟩ := kx E ce q u t T'.heap (locs ++ L) e1.symm (by rw [← e2]; exact X'.warmed.alike) hp hb k1 k2 k3 (by rw [e1]; exact hce) hcv hcl T' rfl X'
    exact ⟨t2, st.trans a1, b1⟩
theorem vx_calld {S SX : Type} {post : UInt64 → S → Prop} {px : SX → Prop} {B : S → State → Prop} {BX : String → SX → State → Prop} {AX : Nat → Prop} (hr : vx_Run p l e R s m args below meth c H locs cells slots mc ms (F0 m pc ls st0) rest (va_Qd post B A1 a) (vx_X px BX AX) free) (hS : va_S A0 H0 H locs) (hA : ∀ q, q < H.size → A1 q → A0 q) (hf : ∀ q, free q → A0 q) (hAX : ∀ q, q < H.size → AX q → A0 q)
    (kx : ∀ (E : String) (ce : Cell) (q9 : Addr) (u : SX) (t : State) (H1 : Heap) (locs1 : List Loc), t.heap = H1 → s.vm.Alike t.vm → px u → BX E u t → H.size ≤ H1.size → (∀ q : Nat, q < H.size → ¬ AX q → H1[q]? = H[q]?) → va_S A0 H0 H1 locs1 → H1[q9]? = some ce → ce.vm = .none → s.vm.findClass E = some ce.cls → vx_W p l e R s m args below meth c H1 locs1 (cells + mc) (slots + ms) Q (F0 m pc ls rest) q9)
    (kk : ∀ (r : UInt64) (u : S) (t : State) (H1 : Heap) (locs1 : List Loc), t.heap = H1 → s.vm.Alike t.vm → post r u → B u t → H.size ≤ H1.size → (∀ q : Nat, q < H.size → ¬ A1 q → H1[q]? = H[q]?) → va_S A0 H0 H1 locs1 → W p l e R s m args below meth c H1 locs1 (cells + mc) (slots + ms) Q (F0 m (pc + 3) ls (.double r :: rest))) : W p l e R s m args below meth c H locs cells slots Q (F0 m pc ls st0) := by
  intro T hT X
  rcases hr T hT X with ⟨v, st₀, t, T', L, h0, X', hL, e1, e2, ⟨⟨r, u, hv, hp, hb⟩, hF⟩, st⟩ | ⟨q, st₀, t, T', L, E, ce, h0, X', hL, e1, e2, ⟨u, hp, hb, hF⟩, hce, hcv, hcl, st⟩
  · cases hv
    obtain ⟨k1, k2, k3⟩ := vx_keep h0 e1 hS hA hf hL hF
    obtain ⟨t2, a1, b1⟩ := kk r u t T'.heap (locs ++ L) e1.symm (by rw [← e2]; exact X'.warmed.alike) hp hb k1 k2 k3 T' rfl X'
    exact ⟨t2, st t2 a1, b1⟩
  · obtain ⟨k1, k2, k3⟩ := vx_keep h0 e1 hS hAX hf hL hF
    obtain ⟨t2, a1, b1⟩ := kx E ce q u t T'.heap (locs ++ L) e1.symm (by rw [← e2]; exact X'.warmed.alike) hp hb k1 k2 k3 (by rw [e1]; exact hce) hcv hcl T' rfl X'
    exact ⟨t2, st.trans a1, b1⟩
theorem vx_callv {S SX : Type} {post : S → Prop} {px : SX → Prop} {B : S → State → Prop} {BX : String → SX → State → Prop} {AX : Nat → Prop} (hr : vx_Run p l e R s m args below meth c H locs cells slots mc ms (F0 m pc ls st0) rest (va_Qv post B A1 a) (vx_X px BX AX) free) (hS : va_S A0 H0 H locs) (hA : ∀ q, q < H.size → A1 q → A0 q) (hf : ∀ q, free q → A0 q) (hAX : ∀ q, q < H.size → AX q → A0 q)
    (kx : ∀ (E : String) (ce : Cell) (q9 : Addr) (u : SX) (t : State) (H1 : Heap) (locs1 : List Loc), t.heap = H1 → s.vm.Alike t.vm → px u → BX E u t → H.size ≤ H1.size → (∀ q : Nat, q < H.size → ¬ AX q → H1[q]? = H[q]?) → va_S A0 H0 H1 locs1 → H1[q9]? = some ce → ce.vm = .none → s.vm.findClass E = some ce.cls → vx_W p l e R s m args below meth c H1 locs1 (cells + mc) (slots + ms) Q (F0 m pc ls rest) q9)
    (kk : ∀ (u : S) (t : State) (H1 : Heap) (locs1 : List Loc), t.heap = H1 → s.vm.Alike t.vm → post u → B u t → H.size ≤ H1.size → (∀ q : Nat, q < H.size → ¬ A1 q → H1[q]? = H[q]?) → va_S A0 H0 H1 locs1 → W p l e R s m args below meth c H1 locs1 (cells + mc) (slots + ms) Q (F0 m (pc + 3) ls (rest))) : W p l e R s m args below meth c H locs cells slots Q (F0 m pc ls st0) := by
  intro T hT X
  rcases hr T hT X with ⟨v, st₀, t, T', L, h0, X', hL, e1, e2, ⟨⟨u, hv, hp, hb⟩, hF⟩, st⟩ | ⟨q, st₀, t, T', L, E, ce, h0, X', hL, e1, e2, ⟨u, hp, hb, hF⟩, hce, hcv, hcl, st⟩
  · cases hv
    obtain ⟨k1, k2, k3⟩ := vx_keep h0 e1 hS hA hf hL hF
    obtain ⟨t2, a1, b1⟩ := kk u t T'.heap (locs ++ L) e1.symm (by rw [← e2]; exact X'.warmed.alike) hp hb k1 k2 k3 T' rfl X'
    exact ⟨t2, st t2 a1, b1⟩
  · obtain ⟨k1, k2, k3⟩ := vx_keep h0 e1 hS hAX hf hL hF
    obtain ⟨t2, a1, b1⟩ := kx E ce q u t T'.heap (locs ++ L) e1.symm (by rw [← e2]; exact X'.warmed.alike) hp hb k1 k2 k3 (by rw [e1]; exact hce) hcv hcl T' rfl X'
    exact ⟨t2, st.trans a1, b1⟩
/-- caught by the row x of this method's table; the rows ahead don't take it -/
theorem vx_catch {own name : String} {E : String} {ce : Cell} {q : Addr} (hown : s.vm.findClass own = some m.cls) (pre : List ExceptionTableEntry) (x : ExceptionTableEntry) (suf : List ExceptionTableEntry) (hsplit : c.exceptionTable.toList = pre ++ x :: suf)
    (hpass : ∀ z ∈ pre, covers z pc = false ∨ (z.catchType ≠ 0 ∧ ∃ nm : String, (Cond.classLink own z.catchType nm).before args s = true ∧ va_Nc E nm s)) (hx : covers x pc = true) (h0 : x.catchType ≠ 0)
    (hlink : (Cond.classLink own x.catchType name).before args s = true) (hcast : (Cond.castable E name).before args s = true) (hcell : H[q]? = some ce) (hv : ce.vm = .none) (hcl : s.vm.findClass E = some ce.cls)
    (kk : W p l e R s m args below meth c H locs cells slots Q (F0 m x.handlerPc ls [.ref q])) : vx_W p l e R s m args below meth c H locs cells slots Q (F0 m pc ls rest) q := by
  intro T hT X
  have hpl : e.platform.magicAccessors = ({} : Platform).magicAccessors := by rw [X.admits.platform]
  obtain ⟨c3, c4, hc3, hc4, hasg⟩ := Cond.castable_spec hcast
  cases Option.some.inj (hc3.symm.trans hcl)
  obtain ⟨c5, hc5, hcl5⟩ := Cond.classLink_spec hown hlink e.platform hpl
  cases Option.some.inj (hc4.symm.trans hc5)
  obtain ⟨vm', X', st⟩ := X.thenCaughtThrough q (g := F0 m pc ls rest) rfl (Steps.refl _) (by rw [hT]; exact hcell) (by rw [hv]; rfl) (by obtain ⟨k9, h9, -⟩ := Vm.findClass_spec hcl; exact ⟨k9, h9⟩) pre x suf hsplit
    (fun z hz => by
      rcases hpass z hz with h | ⟨hz0, nm, hl1, hn1⟩
      · exact Or.inl h
      · obtain ⟨c6, hc6, hcl6⟩ := Cond.classLink_spec hown hl1 e.platform hpl
        obtain ⟨a8, b8, h1, h2, h3⟩ := hn1
        cases Option.some.inj (h1.symm.trans hcl)
        cases Option.some.inj (h2.symm.trans hc6)
        exact Or.inr ⟨hz0, _, hcl6, h3⟩) hx (Or.inr ⟨h0, c4, hcl5, hasg⟩)
  obtain ⟨t, a1, b1⟩ := kk (T.setVm vm') hT X'
  exact ⟨t, st.trans a1, b1⟩
end Rows
section Ends
variable {p : Program} {l : Launch} {e : Env} {R : Room} {s : State} {m : MethodId} {args : Array Value} {below : List Frame} {meth : Method} {c : Code} {H : Heap} {locs : List Loc} {cells slots : Nat} {Q : State → Prop}
variable {mc ms : Nat} {free : Addr → Prop} {A0 A1 : Nat → Prop} {H0 : Heap} {a : Array Value} {ls : Array Slot} {st0 rest : List Value}
variable {Qc : Array Value → State → Outcome → State → Prop} {XC : String → State → State → Prop}
/-- what a body that may throw owes at its end -/
def vx_MQ (below : List Frame) (Qc : Array Value → State → Outcome → State → Prop) (XC : String → State → State → Prop) (a : Array Value) (s : State) (mc ms : Nat) (free : Addr → Prop) : State → Prop := fun t =>
  ∃ o, t.status = .running ∧ Ended t below o ∧ vx_Q Qc XC mc ms free a s o t
theorem vx_ret {g : JFrame} {mc ms : Nat} (k : W p l e R s m args below meth c H locs cells slots (MQ below Qc args s mc ms free) g) : W p l e R s m args below meth c H locs cells slots (vx_MQ below Qc XC args s mc ms free) g := by
  intro T hT X
  obtain ⟨t, a1, o, b1, b2, b3, b4⟩ := k T hT X
  exact ⟨t, a1, o, b1, b2, Or.inl ⟨b3, b4⟩⟩
/-- not caught here: it goes on to the caller -/
theorem vx_widen {g : JFrame} {q : Addr} {k n : Nat} (h1 : cells ≤ k) (h2 : slots ≤ n) (kk : vx_W p l e R s m args below meth c H locs k n Q g q) : vx_W p l e R s m args below meth c H locs cells slots Q g q := fun T hT X => kk T hT (stand_widen X h1 h2)
theorem vx_out {pc : Nat} {E : String} {ce : Cell} {q : Addr} {mc ms : Nat} (hout : ∀ x ∈ c.exceptionTable.toList, covers x pc = false) (hlocks : meth.locks = false) (hcell : H[q]? = some ce) (hv : ce.vm = .none) (hcl : s.vm.findClass E = some ce.cls)
    (hx : ∀ t : State, t.heap = H → s.vm.Alike t.vm → XC E s t) (hf : ∀ z ∈ locs, free z.base) (hc : cells ≤ mc) (hs : slots ≤ ms) :
    vx_W p l e R s m args below meth c H locs cells slots (vx_MQ below Qc XC args s mc ms free) (F0 m pc ls rest) q := by
  intro T hT X
  obtain ⟨st1, hrun, hend, hW, hsm⟩ := X.leaveThrown q (g := F0 m pc ls rest) rfl rfl rfl hout hlocks
  have hcell9 : (T.setFrames (.throwing q :: below)).heap[q]? = some ce := by
    show T.heap[q]? = some ce
    rw [hT]; exact hcell
  exact ⟨_, st1, .threw q, hrun, hend, Or.inr ⟨q, rfl, E, ce, locs, hx _ hT hW.alike, hcell9, hv, hcl, hW, hsm.mono hc hs, hf⟩⟩
theorem vx_frame {U : State} {k n : Nat} (h : s.sameButNew ({ U with vm := s.vm } : State) locs k n) : s.heap.size ≤ U.heap.size ∧ ∀ q : Nat, q < s.heap.size → (∀ z ∈ locs, z.base ≠ q) → U.heap[q]? = s.heap[q]? := by
  obtain ⟨-, h2, -, -, -, h6⟩ := h
  refine ⟨h2, fun q hq hz => ?_⟩
  obtain ⟨c9, e1, e2, e3, e4⟩ := h6 q _ (Array.getElem?_eq_getElem hq)
  have hs : c9.slots = (s.heap[q]).slots := Array.ext_getElem? fun i => e4 i fun hm => hz _ hm rfl
  have h9 : c9 = s.heap[q] := by
    rw [hs] at e2
    exact e2
  have e5 : U.heap[q]? = some c9 := e1
  rw [e5, h9, Array.getElem?_eq_getElem hq]
/-- the words of a throw but the four that speak of the heap -/
def vx_no (w : Cond) : Bool := decide (w ≠ .isRef (.static Bundle.tN "UNASSIGNED_STACK" Bundle.steD)) && decide (w ≠ .isRef (.static Bundle.tN "SUPPRESSED_SENTINEL" Bundle.listD)) && decide (w ≠ .laysStatic Bundle.tN "UNASSIGNED_STACK" Bundle.steD) && decide (w ≠ .laysStatic Bundle.tN "SUPPRESSED_SENTINEL" Bundle.listD)
def vx_at0 (own : String) (ic : Nat) (X : String) (names : List String) : List Cond := (Bundle.ownAtoms0 own ic X names).filter vx_no
def vx_atS (own : String) (ic : Nat) (X : String) (names : List String) : List Cond := (Bundle.ownAtoms own ic X names).filter vx_no
/-- a word that the tables alone decide, or a good one -/
def vx_ot (w : Cond) : Bool := w.onTables || goodWord w
theorem vx_ot_at {args a' : Array Value} {s U : State} {w : Cond} (hW : s.WarmedH U.vm) (hvm : s.vm = U.vm) (hg : vx_ot w = true) (h : w.before args s = true) : w.before a' U = true := by
  simp only [vx_ot, Bool.or_eq_true] at hg
  rcases hg with hg | hg
  · exact va_tabs hg hvm h
  · exact word_at hW (good_of_word hg) h
/-- a list's words: the good ones out of the method's own list, the others by premises of their own -/
theorem vx_hat {args : Array Value} {s : State} {L B : List Cond} (h1 : ∀ w ∈ L.filter goodWord, w.before args s = true) (h2 : ∀ w ∈ L.filter (fun w => !goodWord w), w ∈ B) (h3 : ∀ w ∈ B, w.before args s = true) : ∀ w ∈ L, w.before args s = true := by
  intro w hw
  by_cases g : goodWord w = true
  · exact h1 w (List.mem_filter.mpr ⟨hw, g⟩)
  · refine h3 w (h2 w (List.mem_filter.mpr ⟨hw, ?_⟩))
    show (!goodWord w) = true
    cases hgw : goodWord w
    · rfl
    · exact absurd hgw g
theorem vx_c {args : Array Value} {s : State} {w : Cond} {B : List Cond} (h : w.before args s = true) (t : ∀ w ∈ B, w.before args s = true) : ∀ w' ∈ w :: B, w'.before args s = true := fun w' h' => (List.mem_cons.mp h').elim (fun e => by rw [e]; exact h) (t w')
theorem vx_n {args : Array Value} {s : State} : ∀ w ∈ ([] : List Cond), w.before args s = true := fun _ h => nomatch h
theorem vx_own {args : Array Value} {s : State} {L : List Cond} (h1 : ∀ w ∈ L.filter vx_no, w.before args s = true)
    (hU : (Cond.isRef (.static Bundle.tN "UNASSIGNED_STACK" Bundle.steD)).before args s = true) (hN : (Cond.isRef (.static Bundle.tN "SUPPRESSED_SENTINEL" Bundle.listD)).before args s = true)
    (lU : (Cond.laysStatic Bundle.tN "UNASSIGNED_STACK" Bundle.steD).before args s = true) (lN : (Cond.laysStatic Bundle.tN "SUPPRESSED_SENTINEL" Bundle.listD).before args s = true) : ∀ w ∈ L, w.before args s = true := by
  intro w hw
  by_cases e1 : w = .isRef (.static Bundle.tN "UNASSIGNED_STACK" Bundle.steD)
  · rw [e1]; exact hU
  · by_cases e2 : w = .isRef (.static Bundle.tN "SUPPRESSED_SENTINEL" Bundle.listD)
    · rw [e2]; exact hN
    · by_cases e3 : w = .laysStatic Bundle.tN "UNASSIGNED_STACK" Bundle.steD
      · rw [e3]; exact lU
      · by_cases e4 : w = .laysStatic Bundle.tN "SUPPRESSED_SENTINEL" Bundle.listD
        · rw [e4]; exact lN
        · exact h1 w (List.mem_filter.mpr ⟨hw, by unfold vx_no; rw [decide_eq_true e1, decide_eq_true e2, decide_eq_true e3, decide_eq_true e4]; rfl⟩)
/-- where a static field lies, its class's statics cell in H -/
def vx_L (C n d : String) (A : Nat → Prop) (U : State) (H : Heap) : Prop := ∃ (c : ClassId) (k : Class) (i : Nat) (f : Field) (a : Nat) (cell : Cell), U.vm.findClass C = some c ∧ U.fieldFound? C n d = some (c, k, i, f) ∧ f.isStatic = true ∧ k.statics = some a ∧ H[a]? = some cell ∧ cell.vm.isStatics = true ∧ cell.cls = c ∧ f.slot < cell.slots.size ∧ k.staticTypes[f.slot]? = some f.type ∧ ¬ A a
theorem vx_L.moved {C n d : String} {A : Nat → Prop} {u U : State} {H : Heap} (hvm : u.vm.Alike U.vm) (h : vx_L C n d A u H) : vx_L C n d A U H := by
  obtain ⟨c, k, i, f, a, cell, h1, h2, h3, h4, h5, h6, h7, h8, h9, h10⟩ := h
  obtain ⟨k', hi', he⟩ := State.fieldFound?_setVm hvm h2
  exact ⟨c, k', i, f, a, cell, by rw [hvm.findClass]; exact h1, hi', h3, by rw [he]; exact h4, h5, h6, h7, h8, by rw [he]; exact h9, h10⟩
theorem vx_L.kept {C n d : String} {A : Nat → Prop} {U : State} {H H1 : Heap} (h : vx_L C n d A U H) (hq : ∀ a : Nat, a < H.size → ¬ A a → H1[a]? = H[a]?) : vx_L C n d A U H1 := by
  obtain ⟨c, k, i, f, a, cell, h1, h2, h3, h4, h5, h6, h7, h8, h9, h10⟩ := h
  exact ⟨c, k, i, f, a, cell, h1, h2, h3, h4, by rw [hq a (Array.getElem?_eq_some_iff.mp h5).1 h10]; exact h5, h6, h7, h8, h9, h10⟩
theorem vx_L.narrow {C n d : String} {A B : Nat → Prop} {U : State} {H : Heap} (h : vx_L C n d A U H) (hAB : ∀ q, B q → A q) : vx_L C n d B U H := by
  obtain ⟨c, k, i, f, a, cell, h1, h2, h3, h4, h5, h6, h7, h8, h9, h10⟩ := h
  exact ⟨c, k, i, f, a, cell, h1, h2, h3, h4, h5, h6, h7, h8, h9, fun z => h10 (hAB _ z)⟩
theorem vx_L.word {C n d : String} {A : Nat → Prop} {s : State} {args : Array Value} (h : vx_L C n d A s s.heap) : (Cond.laysStatic C n d).before args s = true := by
  obtain ⟨c, k, i, f, a, cell, h1, h2, h3, h4, h5, h6, h7, h8, h9, -⟩ := h
  show (Cond.laysStatic C n d).holds args s none s [] = true
  exact Cond.laysStatic_of h1 h2 h3 h4 h5 h6 h7 h8 h9
/-- .. and what it holds: null or some reference -/
def vx_Zq (C n d : String) (A : Nat → Prop) (U : State) (H : Heap) : Prop := va_Zq C n d A U H ∧ vx_L C n d A U H
theorem vx_Zq.moved {C n d : String} {A : Nat → Prop} {u U : State} {H : Heap} (hvm : u.vm.Alike U.vm) (h : vx_Zq C n d A u H) : vx_Zq C n d A U H := ⟨va_Zq.moved hvm h.1, vx_L.moved hvm h.2⟩
theorem vx_Zq.kept {C n d : String} {A : Nat → Prop} {U : State} {H H1 : Heap} (h : vx_Zq C n d A U H) (hq : ∀ a : Nat, a < H.size → ¬ A a → H1[a]? = H[a]?) : vx_Zq C n d A U H1 := ⟨va_Zq.kept h.1 hq, vx_L.kept h.2 hq⟩
theorem vx_Zq.narrow {C n d : String} {A B : Nat → Prop} {U : State} {H : Heap} (h : vx_Zq C n d A U H) (hAB : ∀ q, B q → A q) : vx_Zq C n d B U H := ⟨va_Zq.narrow h.1 hAB, vx_L.narrow h.2 hAB⟩
theorem vx_Zqof {args : Array Value} {s : State} {C n d : String} {A : Nat → Prop} (hl : (Cond.laysStatic C n d).before args s = true) (hini : (Cond.initialized C).before args s = true) (h : (Cond.isRef (.static C n d)).before args s = true) (hA : ∀ a : Nat, a < s.heap.size → ¬ A a) : vx_Zq C n d A s s.heap := by
  refine ⟨va_Zqof hl hini h hA, ?_⟩
  obtain ⟨c, k, i, f, a, cell, h1, h2, h3, h4, h5, h6, h7, h8, h9⟩ := Cond.laysStatic_spec hl
  exact ⟨c, k, i, f, a, cell, h1, h2, h3, h4, h5, h6, h7, h8, h9, hA a (Array.getElem?_eq_some_iff.mp h5).1⟩
theorem vx_isRef {C n d : String} {v : Value} {A : Nat → Prop} {s : State} {args : Array Value} (h : va_Z C n d v A s s.heap) (hv : v.isRef = true) : (Cond.isRef (.static C n d)).before args s = true := by
  obtain ⟨cf, kf, fi, f, a, cell, h1, h2, h3, h4, h5, h6, h7, -⟩ := h
  have he : (Term.static C n d).eval args s none [] s = some v := by
    simp [Term.eval, State.fieldNamed?, h1, h2, h4, h5, h6, h7]
  simp only [Cond.before, Cond.holds, Cond.value, he]
  cases v <;> simp_all [Value.isRef]
theorem vx_isRefq {C n d : String} {A : Nat → Prop} {s : State} {args : Array Value} (h : va_Zq C n d A s s.heap) : (Cond.isRef (.static C n d)).before args s = true := by
  rcases h with h | ⟨t, h⟩
  · exact vx_isRef h rfl
  · exact vx_isRef h rfl
/-- the same frame, seen from here: as if the method were called anew in this heap -/
theorem vx_rebase {T : State} (X : Stand p l e R s m args below meth c T locs cells slots) {R' : Room} (hf : R'.frames ≤ R.frames) (hl : R'.locals ≤ R.locals) (hc : cells + R'.cells ≤ R.cells) (hs : slots + R'.slots ≤ R.slots) :
    Stand p l e R' ((T.setVm s.vm).setFrames (.invoking m args :: below)) m args below meth c T [] 0 0 := by
  have htop : (T.setVm s.vm).topJava?.isSome := X.here.top
  have hF : ((T.setVm s.vm).setFrames (.invoking m args :: below)).frames = .invoking m args :: below := State.frames_setFrames _ (State.cur_lt_of_top htop)
  obtain ⟨g₀, hg0⟩ := Option.isSome_iff_exists.mp htop
  obtain ⟨r, hr⟩ := State.topJava?_eq_some.mp hg0
  have hl9 : e.platform.stackLimits (T.setVm s.vm).me = e.platform.stackLimits s.me := X.limits
  have hb9 : (T.setVm s.vm).me.stackBytes = s.me.stackBytes := X.bytes
  refine ⟨X.admits, X.cas, X.clock, hF, ?_, X.hears, X.method, X.code, X.here, X.tail, X.warmed, ?_, ?_, ?_⟩
  · have h := X.room
    have hU : ((T.setVm s.vm).setFrames (.invoking m args :: below)).localsInUse = s.localsInUse := by
      rw [State.localsInUse_invoking hF (meth := meth) (c := c) X.method X.code, State.localsInUse_invoking X.frames X.method X.code]
    simp only [State.hasRoom, Bool.and_eq_true, decide_eq_true_eq] at h ⊢
    obtain ⟨⟨⟨⟨h1, h2, h3, h4, h5, h6⟩, h7⟩, h8⟩, h9⟩ := h
    rw [X.frames, List.length_cons] at h2 h3
    have q1 := X.heapSize
    have q2 := X.used
    simp only [hF, hU, List.length_cons, State.stackLimits_setFrames, State.stackBytes_setFrames, hl9, hb9]
    refine ⟨⟨⟨⟨by omega, by omega, by omega, by omega, by omega, h6⟩, ?_⟩, ?_⟩, X.book⟩
    · show T.heap.size + R'.cells ≤ e.platform.maxCells
      omega
    · show T.slotsUsed + R'.slots ≤ e.platform.maxSlots
      omega
  · rw [State.stackLimits_setFrames]; rfl
  · rw [State.stackBytes_setFrames]; rfl
  · refine ⟨?_, Nat.le_refl _, Nat.le_refl _, ?_, ?_, fun a c9 h9 => ⟨c9, h9, rfl, rfl, fun _ _ => rfl⟩⟩
    · obtain ⟨t, ht, -⟩ := State.frames_cons hr
      show T.setVm s.vm = { ((T.setVm s.vm).setFrames (.invoking m args :: below)).setFrames (T.setVm s.vm).frames with heap := T.heap, slotsUsed := T.slotsUsed }
      rw [State.setFrames_setFrames, State.setFrames_self ht]
      rfl
    · show T.slotsUsed = T.slotsUsed + ((T.heap.toList.drop T.heap.size).map (·.slots.size)).sum
      rw [List.drop_eq_nil_of_le (Nat.le_of_eq Array.length_toList)]
      rfl
    · show ((T.heap.toList.drop T.heap.size).map (·.slots.size)).sum ≤ 0
      rw [List.drop_eq_nil_of_le (Nat.le_of_eq Array.length_toList)]
      exact Nat.le_refl _
/-- 'throw new E()': new; dup; invokespecial; athrow -/
theorem vx_throw0 {cc : ByteArray} {pc : Nat} (hexec : p.tables.exec = Jvm.exec) (hb : c.code = cc) (hl : l.stackTraces = false) {own cls : String} {names : List String} {ik ic mc ms : Nat} {A : Nat → Prop}
    (hown : s.vm.findClass own = some m.cls) (hcls : Bundle.fit cls = true) (hnames : ∀ n ∈ names, Bundle.fit n = true)
    (hk : (Cond.classLink own ik cls).before args s = true) (hini : (Cond.initialized cls).before args s = true) (hat : ∀ w ∈ vx_at0 own ic cls names, w.before args s = true)
    (hgood : ∀ w ∈ Cond.classLink own ik cls :: Cond.initialized cls :: vx_at0 own ic cls names, vx_ot w = true)
    (hU : vx_Zq Bundle.tN "UNASSIGNED_STACK" Bundle.steD A s s.heap) (hN : vx_Zq Bundle.tN "SUPPRESSED_SENTINEL" Bundle.listD A s s.heap) (hS : va_S A s.heap H locs) (hsize : ls.size = c.maxLocals)
    (d0 : decode cc pc = .ok (.new ik, 3)) (d3 : decode cc (pc + 3) = .ok (.dup, 1)) (d4 : decode cc (pc + 4) = .ok (.invokespecial ic, 3)) (d7 : decode cc (pc + 7) = .ok (.athrow, 1))
    (hout : ∀ x ∈ c.exceptionTable.toList, covers x (pc + 7) = false)
    (hRframes : names.length + 3 < R.frames) (hRlocals : (rest.map fun v => v.category).sum + (13 * (names.length + 1) + 42) ≤ R.locals) (hRcells : cells + 1 ≤ R.cells) (hRslots : slots + 6 ≤ R.slots) (hlocks : meth.locks = false)
    (hx : ∀ t : State, s.vm.Alike t.vm → H.size ≤ t.heap.size → (∀ q : Nat, q < H.size → t.heap[q]? = H[q]?) → XC cls s t)
    (hf : ∀ z ∈ locs, free z.base) (hc : cells + 1 ≤ mc) (hs : slots + 6 ≤ ms) :
    W p l e R s m args below meth c H locs cells slots (vx_MQ below Qc XC args s mc ms free) (F0 m pc ls rest) := by
  intro T hT X
  have htr : e.platform.stackTraces = false := (show e.platform.stackTraces = l.stackTraces by rw [X.admits.platform]).trans hl
  have Y := vx_rebase X (R' := { frames := R.frames, locals := R.locals, cells := 1, slots := 6 }) (Nat.le_refl _) (Nat.le_refl _) hRcells hRslots
  obtain ⟨s', hA⟩ : ∃ z, z = (T.setVm s.vm).setFrames (.invoking m args :: below) := ⟨_, rfl⟩
  rw [← hA] at Y
  have hvm : s'.vm = s.vm := by rw [hA]; rfl
  have hhp : s'.heap = H := by rw [hA]; exact hT
  have hW0 : s.WarmedH s'.vm := by rw [hvm]; exact State.WarmedH.refl s
  have hat' : ∀ w ∈ vx_at0 own ic cls names, w.before args s' = true := fun w hw => vx_ot_at hW0 hvm.symm (hgood w (List.mem_cons_of_mem _ (List.mem_cons_of_mem _ hw))) (hat w hw)
  have hk' : (Cond.classLink own ik cls).before args s' = true := vx_ot_at hW0 hvm.symm (hgood _ List.mem_cons_self) hk
  have hini' : (Cond.initialized cls).before args s' = true := vx_ot_at hW0 hvm.symm (hgood _ (List.mem_cons_of_mem _ List.mem_cons_self)) hini
  have hU' : vx_Zq Bundle.tN "UNASSIGNED_STACK" Bundle.steD A s' s'.heap := by rw [hhp]; exact vx_Zq.moved hW0.alike (hU.kept hS.2.1)
  have hN' : vx_Zq Bundle.tN "SUPPRESSED_SENTINEL" Bundle.listD A s' s'.heap := by rw [hhp]; exact vx_Zq.moved hW0.alike (hN.kept hS.2.1)
  have h : ∀ w ∈ Bundle.ownAtoms0 own ic cls names, w.before args s' = true := vx_own hat' (vx_isRefq hU'.1) (vx_isRefq hN'.1) hU'.2.word hN'.2.word
  have hown' : s'.vm.findClass own = some m.cls := by rw [hvm]; exact hown
  have hins : (Cond.instantiable cls 6).before args s' = true := h _ (by simp [Bundle.ownAtoms0])
  obtain ⟨vm₁, cX, kX, hfX, hkX, -, -, X₁, st1⟩ := Y.newCold hexec (own := own) (C := cls) (index := ik) (n := 6) hown' hk' hins hini'
    (g := F0 m pc ls rest) rfl (by rw [hb]; exact d0) (Nat.le_refl _) (Nat.le_refl _)
  generalize hT1 : (T.setVm vm₁).pushCell { cls := cX, slots := kX.instanceTypes.map defaultValue, vm := .none } = T1 at X₁ st1
  have hcat : (Value.ref T.heap.size).category = 1 := rfl
  have hcellA : T1.heap[T.heap.size]? = some (freshCell cX kX) := by rw [← hT1]; exact State.heap_pushCell_size _ _
  have d3' : decode c.code (pc + 3) = .ok (.dup, 1) := by rw [hb]; exact d3
  obtain ⟨U, hsteps, hrun, hend, hW, hsame, ce, hce, hO⟩ := X₁.ctorThrow0 hexec htr (own := own) (cls := cls) (names := names) (ic := ic) hown' hcls hnames h (fun x hx => nomatch hx) hfX hkX hcellA (by rw [hhp, hT]; exact Nat.le_refl _)
    (g := { method := m, pc := pc + 4, locals := ls, stack := .ref T.heap.size :: .ref T.heap.size :: rest, locked := none }) rfl hsize rfl rfl (rest := rest) rfl
    (by rw [hb]; exact d4) (by rw [hb]; exact d7) hout hRframes (by simp only [List.map_cons, List.sum_cons, hcat]; omega) hlocks
  obtain ⟨f1, f2⟩ := vx_frame hsame
  rw [hhp] at f1 f2
  have hWs : s.WarmedH U.vm := State.WarmedH.trans hW0 hW
  have hcl : s.vm.findClass cls = some ce.cls := by
    have h9 := hO.cls
    rw [hvm] at h9
    exact h9
  have hall : s.sameButNew ({ U with vm := s.vm } : State) locs mc ms := by
    subst hA
    obtain ⟨e1, e2⟩ := hsame
    rw [State.setFrames_setFrames] at e1
    have h2 : (T.setVm s.vm).sameButNew ({ U with vm := s.vm } : State) [] (0 + 1) (0 + 6) := ⟨e1, e2⟩
    have h3 := X.same.trans h2
    rw [List.append_nil] at h3
    exact h3.mono hc hs
  refine ⟨U, ?_, .threw T.heap.size, hrun, hend, Or.inr ⟨T.heap.size, rfl, cls, ce, locs, hx U hWs.alike f1 (fun q hq => f2 q hq (fun z hz => nomatch hz)), hce, hO.vm, hcl, hWs, hall, hf⟩⟩
  refine st1 _ ?_
  show Steps p.tables e below (T1.setTop { method := m, pc := pc + 3, locals := ls, stack := .ref T.heap.size :: rest, locked := none }) _
  jvm_step X₁.here [X₁.here.top, hexec, d3', Value.category]
  exact hsteps
/-- 'throw new E("text")': new; dup; ldc; invokespecial; athrow -/
theorem vx_throwS {cc : ByteArray} {pc : Nat} (hexec : p.tables.exec = Jvm.exec) (hb : c.code = cc) (hl : l.stackTraces = false) {own cls text : String} {names : List String} {ik is ic mc ms sa : Nat} {A : Nat → Prop}
    (hown : s.vm.findClass own = some m.cls) (hcls : Bundle.fit cls = true) (hnames : ∀ n ∈ names, Bundle.fit n = true)
    (hk : (Cond.classLink own ik cls).before args s = true) (hini : (Cond.initialized cls).before args s = true) (hstr : vk_R own is text sa s) (hat : ∀ w ∈ vx_atS own ic cls names, w.before args s = true)
    (hgood : ∀ w ∈ Cond.classLink own ik cls :: Cond.initialized cls :: vx_atS own ic cls names, vx_ot w = true)
    (hU : vx_Zq Bundle.tN "UNASSIGNED_STACK" Bundle.steD A s s.heap) (hN : vx_Zq Bundle.tN "SUPPRESSED_SENTINEL" Bundle.listD A s s.heap) (hS : va_S A s.heap H locs) (hsize : ls.size = c.maxLocals)
    (d0 : decode cc pc = .ok (.new ik, 3)) (d3 : decode cc (pc + 3) = .ok (.dup, 1)) (d4 : decode cc (pc + 4) = .ok (.ldc is, 2)) (d6 : decode cc (pc + 6) = .ok (.invokespecial ic, 3)) (d9 : decode cc (pc + 9) = .ok (.athrow, 1))
    (hout : ∀ x ∈ c.exceptionTable.toList, covers x (pc + 9) = false)
    (hRframes : names.length + 3 < R.frames) (hRlocals : (rest.map fun v => v.category).sum + (13 * (names.length + 1) + 43) ≤ R.locals) (hRcells : cells + 1 ≤ R.cells) (hRslots : slots + 6 ≤ R.slots) (hlocks : meth.locks = false)
    (hx : ∀ t : State, s.vm.Alike t.vm → H.size ≤ t.heap.size → (∀ q : Nat, q < H.size → t.heap[q]? = H[q]?) → XC cls s t)
    (hf : ∀ z ∈ locs, free z.base) (hc : cells + 1 ≤ mc) (hs : slots + 6 ≤ ms) :
    W p l e R s m args below meth c H locs cells slots (vx_MQ below Qc XC args s mc ms free) (F0 m pc ls rest) := by
  intro T hT X
  have htr : e.platform.stackTraces = false := (show e.platform.stackTraces = l.stackTraces by rw [X.admits.platform]).trans hl
  have Y := vx_rebase X (R' := { frames := R.frames, locals := R.locals, cells := 1, slots := 6 }) (Nat.le_refl _) (Nat.le_refl _) hRcells hRslots
  obtain ⟨s', hA⟩ : ∃ z, z = (T.setVm s.vm).setFrames (.invoking m args :: below) := ⟨_, rfl⟩
  rw [← hA] at Y
  have hvm : s'.vm = s.vm := by rw [hA]; rfl
  have hhp : s'.heap = H := by rw [hA]; exact hT
  have hW0 : s.WarmedH s'.vm := by rw [hvm]; exact State.WarmedH.refl s
  have hat' : ∀ w ∈ vx_atS own ic cls names, w.before args s' = true := fun w hw => vx_ot_at hW0 hvm.symm (hgood w (List.mem_cons_of_mem _ (List.mem_cons_of_mem _ hw))) (hat w hw)
  have hk' : (Cond.classLink own ik cls).before args s' = true := vx_ot_at hW0 hvm.symm (hgood _ List.mem_cons_self) hk
  have hini' : (Cond.initialized cls).before args s' = true := vx_ot_at hW0 hvm.symm (hgood _ (List.mem_cons_of_mem _ List.mem_cons_self)) hini
  have hU' : vx_Zq Bundle.tN "UNASSIGNED_STACK" Bundle.steD A s' s'.heap := by rw [hhp]; exact vx_Zq.moved hW0.alike (hU.kept hS.2.1)
  have hN' : vx_Zq Bundle.tN "SUPPRESSED_SENTINEL" Bundle.listD A s' s'.heap := by rw [hhp]; exact vx_Zq.moved hW0.alike (hN.kept hS.2.1)
  have h : ∀ w ∈ Bundle.ownAtoms own ic cls names, w.before args s' = true := vx_own hat' (vx_isRefq hU'.1) (vx_isRefq hN'.1) hU'.2.word hN'.2.word
  have hown' : s'.vm.findClass own = some m.cls := by rw [hvm]; exact hown
  have hins : (Cond.instantiable cls 6).before args s' = true := h _ (by simp [Bundle.ownAtoms])
  obtain ⟨vm₁, cX, kX, hfX, hkX, -, -, X₁, st1⟩ := Y.newCold hexec (own := own) (C := cls) (index := ik) (n := 6) hown' hk' hins hini'
    (g := F0 m pc ls rest) rfl (by rw [hb]; exact d0) (Nat.le_refl _) (Nat.le_refl _)
  generalize hT1 : (T.setVm vm₁).pushCell { cls := cX, slots := kX.instanceTypes.map defaultValue, vm := .none } = T1 at X₁ st1
  have hcat : (Value.ref T.heap.size).category = 1 := rfl
  have hcellA : T1.heap[T.heap.size]? = some (freshCell cX kX) := by rw [← hT1]; exact State.heap_pushCell_size _ _
  have d3' : decode c.code (pc + 3) = .ok (.dup, 1) := by rw [hb]; exact d3
  have d4' : decode c.code (pc + 4) = .ok (.ldc is, 2) := by rw [hb]; exact d4
  have hstr' : vk_R own is text sa s' := vk_R.warm hW0 hstr
  obtain ⟨U, hsteps, hrun, hend, hW, hsame, ce, hce, hO⟩ := X₁.ctorThrowS hexec htr (own := own) (cls := cls) (names := names) (ic := ic) hown' hcls hnames h (fun x hx => nomatch hx) hfX hkX hcellA (by rw [hhp, hT]; exact Nat.le_refl _) (msg := .ref sa) rfl
    (g := { method := m, pc := pc + 6, locals := ls, stack := .ref sa :: .ref T.heap.size :: .ref T.heap.size :: rest, locked := none }) rfl hsize rfl rfl (rest := rest) rfl
    (by rw [hb]; exact d6) (by rw [hb]; exact d9) hout hRframes (by simp only [List.map_cons, List.sum_cons, hcat]; omega) hlocks
  obtain ⟨f1, f2⟩ := vx_frame hsame
  rw [hhp] at f1 f2
  have hWs : s.WarmedH U.vm := State.WarmedH.trans hW0 hW
  have hcl : s.vm.findClass cls = some ce.cls := by
    have h9 := hO.cls
    rw [hvm] at h9
    exact h9
  have hall : s.sameButNew ({ U with vm := s.vm } : State) locs mc ms := by
    subst hA
    obtain ⟨e1, e2⟩ := hsame
    rw [State.setFrames_setFrames] at e1
    have h2 : (T.setVm s.vm).sameButNew ({ U with vm := s.vm } : State) [] (0 + 1) (0 + 6) := ⟨e1, e2⟩
    have h3 := X.same.trans h2
    rw [List.append_nil] at h3
    exact h3.mono hc hs
  refine ⟨U, ?_, .threw T.heap.size, hrun, hend, Or.inr ⟨T.heap.size, rfl, cls, ce, locs, hx U hWs.alike f1 (fun q hq => f2 q hq (fun z hz => nomatch hz)), hce, hO.vm, hcl, hWs, hall, hf⟩⟩
  refine st1 _ ?_
  show Steps p.tables e below (T1.setTop { method := m, pc := pc + 3, locals := ls, stack := .ref T.heap.size :: rest, locked := none }) _
  jvm_step X₁.here [X₁.here.top, hexec, d3', Value.category]
  exact X₁.ldcString hexec (own := own) (text := text) (index := is) (a := sa) hown' hstr'.1 hstr'.2
    (g := { method := m, pc := pc + 4, locals := ls, stack := .ref T.heap.size :: .ref T.heap.size :: rest, locked := none }) rfl d4' _ hsteps
/-- 'throw new E("text")', the text by a wide index -/
theorem vx_throwSW {cc : ByteArray} {pc : Nat} (hexec : p.tables.exec = Jvm.exec) (hb : c.code = cc) (hl : l.stackTraces = false) {own cls text : String} {names : List String} {ik is ic mc ms sa : Nat} {A : Nat → Prop}
    (hown : s.vm.findClass own = some m.cls) (hcls : Bundle.fit cls = true) (hnames : ∀ n ∈ names, Bundle.fit n = true)
    (hk : (Cond.classLink own ik cls).before args s = true) (hini : (Cond.initialized cls).before args s = true) (hstr : vk_R own is text sa s) (hat : ∀ w ∈ vx_atS own ic cls names, w.before args s = true)
    (hgood : ∀ w ∈ Cond.classLink own ik cls :: Cond.initialized cls :: vx_atS own ic cls names, vx_ot w = true)
    (hU : vx_Zq Bundle.tN "UNASSIGNED_STACK" Bundle.steD A s s.heap) (hN : vx_Zq Bundle.tN "SUPPRESSED_SENTINEL" Bundle.listD A s s.heap) (hS : va_S A s.heap H locs) (hsize : ls.size = c.maxLocals)
    (d0 : decode cc pc = .ok (.new ik, 3)) (d3 : decode cc (pc + 3) = .ok (.dup, 1)) (d4 : decode cc (pc + 4) = .ok (.ldc_w is, 3)) (d7 : decode cc (pc + 7) = .ok (.invokespecial ic, 3)) (d10 : decode cc (pc + 10) = .ok (.athrow, 1))
    (hout : ∀ x ∈ c.exceptionTable.toList, covers x (pc + 10) = false)
    (hRframes : names.length + 3 < R.frames) (hRlocals : (rest.map fun v => v.category).sum + (13 * (names.length + 1) + 43) ≤ R.locals) (hRcells : cells + 1 ≤ R.cells) (hRslots : slots + 6 ≤ R.slots) (hlocks : meth.locks = false)
    (hx : ∀ t : State, s.vm.Alike t.vm → H.size ≤ t.heap.size → (∀ q : Nat, q < H.size → t.heap[q]? = H[q]?) → XC cls s t)
    (hf : ∀ z ∈ locs, free z.base) (hc : cells + 1 ≤ mc) (hs : slots + 6 ≤ ms) :
    W p l e R s m args below meth c H locs cells slots (vx_MQ below Qc XC args s mc ms free) (F0 m pc ls rest) := by
  intro T hT X
  have htr : e.platform.stackTraces = false := (show e.platform.stackTraces = l.stackTraces by rw [X.admits.platform]).trans hl
  have Y := vx_rebase X (R' := { frames := R.frames, locals := R.locals, cells := 1, slots := 6 }) (Nat.le_refl _) (Nat.le_refl _) hRcells hRslots
  obtain ⟨s', hA⟩ : ∃ z, z = (T.setVm s.vm).setFrames (.invoking m args :: below) := ⟨_, rfl⟩
  rw [← hA] at Y
  have hvm : s'.vm = s.vm := by rw [hA]; rfl
  have hhp : s'.heap = H := by rw [hA]; exact hT
  have hW0 : s.WarmedH s'.vm := by rw [hvm]; exact State.WarmedH.refl s
  have hat' : ∀ w ∈ vx_atS own ic cls names, w.before args s' = true := fun w hw => vx_ot_at hW0 hvm.symm (hgood w (List.mem_cons_of_mem _ (List.mem_cons_of_mem _ hw))) (hat w hw)
  have hk' : (Cond.classLink own ik cls).before args s' = true := vx_ot_at hW0 hvm.symm (hgood _ List.mem_cons_self) hk
  have hini' : (Cond.initialized cls).before args s' = true := vx_ot_at hW0 hvm.symm (hgood _ (List.mem_cons_of_mem _ List.mem_cons_self)) hini
  have hU' : vx_Zq Bundle.tN "UNASSIGNED_STACK" Bundle.steD A s' s'.heap := by rw [hhp]; exact vx_Zq.moved hW0.alike (hU.kept hS.2.1)
  have hN' : vx_Zq Bundle.tN "SUPPRESSED_SENTINEL" Bundle.listD A s' s'.heap := by rw [hhp]; exact vx_Zq.moved hW0.alike (hN.kept hS.2.1)
  have h : ∀ w ∈ Bundle.ownAtoms own ic cls names, w.before args s' = true := vx_own hat' (vx_isRefq hU'.1) (vx_isRefq hN'.1) hU'.2.word hN'.2.word
  have hown' : s'.vm.findClass own = some m.cls := by rw [hvm]; exact hown
  have hins : (Cond.instantiable cls 6).before args s' = true := h _ (by simp [Bundle.ownAtoms])
  obtain ⟨vm₁, cX, kX, hfX, hkX, -, -, X₁, st1⟩ := Y.newCold hexec (own := own) (C := cls) (index := ik) (n := 6) hown' hk' hins hini'
    (g := F0 m pc ls rest) rfl (by rw [hb]; exact d0) (Nat.le_refl _) (Nat.le_refl _)
  generalize hT1 : (T.setVm vm₁).pushCell { cls := cX, slots := kX.instanceTypes.map defaultValue, vm := .none } = T1 at X₁ st1
  have hcat : (Value.ref T.heap.size).category = 1 := rfl
  have hcellA : T1.heap[T.heap.size]? = some (freshCell cX kX) := by rw [← hT1]; exact State.heap_pushCell_size _ _
  have d3' : decode c.code (pc + 3) = .ok (.dup, 1) := by rw [hb]; exact d3
  have d4' : decode c.code (pc + 4) = .ok (.ldc_w is, 3) := by rw [hb]; exact d4
  have hstr' : vk_R own is text sa s' := vk_R.warm hW0 hstr
  obtain ⟨U, hsteps, hrun, hend, hW, hsame, ce, hce, hO⟩ := X₁.ctorThrowS hexec htr (own := own) (cls := cls) (names := names) (ic := ic) hown' hcls hnames h (fun x hx => nomatch hx) hfX hkX hcellA (by rw [hhp, hT]; exact Nat.le_refl _) (msg := .ref sa) rfl
    (g := { method := m, pc := pc + 7, locals := ls, stack := .ref sa :: .ref T.heap.size :: .ref T.heap.size :: rest, locked := none }) rfl hsize rfl rfl (rest := rest) rfl
    (by rw [hb]; exact d7) (by rw [hb]; exact d10) hout hRframes (by simp only [List.map_cons, List.sum_cons, hcat]; omega) hlocks
  obtain ⟨f1, f2⟩ := vx_frame hsame
  rw [hhp] at f1 f2
  have hWs : s.WarmedH U.vm := State.WarmedH.trans hW0 hW
  have hcl : s.vm.findClass cls = some ce.cls := by
    have h9 := hO.cls
    rw [hvm] at h9
    exact h9
  have hall : s.sameButNew ({ U with vm := s.vm } : State) locs mc ms := by
    subst hA
    obtain ⟨e1, e2⟩ := hsame
    rw [State.setFrames_setFrames] at e1
    have h2 : (T.setVm s.vm).sameButNew ({ U with vm := s.vm } : State) [] (0 + 1) (0 + 6) := ⟨e1, e2⟩
    have h3 := X.same.trans h2
    rw [List.append_nil] at h3
    exact h3.mono hc hs
  refine ⟨U, ?_, .threw T.heap.size, hrun, hend, Or.inr ⟨T.heap.size, rfl, cls, ce, locs, hx U hWs.alike f1 (fun q hq => f2 q hq (fun z hz => nomatch hz)), hce, hO.vm, hcl, hWs, hall, hf⟩⟩
  refine st1 _ ?_
  show Steps p.tables e below (T1.setTop { method := m, pc := pc + 3, locals := ls, stack := .ref T.heap.size :: rest, locked := none }) _
  jvm_step X₁.here [X₁.here.top, hexec, d3', Value.category]
  exact X₁.ldcStringW hexec (own := own) (text := text) (index := is) (a := sa) hown' hstr'.1 hstr'.2
    (g := { method := m, pc := pc + 4, locals := ls, stack := .ref T.heap.size :: .ref T.heap.size :: rest, locked := none }) rfl d4' _ hsteps
end Ends
section Bodies
variable {l : Launch}
theorem vx_ofW {y : MethodName} {ws ws' : List Cond} {rm : Room} {Pc : Array Value → State → Prop} {Qc : Array Value → State → Outcome → State → Prop} {XC : String → State → State → Prop} {mc ms : Nat} {free : Addr → Prop} {cc : ByteArray} {maxL : Nat} {ret : Option FieldType}
    (hy : plainName y.cls = true) (hw : ws = Cond.code y cc maxL ret :: ws')
    (body : ∀ p e s m args below meth c s₁, BodyLoose p l y (headSpec ws rm) cc maxL ret e s m args below meth c s₁ → c.maxLocals = maxL → (∀ x ∈ c.exceptionTable.toList, False) → Pc args s →
      W p l e (headSpec ws rm).room s m args below meth c s.heap [] 0 0 (vx_MQ below Qc XC args s mc ms free) (entryFrame m args maxL)) : vx_Met l y ws rm Pc Qc XC mc ms free := by
  refine MetFree.of_bodyS (code := cc) (maxLocals := maxL) (ret := ret) hy ?_ ?_
  · intro args s m h hn
    obtain ⟨meth, c, h1, h2, h3, h4, h5, h6, -, -⟩ := Cond.code_spec hn (atoms_spec (ws := ws) h _ (by rw [hw]; exact List.mem_cons_self))
    exact ⟨meth, c, h1, h2, h3, h4, h5, h6⟩
  · intro p e s m args below meth c s₁ B hml hP _
    have hh0 : s₁.heap = s.heap := by rw [B.state]; rfl
    have ht : ∀ x ∈ c.exceptionTable.toList, False := by
      obtain ⟨meth9, c9, h1, h2, -, -, -, -, h7, -⟩ := Cond.code_spec B.named (atoms_spec (ws := ws) B.pre _ (by rw [hw]; exact List.mem_cons_self))
      cases Option.some.inj (h1.symm.trans B.method)
      cases Option.some.inj (h2.symm.trans (Stand.of_body B).code)
      intro x hx
      rw [Array.isEmpty_iff.mp h7] at hx
      cases hx
    obtain ⟨t, a1, o, b1, b2, b3⟩ := body p e s m args below meth c s₁ B hml ht hP s₁ hh0 (Stand.of_body B)
    exact ⟨t, o, a1, b1, b2, b3⟩
/-- the table of a body with handlers -/
theorem vx_table {p : Program} {x y : MethodName} {S : Spec} {cc bytes : ByteArray} {maxL maxL' : Nat} {ret ret' : Option FieldType} {e : Env} {s s₁ : State} {m : MethodId} {args : Array Value} {below : List Frame} {meth : Method} {c : Code} {hh : List (Nat × Nat × Nat × Nat)}
    (B : BodyLoose p l y S cc maxL ret e s m args below meth c s₁) (h : (Cond.codeWith y bytes maxL' ret' hh).before args s = true) : c.exceptionTable.toList = tableOf hh := by
  obtain ⟨m9, meth9, c9, hn9, h1, h2, -, -, h6, -⟩ := Cond.codeWith_spec h
  cases Option.some.inj (hn9.symm.trans B.named)
  cases Option.some.inj (h1.symm.trans B.method)
  cases Option.some.inj (h2.symm.trans (Stand.of_body B).code)
  rw [← h6, table_eq]
end Bodies
end VXA
/-! ===== END ===== -/
/-! ===== BEGIN a static call of a method with an exception table ===== -/
section VXS
variable {p : Program} {l : Launch} {e : Env} {R : Room} {s : State} {m : MethodId} {args : Array Value} {below : List Frame} {meth : Method} {c : Code} {T : State} {H : Heap} {locs : List Loc} {cells slots : Nat}
abbrev vx_CSW (R : Room) (s : State) (args : Array Value) (own : String) (index : Nat) (y : MethodName) (bytes : ByteArray) (maxL : Nat) (ret : Option FieldType) (hh : List (Nat × Nat × Nat × Nat)) (ws : List Cond) (rm : Room) (mc ms n : Nat) : Prop :=
  (rm.cells = mc ∧ rm.slots = ms ∧ rm.frames + 1 ≤ R.frames ∧ 8 + (maxL + 11) + rm.locals ≤ R.locals ∧ (∀ w ∈ ws, ∀ (a' : Array Value) (U : State), s.WarmedH U.vm → w.before a' U = true) ∧ Cond.codeWith y bytes maxL ret hh ∈ ws) ∧
  (Cond.codeWith y bytes maxL ret hh).before args s = true ∧ (Cond.initialized y.cls).before args s = true ∧ (y.cls ≠ "java/lang/invoke/MethodHandle" ∧ y.cls ≠ "java/lang/invoke/VarHandle") ∧
  (∀ sig, parseMethodDescriptor y.desc = some sig → n = sig.parameters.length) ∧ (Cond.methodLink own index y).before args s = true ∧ (Cond.static y).before args s = true
theorem vx_cwSW {own : String} {index maxL mc ms : Nat} {y : MethodName} {bytes : ByteArray} {ret : Option FieldType} {hh : List (Nat × Nat × Nat × Nat)} {Ts ws ws' : List Cond} {rm : Room} (n : Nat) (ht : ∀ w ∈ Ts, w.before args s = true) (hT : GoodIn Ts (va_wsS own index y ws)) (hw : ws = Cond.codeWith y bytes maxL ret hh :: ws') (hrc : rm.cells = mc) (hrs : rm.slots = ms)
    (hd : y.cls ≠ "java/lang/invoke/MethodHandle" ∧ y.cls ≠ "java/lang/invoke/VarHandle" ∧ (parseMethodDescriptor y.desc).map (fun d => d.parameters.length) = some n) (hR : rm.frames + 1 ≤ R.frames ∧ 8 + (maxL + 11) + rm.locals ≤ R.locals) :
    vx_CSW R s args own index y bytes maxL ret hh ws rm mc ms n := by
  have ok : ∀ w ∈ va_wsS own index y ws, w.before args s = true := fun w h => ht w (hT w h).1
  have hG : GoodIn Ts ws := fun w h => hT w (by unfold va_wsS; exact List.mem_append_right _ h)
  have hc : Cond.codeWith y bytes maxL ret hh ∈ ws := by rw [hw]; exact List.mem_cons_self
  refine ⟨⟨hrc, hrs, hR.1, hR.2, pay_in ht hG, hc⟩, ht _ (hG _ hc).1, ok _ (by simp [va_wsS]), ⟨hd.1, hd.2.1⟩, fun sig h => ?_, ok _ (by simp [va_wsS]), ok _ (by simp [va_wsS])⟩
  have h2 := hd.2.2
  rw [h] at h2
  exact (Option.some.inj h2).symm
theorem vx_callSW (X : Stand p l e R s m args below meth c T locs cells slots) (hexec : p.tables.exec = Jvm.exec) {own : String} {index : Nat} {y : MethodName} {bytes : ByteArray} {maxL : Nat} {ret : Option FieldType} {hh : List (Nat × Nat × Nat × Nat)}
    (hown : s.vm.findClass own = some m.cls) (hlink : (Cond.methodLink own index y).before args s = true) (hstat : (Cond.static y).before args s = true) (hinit : (Cond.initialized y.cls).before args s = true)
    (hcode : (Cond.codeWith y bytes maxL ret hh).before args s = true) (hy : y.cls ≠ "java/lang/invoke/MethodHandle" ∧ y.cls ≠ "java/lang/invoke/VarHandle")
    {W9 : Nat} {Pre : Pt → Array Value → Prop} {Post : Pt → Array Value → Option Value → Pt → Prop} (hK : Back l R p e below s args y 3 W9 Pre Post)
    {g : JFrame} (hg : g.method = m) (hsize : g.locals.size = c.maxLocals) {argsL rest : List Value} (hlen : ∀ sig, parseMethodDescriptor y.desc = some sig → argsL.length = sig.parameters.length)
    (hstack : g.stack = argsL.reverse ++ rest) (hW : 2 * g.monitorRoom + (rest.map fun v => v.category).sum ≤ W9) (hdg : decode c.code g.pc = .ok (.invokestatic index, 3))
    (hpre : ∀ vm₁, s.WarmedH vm₁ → Pre ⟨T.setVm vm₁, locs, cells, slots⟩ argsL.toArray) :
    ∃ (v : Option Value) (vm₁ : Vm) (B : Pt), s.WarmedH vm₁ ∧ Stand p l e R s m args below meth c B.U B.locs B.cells B.slots ∧ Post ⟨T.setVm vm₁, locs, cells, slots⟩ argsL.toArray v B ∧
      ∀ target, Steps p.tables e below (B.U.setTop { g with pc := g.pc + 3, stack := v.toList ++ rest }) target → Steps p.tables e below (T.setTop g) target := by
  obtain ⟨mk, methM, cM, hnamed, hmethM, -, -, -, -, -, -, hsigM⟩ := Cond.codeWith_spec hcode
  have hstatic : methM.isStatic = true := Cond.static_spec hnamed hmethM hstat
  obtain ⟨kP, hkP, -⟩ := className_of_methodNamed hnamed
  have hinitP : kP.init = .initialized := Cond.initialized_spec (findClass_of_methodNamed hnamed) hkP hinit
  obtain ⟨vm₁, X₁, hstep₁⟩ := X.invokestatic hexec hown hlink hnamed hmethM hstatic hkP hinitP hy (g := g) hg (argsL := argsL) (rest := rest) (hlen _ hsigM) hstack hdg
  obtain ⟨v, B, X', hpost, hsteps⟩ := hK m meth c ⟨T.setVm vm₁, locs, cells, slots⟩ { g with stack := rest } (.invokestatic index) mk argsL.toArray X₁ hg hsize hdg hW (X₁.named hnamed) (hpre vm₁ X₁.warmed)
  exact ⟨v, vm₁, B, X₁.warmed, X', hpost, fun target h => hstep₁ _ fun acts => by rw [doInvoke_state]; exact hsteps.trans h⟩
theorem vx_runSW {y : MethodName} {bytes cc : ByteArray} {maxL nL mc ms n index : Nat} {ret : Option FieldType} {hh : List (Nat × Nat × Nat × Nat)} {ws : List Cond} {rm : Room} {Pc : Array Value → State → Prop} {Qc : Array Value → State → Outcome → State → Prop} {free : Addr → Prop} {Ts : List Cond} {own : String} {As rest : List Value} {g : JFrame}
    (S : CallFix p m c cc nL s args Ts own) (hM : Met l y ws rm Pc Qc mc ms free) (cw : vx_CSW R s args own index y bytes maxL ret hh ws rm mc ms n) (hp : PreS s H Pc As)
    (hg : g.method = m) (hn : As.length = n) (hsize : g.locals.size = nL) (hstack : g.stack = As.reverse ++ rest) (hW : 2 * g.monitorRoom + (rest.map fun v => v.category).sum ≤ 8) (hdg : decode cc g.pc = .ok (.invokestatic index, 3)) (hf : cells + mc ≤ R.cells ∧ slots + ms ≤ R.slots) :
    va_Run p l e R s m args below meth c H locs cells slots mc ms g rest (Qc As.toArray) (free) := by
  obtain ⟨⟨hrc, hrs, hfr, hlo, hws, hcw⟩, hcode, hini, hy, hlen, hl, hstt⟩ := cw
  have hK : Back l R p e below s args y 3 8 (PreOf R mc ms Pc) (PostOf Qc mc ms free) := va_backW (hh := hh) (bytes := bytes) (maxL := maxL) (ret := ret) hM hp.1 hrc hrs hfr hlo hws hcw (fun a' U hW => word_at hW (Or.inl (by first | rfl | simp [Cond.onTables, Cond.keeps, Cond.steady])) hini)
  obtain ⟨hx, hb, hml, ho, -⟩ := S
  intro T hT X
  obtain ⟨v, vm₁, ⟨U', l2, c2, s2⟩, hW₁, X', ⟨g', mk, t, L, e1, e2, hq, h1, hL, h2, h3⟩, st⟩ := vx_callSW X hx (hh := hh) (bytes := bytes) (maxL := maxL) (ret := ret) ho hl hstt hini hcode hy hK hg (hsize.trans hml.symm) (argsL := As) (rest := rest) (fun sig h => hn.trans (hlen sig h)) hstack hW (by rw [hb]; exact hdg)
    (fun vm₁ hW₁ => ⟨hf.1, hf.2, hp.2 (T.setVm vm₁) hT hW₁⟩)
  dsimp only [Pt.U, Pt.locs, Pt.cells, Pt.slots] at X' e1 e2 h1 h2 h3 st
  subst h1; subst h2; subst h3
  exact ⟨v, (T.setVm vm₁).calling g' mk As.toArray, t, U', L, hT, X', hL, e1, e2, hq, st⟩
/-- not caught here, past rows that name other classes: it goes on to the caller -/
theorem vx_outP {p : Program} {l : Launch} {e : Env} {R : Room} {s : State} {m : MethodId} {args : Array Value} {below : List Frame} {meth : Method} {c : Code} {H : Heap} {locs : List Loc} {cells slots : Nat} {free : Addr → Prop} {ls : Array Slot} {rest : List Value} {Qc : Array Value → State → Outcome → State → Prop} {XC : String → State → State → Prop}
    {pc : Nat} {own E : String} {ce : Cell} {q : Addr} {mc ms : Nat} (hown : s.vm.findClass own = some m.cls) (hlocks : meth.locks = false)
    (hpass : ∀ z ∈ c.exceptionTable.toList, covers z pc = false ∨ (z.catchType ≠ 0 ∧ ∃ nm : String, (Cond.classLink own z.catchType nm).before args s = true ∧ va_Nc E nm s)) (hcell : H[q]? = some ce) (hv : ce.vm = .none) (hcl : s.vm.findClass E = some ce.cls)
    (hx : ∀ t : State, t.heap = H → s.vm.Alike t.vm → XC E s t) (hf : ∀ z ∈ locs, free z.base) (hc : cells ≤ mc) (hs : slots ≤ ms) :
    vx_W p l e R s m args below meth c H locs cells slots (vx_MQ below Qc XC args s mc ms free) (F0 m pc ls rest) q := by
  intro T hT X
  have hpl : e.platform.magicAccessors = ({} : Platform).magicAccessors := by rw [X.admits.platform]
  obtain ⟨vm', hW', X', st⟩ := X.outThrough hlocks q (g := F0 m pc ls rest) rfl rfl rfl (cell := ce) (by rw [hT]; exact hcell) (by rw [hv]; rfl)
    (by obtain ⟨k9, h9, -⟩ := Vm.findClass_spec hcl; exact ⟨k9, h9⟩) (fun z hz => by
      rcases hpass z hz with h | ⟨hz0, nm, hl1, hn1⟩
      · exact Or.inl h
      · obtain ⟨c6, hc6, hcl6⟩ := Cond.classLink_spec hown hl1 e.platform hpl
        obtain ⟨a8, b8, h1, h2, h3⟩ := hn1
        cases Option.some.inj (h1.symm.trans hcl)
        cases Option.some.inj (h2.symm.trans hc6)
        exact Or.inr ⟨hz0, _, hcl6, h3⟩)
  obtain ⟨g₀, hfr⟩ := X'.frames_eq
  have hcell9 : ((T.setVm vm').setFrames (.throwing q :: below)).heap[q]? = some ce := by
    show T.heap[q]? = some ce
    rw [hT]; exact hcell
  have hend : Ended ((T.setVm vm').setFrames (.throwing q :: below)) below (.threw q) := State.frames_setFrames _ (State.cur_lt_of_frames hfr)
  refine ⟨(T.setVm vm').setFrames (.throwing q :: below), ?_, .threw q, X'.here.running, hend, Or.inr ⟨q, rfl, E, ce, locs, hx _ hT (X'.ends _).1.alike, hcell9, hv, hcl, (X'.ends _).1, (X'.ends _).2.mono hc hs, hf⟩⟩
  rw [X.pushThrowing_eq]
  exact st
/-- a thing of a world lies in the heap -/
theorem vx_lt {D : va_G} {cl : List vw_C} {ws : va_W} {H1 : Heap} (h : va_P D cl ws H1) {k : Nat} {q : Nat × va_E} (hk : ws[k]? = some q) : q.1 < H1.size := (h k q hk).lt
end VXS
/-! ===== END ===== -/
/-! ===== BEGIN methods with a table of their own: called by a name, returning or throwing ===== -/
section VXH
/-! vx_backW, vx_callVX, vx_callSX, vx_callVW, vx_runVW, vx_runVX, vx_runSX, vx_ofWH follow the same proofs as their sisters above (Free/Laws.lean, Shelf42/LK1.lean); vx_outP calls Shelf42/NT130.lean (outThrough). -/
section
variable {l : Launch} {R : Room} {p : Program} {e : Env} {below : List Frame} {s : State} {sargs : Array Value} {y : MethodName} {len W9 : Nat}
theorem vx_backW {ws : List Cond} {rm : Room} {Pc : Array Value → State → Prop} {Qc : Array Value → State → Outcome → State → Prop} {XC : String → State → State → Prop} {mc ms : Nat} {free : Addr → Prop} {bytes : ByteArray} {maxL : Nat} {ret : Option FieldType} {hh : List (Nat × Nat × Nat × Nat)}
    (hM : vx_Met l y ws rm Pc Qc XC mc ms free) (hblind : FrameBlind Pc) (hrc : rm.cells = mc) (hrs : rm.slots = ms)
    (hframes : rm.frames + 1 ≤ R.frames) (hlocals : W9 + (maxL + 11) + rm.locals ≤ R.locals)
    (hws : ∀ w ∈ ws, ∀ a' U, s.WarmedH U.vm → w.before a' U = true) (hcode : Cond.codeWith y bytes maxL ret hh ∈ ws) (hinit : ∀ a' U, s.WarmedH U.vm → (Cond.initialized y.cls).before a' U = true) :
    vx_Back l R p e below s sargs y len W9 (PreOf R mc ms Pc) (PostOf Qc mc ms free) (vx_Post XC mc ms free) := by
  intro m meth c A g ig mk a X hg hsize hdg hW hn hp
  have h1 : (headSpec ws rm).pre.before a A.U = true := atoms_intro fun w hw => hws w hw _ _ X.warmed
  have h2 : (Cond.codeWith y bytes maxL ret hh).before a A.U = true := hws _ hcode _ _ X.warmed
  have h3 : (Cond.initialized y.cls).before a A.U = true := hinit _ _ X.warmed
  have h4 : A.cells + (headSpec ws rm).room.cells ≤ R.cells := by rw [show (headSpec ws rm).room.cells = mc from hrc]; exact hp.1
  have h5 : A.slots + (headSpec ws rm).room.slots ≤ R.slots := by rw [show (headSpec ws rm).room.slots = ms from hrs]; exact hp.2.1
  have hPc : Pc a (A.U.calling g mk a) := hblind _ _ _ _ hp.2.2
  obtain ⟨U, Ls, c0, s0⟩ := A
  dsimp only [Pt.U, Pt.locs, Pt.cells, Pt.slots] at h1 h2 h3 h4 h5 X hn hPc ⊢
  obtain ⟨m9, methY, cY, hn9, hmY, hcY, -, hlY, -⟩ := Cond.codeWith_spec h2
  cases Option.some.inj (hn9.symm.trans hn)
  obtain ⟨kY, hkY, -⟩ := className_of_methodNamed hn
  have hinitY : kY.init = .initialized := Cond.initialized_spec (findClass_of_methodNamed hn) hkY h3
  have h : At U g.method c below := by rw [hg]; exact X.here
  have hlocals9 : W9 + (maxL + 11) + (headSpec ws rm).room.locals ≤ R.locals := hlocals
  have happ : (headSpec ws rm).appliesLoose y e.platform (U.calling g mk a) = true :=
    Spec.appliesLoose_calling (g := g) h hdg hn hkY hinitY
      (X.room_calling (g := g) (R' := (headSpec ws rm).room) hsize hmY hcY hframes (by rw [hlY]; omega) h4 h5) h1
  obtain ⟨mid, hmid⟩ := h.above
  have hfr : (U.setTop g).frames = (.java g :: mid) ++ below := by rw [State.frames_setTop' g h.top, hmid]; rfl
  obtain ⟨o, s₂, hsteps, -, hend, hq⟩ := Steps.callFree hM p X.admits X.cas X.clock (acts := []) hfr happ hPc trivial
  have hq' : vx_Q Qc XC mc ms free a (U.calling g mk a) o s₂ := hq
  rw [State.frames_setTop' g h.top] at hend
  obtain ⟨g₀, hg0⟩ := Option.isSome_iff_exists.mp h.top
  obtain ⟨r, hr⟩ := State.topJava?_eq_some.mp hg0
  have hr' : (({ U with heap := s₂.heap, slotsUsed := s₂.slotsUsed } : State).setVm s₂.vm).frames = .java g₀ :: r := hr
  rcases hq' with ⟨hqc, L, hfe, hL⟩ | ⟨q, rfl, E, ce, L, hx, hce, hcv, hcl, hW₂, hsm, hL⟩
  · obtain ⟨⟨v, rfl⟩, hW₂, e2, q2, q3, q4, q5, q6⟩ := id hfe
    have e3 : s₂ = ({ (U.calling g mk a).setFrames s₂.frames with heap := s₂.heap, slotsUsed := s₂.slotsUsed } : State).setVm s₂.vm := by
      have : s₂ = ({ s₂ with vm := (U.calling g mk a).vm } : State).setVm s₂.vm := rfl
      rw [e2] at this
      exact this
    obtain ⟨c₂, i₂, len₂, hc₂, hd₂, hf₂⟩ := hend
    have hW' : U.WarmedH s₂.vm := hW₂
    have hcc : c₂ = c := by
      have h1 : s₂.code? g.method = U.code? g.method := by
        rw [State.code?_eq, State.code?_eq, hW'.alike.method?]
      exact Option.some.inj (hc₂.symm.trans (h1.trans h.code))
    subst hcc
    have hlen : len₂ = len := by rw [hdg] at hd₂; cases hd₂; rfl
    subst hlen
    have hs₂ : s₂ = (({ U with heap := s₂.heap, slotsUsed := s₂.slotsUsed } : State).setVm s₂.vm).setTop { g with pc := g.pc + len₂, stack := v.toList ++ g.stack } := by
      refine e3.trans ?_
      rw [hf₂, State.calling_eq h.top, State.setFrames_setFrames, State.setTop_of_frames _ hr', hr]
      rfl
    have hsame : U.sameButNew ({ U with heap := s₂.heap, slotsUsed := s₂.slotsUsed } : State) L mc ms := by
      refine ⟨?_, q2, q3, q4, q5, q6⟩
      obtain ⟨t, ht, -⟩ := State.frames_cons hr
      show ({ U with heap := s₂.heap, slotsUsed := s₂.slotsUsed } : State) = { U.setFrames U.frames with heap := s₂.heap, slotsUsed := s₂.slotsUsed }
      rw [State.setFrames_self ht]
    subst hg
    refine Or.inl ⟨v, ⟨(({ U with heap := s₂.heap, slotsUsed := s₂.slotsUsed } : State).setVm s₂.vm), Ls ++ L, c0 + mc, s0 + ms⟩,
      ⟨X.admits, X.cas, X.clock, X.frames, X.room, X.hears, X.method, X.code, (X.here.setHeapUsed s₂.heap s₂.slotsUsed).setVm hW'.alike, X.tail, State.WarmedH.trans X.warmed hW', X.limits, X.bytes, X.same.trans (hsame.setVm s.vm)⟩,
      ⟨g, mk, s₂, L, rfl, rfl, hqc, rfl, hL, rfl, rfl⟩, ?_⟩
    show Steps p.tables e below _ ((({ U with heap := s₂.heap, slotsUsed := s₂.slotsUsed } : State).setVm s₂.vm).setTop { g with pc := g.pc + len₂, stack := v.toList ++ g.stack })
    rw [← hs₂]
    exact hsteps
  · obtain ⟨e2, q2, q3, q4, q5, q6⟩ := id hsm
    have e3 : s₂ = ({ (U.calling g mk a).setFrames s₂.frames with heap := s₂.heap, slotsUsed := s₂.slotsUsed } : State).setVm s₂.vm := by
      have : s₂ = ({ s₂ with vm := (U.calling g mk a).vm } : State).setVm s₂.vm := rfl
      rw [e2] at this
      exact this
    have hf₂ : s₂.frames = .throwing q :: .java g :: U.frames.tail := hend
    have hW' : U.WarmedH s₂.vm := hW₂
    have hs₂ : s₂ = ((({ U with heap := s₂.heap, slotsUsed := s₂.slotsUsed } : State).setVm s₂.vm).setTop g).pushFrame (.throwing q) := by
      refine e3.trans ?_
      rw [hf₂, State.calling_eq h.top, State.setFrames_setFrames, State.pushFrame, State.frames_setTop _ hr', State.setTop_of_frames _ hr', State.setFrames_setFrames, hr]
      rfl
    have hsame : U.sameButNew ({ U with heap := s₂.heap, slotsUsed := s₂.slotsUsed } : State) L mc ms := by
      refine ⟨?_, q2, q3, q4, q5, q6⟩
      obtain ⟨t, ht, -⟩ := State.frames_cons hr
      show ({ U with heap := s₂.heap, slotsUsed := s₂.slotsUsed } : State) = { U.setFrames U.frames with heap := s₂.heap, slotsUsed := s₂.slotsUsed }
      rw [State.setFrames_self ht]
    subst hg
    refine Or.inr ⟨q, ⟨(({ U with heap := s₂.heap, slotsUsed := s₂.slotsUsed } : State).setVm s₂.vm), Ls ++ L, c0 + mc, s0 + ms⟩,
      ⟨X.admits, X.cas, X.clock, X.frames, X.room, X.hears, X.method, X.code, (X.here.setHeapUsed s₂.heap s₂.slotsUsed).setVm hW'.alike, X.tail, State.WarmedH.trans X.warmed hW', X.limits, X.bytes, X.same.trans (hsame.setVm s.vm)⟩,
      ⟨g, mk, s₂, L, E, ce, rfl, rfl, hx, hce, hcv, hcl, rfl, hL, rfl, rfl⟩, ?_⟩
    show Steps p.tables e below _ (((({ U with heap := s₂.heap, slotsUsed := s₂.slotsUsed } : State).setVm s₂.vm).setTop g).pushFrame (.throwing q))
    rw [← hs₂]
    exact hsteps
end
variable {p : Program} {l : Launch} {e : Env} {R : Room} {s : State} {m : MethodId} {args : Array Value} {below : List Frame} {meth : Method} {c : Code} {T : State} {H : Heap} {locs : List Loc} {cells slots : Nat}
theorem vx_callVX (X : Stand p l e R s m args below meth c T locs cells slots) (hexec : p.tables.exec = Jvm.exec) {own C : String} {index : Nat} {y : MethodName} {bytes : ByteArray} {maxL : Nat} {ret : Option FieldType} {hh : List (Nat × Nat × Nat × Nat)}
    (hown : s.vm.findClass own = some m.cls) (hlink : (Cond.methodLink own index y).before args s = true) (hinst : (Cond.instanceMethod y).before args s = true) (hsel : (Cond.selects C y y).before args s = true)
    (hcode : (Cond.codeWith y bytes maxL ret hh).before args s = true) (hy : y.cls ≠ "java/lang/invoke/MethodHandle" ∧ y.cls ≠ "java/lang/invoke/VarHandle")
    {W9 : Nat} {Pre : Pt → Array Value → Prop} {Post : Pt → Array Value → Option Value → Pt → Prop} {PostX : Pt → Array Value → Addr → Pt → Prop} (hK : vx_Back l R p e below s args y 3 W9 Pre Post PostX)
    {b : Addr} {cellB : Cell} (hcell : T.heap[b]? = some cellB) (hobj : cellB.vm.isStatics = false) (hcls : s.vm.findClass C = some cellB.cls)
    {g : JFrame} (hg : g.method = m) (hsize : g.locals.size = c.maxLocals) {argsL rest : List Value} (hlen : ∀ sig, parseMethodDescriptor y.desc = some sig → argsL.length = sig.parameters.length)
    (hstack : g.stack = argsL.reverse ++ .ref b :: rest) (hW : 2 * g.monitorRoom + (rest.map fun v => v.category).sum ≤ W9) (hdg : decode c.code g.pc = .ok (.invokevirtual index, 3))
    (hpre : ∀ vm₁, s.WarmedH vm₁ → Pre ⟨T.setVm vm₁, locs, cells, slots⟩ (Value.ref b :: argsL).toArray) :
    (∃ (v : Option Value) (vm₁ : Vm) (B : Pt), s.WarmedH vm₁ ∧ Stand p l e R s m args below meth c B.U B.locs B.cells B.slots ∧ Post ⟨T.setVm vm₁, locs, cells, slots⟩ (Value.ref b :: argsL).toArray v B ∧
      ∀ target, Steps p.tables e below (B.U.setTop { g with pc := g.pc + 3, stack := v.toList ++ rest }) target → Steps p.tables e below (T.setTop g) target) ∨
    (∃ (q : Addr) (vm₁ : Vm) (B : Pt), s.WarmedH vm₁ ∧ Stand p l e R s m args below meth c B.U B.locs B.cells B.slots ∧ PostX ⟨T.setVm vm₁, locs, cells, slots⟩ (Value.ref b :: argsL).toArray q B ∧
      Steps p.tables e below (T.setTop g) ((B.U.setTop { g with stack := rest }).pushFrame (.throwing q))) := by
  obtain ⟨mk, methM, hnamed, hmethM, hstM, habM⟩ := Cond.instanceMethod_spec hinst
  obtain ⟨m8, methM', cM, hn8, hmethM', -, -, -, -, -, -, hsigM⟩ := Cond.codeWith_spec hcode
  cases Option.some.inj (hn8.symm.trans hnamed)
  cases hmethM.symm.trans hmethM'
  obtain ⟨c2, r2, m2, q1, q2, q3, q4, kP, hkP, hkPi⟩ := Cond.selects_spec hsel
  cases hcls.symm.trans q1
  cases (State.methodFound?_of_named hnamed hy).symm.trans q2
  cases hnamed.symm.trans q3
  have hselP : selectMethod e.platform s.vm cellB.cls mk = .method mk := by rw [Launch.admits_selectMethod X.admits]; exact q4
  obtain ⟨vm₁, X₁, hstep₁⟩ := X.invokevirtual hexec hown hlink hnamed hmethM hstM hkP hkPi hy (a := b) (cell := cellB) hcell
    (fun z h => by rw [h] at hobj; cases hobj) hselP hmethM habM hkP hkPi (g := g) hg (argsL := argsL) (rest := rest) (hlen _ hsigM) hstack hdg
  rcases hK m meth c ⟨T.setVm vm₁, locs, cells, slots⟩ { g with stack := rest } (.invokevirtual index) mk (Value.ref b :: argsL).toArray X₁ hg hsize hdg hW (X₁.named hnamed) (hpre vm₁ X₁.warmed) with ⟨v, B, X', hpost, hsteps⟩ | ⟨q, B, X', hpost, hsteps⟩
  · exact Or.inl ⟨v, vm₁, B, X₁.warmed, X', hpost, fun target h => hstep₁ _ fun acts => by rw [doInvoke_state]; exact hsteps.trans h⟩
  · exact Or.inr ⟨q, vm₁, B, X₁.warmed, X', hpost, hstep₁ _ fun acts => by rw [doInvoke_state]; exact hsteps⟩
theorem vx_callSX (X : Stand p l e R s m args below meth c T locs cells slots) (hexec : p.tables.exec = Jvm.exec) {own : String} {index : Nat} {y : MethodName} {bytes : ByteArray} {maxL : Nat} {ret : Option FieldType} {hh : List (Nat × Nat × Nat × Nat)}
    (hown : s.vm.findClass own = some m.cls) (hlink : (Cond.methodLink own index y).before args s = true) (hstat : (Cond.static y).before args s = true) (hinit : (Cond.initialized y.cls).before args s = true)
    (hcode : (Cond.codeWith y bytes maxL ret hh).before args s = true) (hy : y.cls ≠ "java/lang/invoke/MethodHandle" ∧ y.cls ≠ "java/lang/invoke/VarHandle")
    {W9 : Nat} {Pre : Pt → Array Value → Prop} {Post : Pt → Array Value → Option Value → Pt → Prop} {PostX : Pt → Array Value → Addr → Pt → Prop} (hK : vx_Back l R p e below s args y 3 W9 Pre Post PostX)
    {g : JFrame} (hg : g.method = m) (hsize : g.locals.size = c.maxLocals) {argsL rest : List Value} (hlen : ∀ sig, parseMethodDescriptor y.desc = some sig → argsL.length = sig.parameters.length)
    (hstack : g.stack = argsL.reverse ++ rest) (hW : 2 * g.monitorRoom + (rest.map fun v => v.category).sum ≤ W9) (hdg : decode c.code g.pc = .ok (.invokestatic index, 3))
    (hpre : ∀ vm₁, s.WarmedH vm₁ → Pre ⟨T.setVm vm₁, locs, cells, slots⟩ argsL.toArray) :
    (∃ (v : Option Value) (vm₁ : Vm) (B : Pt), s.WarmedH vm₁ ∧ Stand p l e R s m args below meth c B.U B.locs B.cells B.slots ∧ Post ⟨T.setVm vm₁, locs, cells, slots⟩ argsL.toArray v B ∧
      ∀ target, Steps p.tables e below (B.U.setTop { g with pc := g.pc + 3, stack := v.toList ++ rest }) target → Steps p.tables e below (T.setTop g) target) ∨
    (∃ (q : Addr) (vm₁ : Vm) (B : Pt), s.WarmedH vm₁ ∧ Stand p l e R s m args below meth c B.U B.locs B.cells B.slots ∧ PostX ⟨T.setVm vm₁, locs, cells, slots⟩ argsL.toArray q B ∧
      Steps p.tables e below (T.setTop g) ((B.U.setTop { g with stack := rest }).pushFrame (.throwing q))) := by
  obtain ⟨mk, methM, cM, hnamed, hmethM, -, -, -, -, -, -, hsigM⟩ := Cond.codeWith_spec hcode
  have hstatic : methM.isStatic = true := Cond.static_spec hnamed hmethM hstat
  obtain ⟨kP, hkP, -⟩ := className_of_methodNamed hnamed
  have hinitP : kP.init = .initialized := Cond.initialized_spec (findClass_of_methodNamed hnamed) hkP hinit
  obtain ⟨vm₁, X₁, hstep₁⟩ := X.invokestatic hexec hown hlink hnamed hmethM hstatic hkP hinitP hy (g := g) hg (argsL := argsL) (rest := rest) (hlen _ hsigM) hstack hdg
  rcases hK m meth c ⟨T.setVm vm₁, locs, cells, slots⟩ { g with stack := rest } (.invokestatic index) mk argsL.toArray X₁ hg hsize hdg hW (X₁.named hnamed) (hpre vm₁ X₁.warmed) with ⟨v, B, X', hpost, hsteps⟩ | ⟨q, B, X', hpost, hsteps⟩
  · exact Or.inl ⟨v, vm₁, B, X₁.warmed, X', hpost, fun target h => hstep₁ _ fun acts => by rw [doInvoke_state]; exact hsteps.trans h⟩
  · exact Or.inr ⟨q, vm₁, B, X₁.warmed, X', hpost, hstep₁ _ fun acts => by rw [doInvoke_state]; exact hsteps⟩
theorem vx_callVW (X : Stand p l e R s m args below meth c T locs cells slots) (hexec : p.tables.exec = Jvm.exec) {own C : String} {index : Nat} {y : MethodName} {bytes : ByteArray} {maxL : Nat} {ret : Option FieldType} {hh : List (Nat × Nat × Nat × Nat)}
    (hown : s.vm.findClass own = some m.cls) (hlink : (Cond.methodLink own index y).before args s = true) (hinst : (Cond.instanceMethod y).before args s = true) (hsel : (Cond.selects C y y).before args s = true)
    (hcode : (Cond.codeWith y bytes maxL ret hh).before args s = true) (hy : y.cls ≠ "java/lang/invoke/MethodHandle" ∧ y.cls ≠ "java/lang/invoke/VarHandle")
    {W9 : Nat} {Pre : Pt → Array Value → Prop} {Post : Pt → Array Value → Option Value → Pt → Prop} (hK : Back l R p e below s args y 3 W9 Pre Post)
    {b : Addr} {cellB : Cell} (hcell : T.heap[b]? = some cellB) (hobj : cellB.vm.isStatics = false) (hcls : s.vm.findClass C = some cellB.cls)
    {g : JFrame} (hg : g.method = m) (hsize : g.locals.size = c.maxLocals) {argsL rest : List Value} (hlen : ∀ sig, parseMethodDescriptor y.desc = some sig → argsL.length = sig.parameters.length)
    (hstack : g.stack = argsL.reverse ++ .ref b :: rest) (hW : 2 * g.monitorRoom + (rest.map fun v => v.category).sum ≤ W9) (hdg : decode c.code g.pc = .ok (.invokevirtual index, 3))
    (hpre : ∀ vm₁, s.WarmedH vm₁ → Pre ⟨T.setVm vm₁, locs, cells, slots⟩ (Value.ref b :: argsL).toArray) :
    ∃ (v : Option Value) (vm₁ : Vm) (B : Pt), s.WarmedH vm₁ ∧ Stand p l e R s m args below meth c B.U B.locs B.cells B.slots ∧ Post ⟨T.setVm vm₁, locs, cells, slots⟩ (Value.ref b :: argsL).toArray v B ∧
      ∀ target, Steps p.tables e below (B.U.setTop { g with pc := g.pc + 3, stack := v.toList ++ rest }) target → Steps p.tables e below (T.setTop g) target := by
  obtain ⟨mk, methM, hnamed, hmethM, hstM, habM⟩ := Cond.instanceMethod_spec hinst
  obtain ⟨m8, methM', cM, hn8, hmethM', -, -, -, -, -, -, hsigM⟩ := Cond.codeWith_spec hcode
  cases Option.some.inj (hn8.symm.trans hnamed)
  cases hmethM.symm.trans hmethM'
  obtain ⟨c2, r2, m2, q1, q2, q3, q4, kP, hkP, hkPi⟩ := Cond.selects_spec hsel
  cases hcls.symm.trans q1
  cases (State.methodFound?_of_named hnamed hy).symm.trans q2
  cases hnamed.symm.trans q3
  have hselP : selectMethod e.platform s.vm cellB.cls mk = .method mk := by rw [Launch.admits_selectMethod X.admits]; exact q4
  obtain ⟨vm₁, X₁, hstep₁⟩ := X.invokevirtual hexec hown hlink hnamed hmethM hstM hkP hkPi hy (a := b) (cell := cellB) hcell
    (fun z h => by rw [h] at hobj; cases hobj) hselP hmethM habM hkP hkPi (g := g) hg (argsL := argsL) (rest := rest) (hlen _ hsigM) hstack hdg
  obtain ⟨v, B, X', hpost, hsteps⟩ := hK m meth c ⟨T.setVm vm₁, locs, cells, slots⟩ { g with stack := rest } (.invokevirtual index) mk (Value.ref b :: argsL).toArray X₁ hg hsize hdg hW (X₁.named hnamed) (hpre vm₁ X₁.warmed)
  exact ⟨v, vm₁, B, X₁.warmed, X', hpost, fun target h => hstep₁ _ fun acts => by rw [doInvoke_state]; exact hsteps.trans h⟩
abbrev vx_CVW (R : Room) (s : State) (args : Array Value) (own C : String) (index : Nat) (y : MethodName) (bytes : ByteArray) (maxL : Nat) (ret : Option FieldType) (hh : List (Nat × Nat × Nat × Nat)) (ws : List Cond) (rm : Room) (mc ms n : Nat) : Prop :=
  (rm.cells = mc ∧ rm.slots = ms ∧ rm.frames + 1 ≤ R.frames ∧ 8 + (maxL + 11) + rm.locals ≤ R.locals ∧ (∀ w ∈ ws, ∀ (a' : Array Value) (U : State), s.WarmedH U.vm → w.before a' U = true) ∧ Cond.codeWith y bytes maxL ret hh ∈ ws) ∧
  (Cond.codeWith y bytes maxL ret hh).before args s = true ∧ (Cond.initialized y.cls).before args s = true ∧ (y.cls ≠ "java/lang/invoke/MethodHandle" ∧ y.cls ≠ "java/lang/invoke/VarHandle") ∧
  (∀ sig, parseMethodDescriptor y.desc = some sig → n = sig.parameters.length) ∧ (Cond.methodLink own index y).before args s = true ∧ (Cond.instanceMethod y).before args s = true ∧ (Cond.selects C y y).before args s = true
theorem vx_cwVW {own C : String} {index maxL mc ms : Nat} {y : MethodName} {bytes : ByteArray} {ret : Option FieldType} {hh : List (Nat × Nat × Nat × Nat)} {Ts ws ws' : List Cond} {rm : Room} (n : Nat) (ht : ∀ w ∈ Ts, w.before args s = true) (hT : GoodIn Ts (wsV own index C y ws)) (hw : ws = Cond.codeWith y bytes maxL ret hh :: ws') (hrc : rm.cells = mc) (hrs : rm.slots = ms)
    (hd : y.cls = C ∧ y.cls ≠ "java/lang/invoke/MethodHandle" ∧ y.cls ≠ "java/lang/invoke/VarHandle" ∧ (parseMethodDescriptor y.desc).map (fun d => d.parameters.length) = some n) (hR : rm.frames + 1 ≤ R.frames ∧ 8 + (maxL + 11) + rm.locals ≤ R.locals) :
    vx_CVW R s args own C index y bytes maxL ret hh ws rm mc ms n := by
  obtain ⟨hC, hd⟩ := hd
  subst hC
  have ok : ∀ w ∈ wsV own index y.cls y ws, w.before args s = true := fun w h => ht w (hT w h).1
  have hG : GoodIn Ts ws := fun w h => hT w (by unfold wsV; exact List.mem_append_right _ h)
  have hc : Cond.codeWith y bytes maxL ret hh ∈ ws := by rw [hw]; exact List.mem_cons_self
  refine ⟨⟨hrc, hrs, hR.1, hR.2, pay_in ht hG, hc⟩, ht _ (hG _ hc).1, ok _ (by simp [wsV]), ⟨hd.1, hd.2.1⟩, fun sig h => ?_, ok _ (by simp [wsV]), ok _ (by simp [wsV]), ok _ (by simp [wsV])⟩
  have h2 := hd.2.2
  rw [h] at h2
  exact (Option.some.inj h2).symm
theorem vx_runVW {y : MethodName} {bytes cc : ByteArray} {maxL nL mc ms n index : Nat} {ret : Option FieldType} {hh : List (Nat × Nat × Nat × Nat)} {ws : List Cond} {rm : Room} {Pc : Array Value → State → Prop} {Qc : Array Value → State → Outcome → State → Prop} {free : Addr → Prop} {Ts : List Cond} {own C : String} {b : Addr} {As rest : List Value} {g : JFrame}
    (S : CallFix p m c cc nL s args Ts own) (hM : Met l y ws rm Pc Qc mc ms free) (cw : vx_CVW R s args own C index y bytes maxL ret hh ws rm mc ms n) (hp : PreV s H C b Pc As)
    (hg : g.method = m) (hn : As.length = n) (hsize : g.locals.size = nL) (hstack : g.stack = As.reverse ++ .ref b :: rest) (hW : 2 * g.monitorRoom + (rest.map fun v => v.category).sum ≤ 8) (hdg : decode cc g.pc = .ok (.invokevirtual index, 3)) (hf : cells + mc ≤ R.cells ∧ slots + ms ≤ R.slots) :
    va_Run p l e R s m args below meth c H locs cells slots mc ms g rest (Qc (Value.ref b :: As).toArray) free := by
  obtain ⟨⟨hrc, hrs, hfr, hlo, hws, hcw⟩, hcode, hini, hy, hlen, hl, hin, hse⟩ := cw
  have hK : Back l R p e below s args y 3 8 (PreOf R mc ms Pc) (PostOf Qc mc ms free) := va_backW (hh := hh) (bytes := bytes) (maxL := maxL) (ret := ret) hM hp.1 hrc hrs hfr hlo hws hcw (fun a' U hW => word_at hW (Or.inl (by first | rfl | simp [Cond.onTables, Cond.keeps, Cond.steady])) hini)
  obtain ⟨hx, hb, hml, ho, -⟩ := S
  obtain ⟨-, ⟨cellB, hcB, hoB, hclB⟩, hPc⟩ := hp
  intro T hT X
  obtain ⟨v, vm₁, ⟨U', l2, c2, s2⟩, hW₁, X', ⟨g', mk, t, L, e1, e2, hq, h1, hL, h2, h3⟩, st⟩ := vx_callVW X hx (C := C) (hh := hh) (bytes := bytes) (maxL := maxL) (ret := ret) ho hl hin hse hcode hy hK (by rw [hT]; exact hcB) hoB hclB hg (hsize.trans hml.symm) (argsL := As) (rest := rest) (fun sig h => hn.trans (hlen sig h)) hstack hW (by rw [hb]; exact hdg)
    (fun vm₁ hW₁ => ⟨hf.1, hf.2, hPc (T.setVm vm₁) hT hW₁⟩)
  dsimp only [Pt.U, Pt.locs, Pt.cells, Pt.slots] at X' e1 e2 h1 h2 h3 st
  subst h1; subst h2; subst h3
  exact ⟨v, (T.setVm vm₁).calling g' mk (Value.ref b :: As).toArray, t, U', L, hT, X', hL, e1, e2, hq, st⟩
section
variable {y : MethodName} {bytes cc : ByteArray} {maxL nL mc ms n index : Nat} {ret : Option FieldType} {ws : List Cond} {rm : Room} {Pc : Array Value → State → Prop} {Qc : Array Value → State → Outcome → State → Prop} {XC : String → State → State → Prop} {free : Addr → Prop} {Ts : List Cond} {own C : String} {b : Addr} {As rest : List Value} {g : JFrame}
theorem vx_runVX {hh : List (Nat × Nat × Nat × Nat)} (S : CallFix p m c cc nL s args Ts own) (hM : vx_Met l y ws rm Pc Qc XC mc ms free) (cw : vx_CVW R s args own C index y bytes maxL ret hh ws rm mc ms n) (hp : PreV s H C b Pc As)
    (hg : g.method = m) (hn : As.length = n) (hsize : g.locals.size = nL) (hstack : g.stack = As.reverse ++ .ref b :: rest) (hW : 2 * g.monitorRoom + (rest.map fun v => v.category).sum ≤ 8) (hdg : decode cc g.pc = .ok (.invokevirtual index, 3)) (hf : cells + mc ≤ R.cells ∧ slots + ms ≤ R.slots) :
    vx_Run p l e R s m args below meth c H locs cells slots mc ms g rest (Qc (Value.ref b :: As).toArray) XC free := by
  obtain ⟨⟨hrc, hrs, hfr, hlo, hws, hcw⟩, hcode, hini, hy, hlen, hl, hin, hse⟩ := cw
  have hK : vx_Back l R p e below s args y 3 8 (PreOf R mc ms Pc) (PostOf Qc mc ms free) (vx_Post XC mc ms free) := vx_backW (hh := hh) (bytes := bytes) (maxL := maxL) (ret := ret) hM hp.1 hrc hrs hfr hlo hws hcw (fun a' U hW => word_at hW (Or.inl (by first | rfl | simp [Cond.onTables, Cond.keeps, Cond.steady])) hini)
  obtain ⟨hx, hb, hml, ho, -⟩ := S
  obtain ⟨-, ⟨cellB, hcB, hoB, hclB⟩, hPc⟩ := hp
  intro T hT X
  rcases vx_callVX X hx (C := C) (hh := hh) (bytes := bytes) (maxL := maxL) (ret := ret) ho hl hin hse hcode hy hK (by rw [hT]; exact hcB) hoB hclB hg (hsize.trans hml.symm) (argsL := As) (rest := rest) (fun sig h => hn.trans (hlen sig h)) hstack hW (by rw [hb]; exact hdg)
    (fun vm₁ hW₁ => ⟨hf.1, hf.2, hPc (T.setVm vm₁) hT hW₁⟩) with ⟨v, vm₁, ⟨U', l2, c2, s2⟩, hW₁, X', ⟨g', mk, t, L, e1, e2, hq, h1, hL, h2, h3⟩, st⟩ | ⟨q, vm₁, ⟨U', l2, c2, s2⟩, hW₁, X', ⟨g', mk, t, L, E, ce, e1, e2, hq, hce, hcv, hcl, h1, hL, h2, h3⟩, st⟩
  · dsimp only [Pt.U, Pt.locs, Pt.cells, Pt.slots] at X' e1 e2 h1 h2 h3 st
    subst h1; subst h2; subst h3
    exact Or.inl ⟨v, (T.setVm vm₁).calling g' mk (Value.ref b :: As).toArray, t, U', L, hT, X', hL, e1, e2, hq, st⟩
  · dsimp only [Pt.U, Pt.locs, Pt.cells, Pt.slots] at X' e1 e2 h1 h2 h3 st hcl
    subst h1; subst h2; subst h3
    exact Or.inr ⟨q, (T.setVm vm₁).calling g' mk (Value.ref b :: As).toArray, t, U', L, E, ce, hT, X', hL, e1, e2, hq, hce, hcv, vx_cls hW₁ hcl, st⟩
theorem vx_runSX {hh : List (Nat × Nat × Nat × Nat)} (S : CallFix p m c cc nL s args Ts own) (hM : vx_Met l y ws rm Pc Qc XC mc ms free) (cw : vx_CSW R s args own index y bytes maxL ret hh ws rm mc ms n) (hp : PreS s H Pc As)
    (hg : g.method = m) (hn : As.length = n) (hsize : g.locals.size = nL) (hstack : g.stack = As.reverse ++ rest) (hW : 2 * g.monitorRoom + (rest.map fun v => v.category).sum ≤ 8) (hdg : decode cc g.pc = .ok (.invokestatic index, 3)) (hf : cells + mc ≤ R.cells ∧ slots + ms ≤ R.slots) :
    vx_Run p l e R s m args below meth c H locs cells slots mc ms g rest (Qc As.toArray) XC free := by
  obtain ⟨⟨hrc, hrs, hfr, hlo, hws, hcw⟩, hcode, hini, hy, hlen, hl, hstt⟩ := cw
  have hK : vx_Back l R p e below s args y 3 8 (PreOf R mc ms Pc) (PostOf Qc mc ms free) (vx_Post XC mc ms free) := vx_backW (hh := hh) (bytes := bytes) (maxL := maxL) (ret := ret) hM hp.1 hrc hrs hfr hlo hws hcw (fun a' U hW => word_at hW (Or.inl (by first | rfl | simp [Cond.onTables, Cond.keeps, Cond.steady])) hini)
  obtain ⟨hx, hb, hml, ho, -⟩ := S
  intro T hT X
  rcases vx_callSX X hx (hh := hh) (bytes := bytes) (maxL := maxL) (ret := ret) ho hl hstt hini hcode hy hK hg (hsize.trans hml.symm) (argsL := As) (rest := rest) (fun sig h => hn.trans (hlen sig h)) hstack hW (by rw [hb]; exact hdg)
    (fun vm₁ hW₁ => ⟨hf.1, hf.2, hp.2 (T.setVm vm₁) hT hW₁⟩) with ⟨v, vm₁, ⟨U', l2, c2, s2⟩, hW₁, X', ⟨g', mk, t, L, e1, e2, hq, h1, hL, h2, h3⟩, st⟩ | ⟨q, vm₁, ⟨U', l2, c2, s2⟩, hW₁, X', ⟨g', mk, t, L, E, ce, e1, e2, hq, hce, hcv, hcl, h1, hL, h2, h3⟩, st⟩
  · dsimp only [Pt.U, Pt.locs, Pt.cells, Pt.slots] at X' e1 e2 h1 h2 h3 st
    subst h1; subst h2; subst h3
    exact Or.inl ⟨v, (T.setVm vm₁).calling g' mk As.toArray, t, U', L, hT, X', hL, e1, e2, hq, st⟩
  · dsimp only [Pt.U, Pt.locs, Pt.cells, Pt.slots] at X' e1 e2 h1 h2 h3 st hcl
    subst h1; subst h2; subst h3
    exact Or.inr ⟨q, (T.setVm vm₁).calling g' mk As.toArray, t, U', L, E, ce, hT, X', hL, e1, e2, hq, hce, hcv, vx_cls hW₁ hcl, st⟩
end
end VXH
theorem vx_ofWH {l : Launch} {y : MethodName} {ws ws' : List Cond} {rm : Room} {Pc : Array Value → State → Prop} {Qc : Array Value → State → Outcome → State → Prop} {XC : String → State → State → Prop} {mc ms : Nat} {free : Addr → Prop} {cc : ByteArray} {maxL : Nat} {ret : Option FieldType} {hh : List (Nat × Nat × Nat × Nat)}
    (hy : plainName y.cls = true) (hw : ws = Cond.codeWith y cc maxL ret hh :: ws')
    (body : ∀ p e s m args below meth c s₁, BodyLoose p l y (headSpec ws rm) cc maxL ret e s m args below meth c s₁ → c.maxLocals = maxL → Pc args s →
      W p l e (headSpec ws rm).room s m args below meth c s.heap [] 0 0 (vx_MQ below Qc XC args s mc ms free) (entryFrame m args maxL)) : vx_Met l y ws rm Pc Qc XC mc ms free := by
  refine MetFree.of_bodyS (code := cc) (maxLocals := maxL) (ret := ret) hy ?_ ?_
  · intro args s m h hn
    obtain ⟨m9, meth, c, hn9, h1, h2, h3, h4, -, h5, h6, -⟩ := Cond.codeWith_spec (atoms_spec (ws := ws) h _ (by rw [hw]; exact List.mem_cons_self))
    cases hn.symm.trans hn9
    exact ⟨meth, c, h1, h2, h3, h4, h5, h6⟩
  · intro p e s m args below meth c s₁ B hml hP _
    have hh0 : s₁.heap = s.heap := by rw [B.state]; rfl
    obtain ⟨t, a1, o, b1, b2, b3⟩ := body p e s m args below meth c s₁ B hml hP s₁ hh0 (Stand.of_body B)
    exact ⟨t, o, a1, b1, b2, b3⟩
/-! ===== END ===== -/
end
section
/-! ===== BEGIN printed: names, fields, word lists, decode rows ===== -/
def RX0 : String := "BuildingPoints$Entries"
def TX0 : u_T := fun k => match k with
  | 0 => ("BuildingPoints$Entries", "days", "[I", true)
  | 1 => ("BuildingPoints$Entries", "minutes", "[I", true)
  | 2 => ("BuildingPoints$Entries", "told", "[I", true)
  | _ => ("BuildingPoints$Entries", "count", "I", false)
def tyX0 : Nat → FieldType := fun k => match k with
  | 0 => .array .int
  | 1 => .array .int
  | 2 => .array .int
  | _ => .int
abbrev wsX00 : List Cond := u_ws RX0 TX0 4
theorem nmX0 : ∀ a, a < 4 → ∀ b, b < 4 → a ≠ b → (TX0 a).2.1 ≠ (TX0 b).2.1 := by decide +kernel
theorem tyX0_ok : ∀ k, k < 4 → parseFieldDescriptor (TX0 k).2.2.1 = some (tyX0 k) := by decide +kernel
abbrev cX0_init : ByteArray := prog_2_method_1_code
def yX0_init : MethodName := ⟨RX0, "<init>", "()V"⟩
abbrev cX0_add : ByteArray := prog_2_method_2_code
def yX0_add : MethodName := ⟨RX0, "add", "(III)V"⟩
abbrev cX0_hasDay : ByteArray := prog_2_method_3_code
def yX0_hasDay : MethodName := ⟨RX0, "hasDay", "(I)Z"⟩
abbrev cX0_latest : ByteArray := prog_2_method_4_code
def yX0_latest : MethodName := ⟨RX0, "latest", "(II)I"⟩
def RX1 : String := "BuildingPoints$Point"
def TX1 : u_T := fun k => match k with
  | 0 => ("BuildingPoints$Point", "lowest", "I", true)
  | 1 => ("BuildingPoints$Point", "highest", "I", true)
  | 2 => ("BuildingPoints$Point", "original", "I", true)
  | 3 => ("BuildingPoints$Point", "leastTime", "I", true)
  | 4 => ("BuildingPoints$Point", "commands", "[I", true)
  | 5 => ("BuildingPoints$Point", "present", "I", false)
  | 6 => ("BuildingPoints$Point", "heldUntil", "I", false)
  | _ => ("BuildingPoints$Point", "changeCount", "I", false)
def tyX1 : Nat → FieldType := fun k => match k with
  | 0 => .int
  | 1 => .int
  | 2 => .int
  | 3 => .int
  | 4 => .array .int
  | 5 => .int
  | 6 => .int
  | _ => .int
abbrev wsX10 : List Cond := u_ws RX1 TX1 8
theorem nmX1 : ∀ a, a < 8 → ∀ b, b < 8 → a ≠ b → (TX1 a).2.1 ≠ (TX1 b).2.1 := by decide +kernel
theorem tyX1_ok : ∀ k, k < 8 → parseFieldDescriptor (TX1 k).2.2.1 = some (tyX1 k) := by decide +kernel
abbrev cX1_init : ByteArray := prog_3_method_1_code
def yX1_init : MethodName := ⟨RX1, "<init>", "(IIII)V"⟩
abbrev cX1_canHave : ByteArray := prog_3_method_2_code
def yX1_canHave : MethodName := ⟨RX1, "canHave", "(I)Z"⟩
abbrev cX1_isHeld : ByteArray := prog_3_method_3_code
def yX1_isHeld : MethodName := ⟨RX1, "isHeld", "()Z"⟩
abbrev cX1_lowestCommanded : ByteArray := prog_3_method_4_code
def yX1_lowestCommanded : MethodName := ⟨RX1, "lowestCommanded", "()I"⟩
abbrev cX1_dueValue : ByteArray := prog_3_method_5_code
def yX1_dueValue : MethodName := ⟨RX1, "dueValue", "()I"⟩
abbrev cX1_change : ByteArray := prog_3_method_6_code
def yX1_change : MethodName := ⟨RX1, "change", "(II)V"⟩
def RX2 : String := "BuildingPoints$Schedule"
def TX2 : u_T := fun k => match k with
  | 0 => ("BuildingPoints$Schedule", "point", "LBuildingPoints$Point;", true)
  | 1 => ("BuildingPoints$Schedule", "priority", "I", true)
  | 2 => ("BuildingPoints$Schedule", "weekdays", "LBuildingPoints$Entries;", true)
  | 3 => ("BuildingPoints$Schedule", "singleDays", "LBuildingPoints$Entries;", true)
  | _ => ("BuildingPoints$Schedule", "toldLast", "I", false)
def tyX2 : Nat → FieldType := fun k => match k with
  | 0 => .object "BuildingPoints$Point"
  | 1 => .int
  | 2 => .object "BuildingPoints$Entries"
  | 3 => .object "BuildingPoints$Entries"
  | _ => .int
abbrev wsX20 : List Cond := u_ws RX2 TX2 5
theorem nmX2 : ∀ a, a < 5 → ∀ b, b < 5 → a ≠ b → (TX2 a).2.1 ≠ (TX2 b).2.1 := by decide +kernel
theorem tyX2_ok : ∀ k, k < 5 → parseFieldDescriptor (TX2 k).2.2.1 = some (tyX2 k) := by decide +kernel
abbrev cX2_init : ByteArray := prog_4_method_1_code
def yX2_init : MethodName := ⟨RX2, "<init>", "(LBuildingPoints$Point;I)V"⟩
abbrev cX2_entryCount : ByteArray := prog_4_method_2_code
def yX2_entryCount : MethodName := ⟨RX2, "entryCount", "()I"⟩
abbrev cX2_toldAt : ByteArray := prog_4_method_3_code
def yX2_toldAt : MethodName := ⟨RX2, "toldAt", "(I)I"⟩
def RX3 : String := "BuildingPoints$Subscription"
def TX3 : u_T := fun k => match k with
  | 0 => ("BuildingPoints$Subscription", "point", "LBuildingPoints$Point;", true)
  | 1 => ("BuildingPoints$Subscription", "increment", "I", true)
  | 2 => ("BuildingPoints$Subscription", "endTime", "I", true)
  | 3 => ("BuildingPoints$Subscription", "kept", "I", false)
  | 4 => ("BuildingPoints$Subscription", "reportCount", "I", false)
  | _ => ("BuildingPoints$Subscription", "isOpen", "Z", false)
def tyX3 : Nat → FieldType := fun k => match k with
  | 0 => .object "BuildingPoints$Point"
  | 1 => .int
  | 2 => .int
  | 3 => .int
  | 4 => .int
  | _ => .boolean
abbrev wsX30 : List Cond := u_ws RX3 TX3 6
theorem nmX3 : ∀ a, a < 6 → ∀ b, b < 6 → a ≠ b → (TX3 a).2.1 ≠ (TX3 b).2.1 := by decide +kernel
theorem tyX3_ok : ∀ k, k < 6 → parseFieldDescriptor (TX3 k).2.2.1 = some (tyX3 k) := by decide +kernel
abbrev cX3_init : ByteArray := prog_5_method_1_code
def yX3_init : MethodName := ⟨RX3, "<init>", "(LBuildingPoints$Point;II)V"⟩
abbrev cX3_isFarFrom : ByteArray := prog_5_method_2_code
def yX3_isFarFrom : MethodName := ⟨RX3, "isFarFrom", "(I)Z"⟩
abbrev cX3_report : ByteArray := prog_5_method_3_code
def yX3_report : MethodName := ⟨RX3, "report", "(I)V"⟩
def RX4 : String := "BuildingPoints"
def TX4 : u_T := fun k => match k with
  | 0 => ("BuildingPoints", "points", "[LBuildingPoints$Point;", true)
  | 1 => ("BuildingPoints", "subscriptions", "[LBuildingPoints$Subscription;", true)
  | 2 => ("BuildingPoints", "schedules", "[LBuildingPoints$Schedule;", true)
  | 3 => ("BuildingPoints", "pointCount", "I", false)
  | 4 => ("BuildingPoints", "subscriptionCount", "I", false)
  | 5 => ("BuildingPoints", "scheduleCount", "I", false)
  | 6 => ("BuildingPoints", "now", "I", false)
  | _ => ("BuildingPoints", "allReports", "I", false)
def tyX4 : Nat → FieldType := fun k => match k with
  | 0 => .array (.object "BuildingPoints$Point")
  | 1 => .array (.object "BuildingPoints$Subscription")
  | 2 => .array (.object "BuildingPoints$Schedule")
  | 3 => .int
  | 4 => .int
  | 5 => .int
  | 6 => .int
  | _ => .int
abbrev wsX40 : List Cond := u_ws RX4 TX4 8
theorem nmX4 : ∀ a, a < 8 → ∀ b, b < 8 → a ≠ b → (TX4 a).2.1 ≠ (TX4 b).2.1 := by decide +kernel
theorem tyX4_ok : ∀ k, k < 8 → parseFieldDescriptor (TX4 k).2.2.1 = some (tyX4 k) := by decide +kernel
abbrev cX4_init : ByteArray := prog_1_method_1_code
def yX4_init : MethodName := ⟨RX4, "<init>", "()V"⟩
abbrev cX4_addMeasure : ByteArray := prog_1_method_2_code
def yX4_addMeasure : MethodName := ⟨RX4, "addMeasure", "(I)I"⟩
abbrev cX4_addSwitch : ByteArray := prog_1_method_3_code
def yX4_addSwitch : MethodName := ⟨RX4, "addSwitch", "(II)I"⟩
abbrev cX4_write : ByteArray := prog_1_method_4_code
def yX4_write : MethodName := ⟨RX4, "write", "(III)I"⟩
abbrev cX4_value : ByteArray := prog_1_method_5_code
def yX4_value : MethodName := ⟨RX4, "value", "(I)I"⟩
abbrev cX4_command : ByteArray := prog_1_method_6_code
def yX4_command : MethodName := ⟨RX4, "command", "(II)I"⟩
abbrev cX4_standing : ByteArray := prog_1_method_7_code
def yX4_standing : MethodName := ⟨RX4, "standing", "(I)I"⟩
abbrev cX4_held : ByteArray := prog_1_method_8_code
def yX4_held : MethodName := ⟨RX4, "held", "(I)I"⟩
abbrev cX4_changes : ByteArray := prog_1_method_9_code
def yX4_changes : MethodName := ⟨RX4, "changes", "(I)I"⟩
abbrev cX4_subscribe : ByteArray := prog_1_method_10_code
def yX4_subscribe : MethodName := ⟨RX4, "subscribe", "(III)I"⟩
abbrev cX4_end : ByteArray := prog_1_method_11_code
def yX4_end : MethodName := ⟨RX4, "end", "(I)V"⟩
abbrev cX4_goesOn : ByteArray := prog_1_method_12_code
def yX4_goesOn : MethodName := ⟨RX4, "goesOn", "(I)Z"⟩
abbrev cX4_reports : ByteArray := prog_1_method_13_code
def yX4_reports : MethodName := ⟨RX4, "reports", "(I)I"⟩
abbrev cX4_reported : ByteArray := prog_1_method_14_code
def yX4_reported : MethodName := ⟨RX4, "reported", "(I)I"⟩
abbrev cX4_addSchedule : ByteArray := prog_1_method_15_code
def yX4_addSchedule : MethodName := ⟨RX4, "addSchedule", "(II)I"⟩
abbrev cX4_weekly : ByteArray := prog_1_method_16_code
def yX4_weekly : MethodName := ⟨RX4, "weekly", "(IIII)I"⟩
abbrev cX4_once : ByteArray := prog_1_method_17_code
def yX4_once : MethodName := ⟨RX4, "once", "(IIII)I"⟩
abbrev cX4_tells : ByteArray := prog_1_method_18_code
def yX4_tells : MethodName := ⟨RX4, "tells", "(II)I"⟩
abbrev cX4_pass : ByteArray := prog_1_method_19_code
def yX4_pass : MethodName := ⟨RX4, "pass", "(I)I"⟩
abbrev cX4_clock : ByteArray := prog_1_method_20_code
def yX4_clock : MethodName := ⟨RX4, "clock", "()I"⟩
abbrev cX4_requireWithin : ByteArray := prog_1_method_21_code
def yX4_requireWithin : MethodName := ⟨RX4, "requireWithin", "(III)V"⟩
abbrev cX4_requireCommand : ByteArray := prog_1_method_22_code
def yX4_requireCommand : MethodName := ⟨RX4, "requireCommand", "(LBuildingPoints$Point;I)V"⟩
abbrev cX4_requireRoom : ByteArray := prog_1_method_23_code
def yX4_requireRoom : MethodName := ⟨RX4, "requireRoom", "(II)V"⟩
abbrev cX4_requireEntry : ByteArray := prog_1_method_24_code
def yX4_requireEntry : MethodName := ⟨RX4, "requireEntry", "(LBuildingPoints$Schedule;II)V"⟩
abbrev cX4_pointAt : ByteArray := prog_1_method_25_code
def yX4_pointAt : MethodName := ⟨RX4, "pointAt", "(I)LBuildingPoints$Point;"⟩
abbrev cX4_subscriptionAt : ByteArray := prog_1_method_26_code
def yX4_subscriptionAt : MethodName := ⟨RX4, "subscriptionAt", "(I)LBuildingPoints$Subscription;"⟩
abbrev cX4_scheduleAt : ByteArray := prog_1_method_27_code
def yX4_scheduleAt : MethodName := ⟨RX4, "scheduleAt", "(I)LBuildingPoints$Schedule;"⟩
abbrev cX4_put : ByteArray := prog_1_method_28_code
def yX4_put : MethodName := ⟨RX4, "put", "(LBuildingPoints$Point;II)V"⟩
abbrev cX4_reportChange : ByteArray := prog_1_method_29_code
def yX4_reportChange : MethodName := ⟨RX4, "reportChange", "(LBuildingPoints$Point;)V"⟩
abbrev cX4_follow : ByteArray := prog_1_method_30_code
def yX4_follow : MethodName := ⟨RX4, "follow", "(LBuildingPoints$Schedule;)V"⟩
abbrev cX4_passMinute : ByteArray := prog_1_method_31_code
def yX4_passMinute : MethodName := ⟨RX4, "passMinute", "()V"⟩
abbrev cX4_releaseHeldCommands : ByteArray := prog_1_method_32_code
def yX4_releaseHeldCommands : MethodName := ⟨RX4, "releaseHeldCommands", "()V"⟩
abbrev cX4_endOldSubscriptions : ByteArray := prog_1_method_33_code
def yX4_endOldSubscriptions : MethodName := ⟨RX4, "endOldSubscriptions", "()V"⟩
abbrev cX4_followSchedules : ByteArray := prog_1_method_34_code
def yX4_followSchedules : MethodName := ⟨RX4, "followSchedules", "()V"⟩
def RX5 : String := "BuildingPointsModel"
def TX5 : u_T := fun k => match k with
  | 0 => ("BuildingPointsModel", "clock", "I", false)
  | 1 => ("BuildingPointsModel", "points", "I", false)
  | 2 => ("BuildingPointsModel", "subscriptions", "I", false)
  | 3 => ("BuildingPointsModel", "schedules", "I", false)
  | 4 => ("BuildingPointsModel", "told", "I", false)
  | 5 => ("BuildingPointsModel", "isSwitch", "[Z", true)
  | 6 => ("BuildingPointsModel", "first", "[I", true)
  | 7 => ("BuildingPointsModel", "least", "[I", true)
  | 8 => ("BuildingPointsModel", "until", "[I", true)
  | 9 => ("BuildingPointsModel", "changed", "[I", true)
  | 10 => ("BuildingPointsModel", "commands", "[I", true)
  | 11 => ("BuildingPointsModel", "of", "[I", true)
  | 12 => ("BuildingPointsModel", "increment", "[I", true)
  | 13 => ("BuildingPointsModel", "over", "[I", true)
  | 14 => ("BuildingPointsModel", "ended", "[Z", true)
  | 15 => ("BuildingPointsModel", "sent", "[I", true)
  | 16 => ("BuildingPointsModel", "kept", "[I", true)
  | 17 => ("BuildingPointsModel", "to", "[I", true)
  | 18 => ("BuildingPointsModel", "at", "[I", true)
  | 19 => ("BuildingPointsModel", "last", "[I", true)
  | 20 => ("BuildingPointsModel", "entries", "[I", true)
  | 21 => ("BuildingPointsModel", "when", "[I", true)
  | 22 => ("BuildingPointsModel", "minute", "[I", true)
  | 23 => ("BuildingPointsModel", "tells", "[I", true)
  | _ => ("BuildingPointsModel", "thrown", "I", false)
def tyX5 : Nat → FieldType := fun k => match k with
  | 0 => .int
  | 1 => .int
  | 2 => .int
  | 3 => .int
  | 4 => .int
  | 5 => .array .boolean
  | 6 => .array .int
  | 7 => .array .int
  | 8 => .array .int
  | 9 => .array .int
  | 10 => .array .int
  | 11 => .array .int
  | 12 => .array .int
  | 13 => .array .int
  | 14 => .array .boolean
  | 15 => .array .int
  | 16 => .array .int
  | 17 => .array .int
  | 18 => .array .int
  | 19 => .array .int
  | 20 => .array .int
  | 21 => .array .int
  | 22 => .array .int
  | 23 => .array .int
  | _ => .int
abbrev wsX50 : List Cond := u_ws RX5 TX5 25
theorem nmX5 : ∀ a, a < 25 → ∀ b, b < 25 → a ≠ b → (TX5 a).2.1 ≠ (TX5 b).2.1 := by decide +kernel
theorem tyX5_ok : ∀ k, k < 25 → parseFieldDescriptor (TX5 k).2.2.1 = some (tyX5 k) := by decide +kernel
abbrev cX5_init : ByteArray := prog_7_method_1_code
def yX5_init : MethodName := ⟨RX5, "<init>", "()V"⟩
abbrev cX5_thrown : ByteArray := prog_7_method_2_code
def yX5_thrown : MethodName := ⟨RX5, "thrown", "()I"⟩
abbrev cX5_in : ByteArray := prog_7_method_3_code
def yX5_in : MethodName := ⟨RX5, "in", "(III)Z"⟩
abbrev cX5_goes : ByteArray := prog_7_method_4_code
def yX5_goes : MethodName := ⟨RX5, "goes", "(ZZZ)Z"⟩
abbrev cX5_isPoint : ByteArray := prog_7_method_5_code
def yX5_isPoint : MethodName := ⟨RX5, "isPoint", "(I)Z"⟩
abbrev cX5_canHave : ByteArray := prog_7_method_6_code
def yX5_canHave : MethodName := ⟨RX5, "canHave", "(II)Z"⟩
abbrev cX5_adds : ByteArray := prog_7_method_7_code
def yX5_adds : MethodName := ⟨RX5, "adds", "(IZI)I"⟩
abbrev cX5_addMeasure : ByteArray := prog_7_method_8_code
def yX5_addMeasure : MethodName := ⟨RX5, "addMeasure", "(I)I"⟩
abbrev cX5_addSwitch : ByteArray := prog_7_method_9_code
def yX5_addSwitch : MethodName := ⟨RX5, "addSwitch", "(II)I"⟩
abbrev cX5_standingOf : ByteArray := prog_7_method_10_code
def yX5_standingOf : MethodName := ⟨RX5, "standingOf", "(I)I"⟩
abbrev cX5_valueOf : ByteArray := prog_7_method_11_code
def yX5_valueOf : MethodName := ⟨RX5, "valueOf", "(I)I"⟩
abbrev cX5_informs : ByteArray := prog_7_method_12_code
def yX5_informs : MethodName := ⟨RX5, "informs", "(II)V"⟩
abbrev cX5_sets : ByteArray := prog_7_method_13_code
def yX5_sets : MethodName := ⟨RX5, "sets", "(III)V"⟩
abbrev cX5_write : ByteArray := prog_7_method_14_code
def yX5_write : MethodName := ⟨RX5, "write", "(III)I"⟩
abbrev cX5_value : ByteArray := prog_7_method_15_code
def yX5_value : MethodName := ⟨RX5, "value", "(I)I"⟩
abbrev cX5_command : ByteArray := prog_7_method_16_code
def yX5_command : MethodName := ⟨RX5, "command", "(II)I"⟩
abbrev cX5_standing : ByteArray := prog_7_method_17_code
def yX5_standing : MethodName := ⟨RX5, "standing", "(I)I"⟩
abbrev cX5_held : ByteArray := prog_7_method_18_code
def yX5_held : MethodName := ⟨RX5, "held", "(I)I"⟩
abbrev cX5_changes : ByteArray := prog_7_method_19_code
def yX5_changes : MethodName := ⟨RX5, "changes", "(I)I"⟩
abbrev cX5_subscribe : ByteArray := prog_7_method_20_code
def yX5_subscribe : MethodName := ⟨RX5, "subscribe", "(III)I"⟩
abbrev cX5_isSubscription : ByteArray := prog_7_method_21_code
def yX5_isSubscription : MethodName := ⟨RX5, "isSubscription", "(I)Z"⟩
abbrev cX5_end : ByteArray := prog_7_method_22_code
def yX5_end : MethodName := ⟨RX5, "end", "(I)V"⟩
abbrev cX5_goesOn : ByteArray := prog_7_method_23_code
def yX5_goesOn : MethodName := ⟨RX5, "goesOn", "(I)Z"⟩
abbrev cX5_reports : ByteArray := prog_7_method_24_code
def yX5_reports : MethodName := ⟨RX5, "reports", "(I)I"⟩
abbrev cX5_reported : ByteArray := prog_7_method_25_code
def yX5_reported : MethodName := ⟨RX5, "reported", "(I)I"⟩
abbrev cX5_isSchedule : ByteArray := prog_7_method_26_code
def yX5_isSchedule : MethodName := ⟨RX5, "isSchedule", "(I)Z"⟩
abbrev cX5_addSchedule : ByteArray := prog_7_method_27_code
def yX5_addSchedule : MethodName := ⟨RX5, "addSchedule", "(II)I"⟩
abbrev cX5_toldBy : ByteArray := prog_7_method_28_code
def yX5_toldBy : MethodName := ⟨RX5, "toldBy", "(II)I"⟩
abbrev cX5_obeys : ByteArray := prog_7_method_29_code
def yX5_obeys : MethodName := ⟨RX5, "obeys", "(I)V"⟩
abbrev cX5_enters : ByteArray := prog_7_method_30_code
def yX5_enters : MethodName := ⟨RX5, "enters", "(IIII)I"⟩
abbrev cX5_weekly : ByteArray := prog_7_method_31_code
def yX5_weekly : MethodName := ⟨RX5, "weekly", "(IIII)I"⟩
abbrev cX5_once : ByteArray := prog_7_method_32_code
def yX5_once : MethodName := ⟨RX5, "once", "(IIII)I"⟩
abbrev cX5_tells : ByteArray := prog_7_method_33_code
def yX5_tells : MethodName := ⟨RX5, "tells", "(II)I"⟩
abbrev cX5_minutes : ByteArray := prog_7_method_34_code
def yX5_minutes : MethodName := ⟨RX5, "minutes", "()V"⟩
abbrev cX5_pass : ByteArray := prog_7_method_35_code
def yX5_pass : MethodName := ⟨RX5, "pass", "(I)I"⟩
abbrev cX5_clock : ByteArray := prog_7_method_36_code
def yX5_clock : MethodName := ⟨RX5, "clock", "()I"⟩
def RJx145de : String := "java/io/Serializable"
def TJx145de : u_T := fun k => match k with
  | _ => ("", "", "", false)
def tyJx145de : Nat → FieldType := fun k => match k with
  | _ => .int
abbrev wsJx145de0 : List Cond := u_ws RJx145de TJx145de 0
theorem nmJx145de : ∀ a, a < 0 → ∀ b, b < 0 → a ≠ b → (TJx145de a).2.1 ≠ (TJx145de b).2.1 := by decide +kernel
theorem tyJx145de_ok : ∀ k, k < 0 → parseFieldDescriptor (TJx145de k).2.2.1 = some (tyJx145de k) := by decide +kernel
def RJ9 : String := "java/lang/Math"
def TJ9 : u_T := fun k => match k with
  | _ => ("", "", "", false)
def tyJ9 : Nat → FieldType := fun k => match k with
  | _ => .int
abbrev wsJ90 : List Cond := u_ws RJ9 TJ9 0
theorem nmJ9 : ∀ a, a < 0 → ∀ b, b < 0 → a ≠ b → (TJ9 a).2.1 ≠ (TJ9 b).2.1 := by decide +kernel
theorem tyJ9_ok : ∀ k, k < 0 → parseFieldDescriptor (TJ9 k).2.2.1 = some (tyJ9 k) := by decide +kernel
abbrev cJ9_abs_0f7a4 : ByteArray := prog_12_method_59_code
def yJ9_abs_0f7a4 : MethodName := ⟨RJ9, "abs", "(I)I"⟩
def RJ0 : String := "java/lang/String"
def TJ0 : u_T := fun k => match k with
  | _ => ("", "", "", false)
def tyJ0 : Nat → FieldType := fun k => match k with
  | _ => .int
abbrev wsJ00 : List Cond := u_ws RJ0 TJ0 0
theorem nmJ0 : ∀ a, a < 0 → ∀ b, b < 0 → a ≠ b → (TJ0 a).2.1 ≠ (TJ0 b).2.1 := by decide +kernel
theorem tyJ0_ok : ∀ k, k < 0 → parseFieldDescriptor (TJ0 k).2.2.1 = some (tyJ0 k) := by decide +kernel
def RJ7 : String := "java/util/Arrays"
def TJ7 : u_T := fun k => match k with
  | _ => ("", "", "", false)
def tyJ7 : Nat → FieldType := fun k => match k with
  | _ => .int
abbrev wsJ70 : List Cond := u_ws RJ7 TJ7 0
theorem nmJ7 : ∀ a, a < 0 → ∀ b, b < 0 → a ≠ b → (TJ7 a).2.1 ≠ (TJ7 b).2.1 := by decide +kernel
theorem tyJ7_ok : ∀ k, k < 0 → parseFieldDescriptor (TJ7 k).2.2.1 = some (tyJ7 k) := by decide +kernel
abbrev cJ7_fill_53178 : ByteArray := prog_16_method_103_code
def yJ7_fill_53178 : MethodName := ⟨RJ7, "fill", "([II)V"⟩
def RL : String := "BuildingPointsLaw"
abbrev cL_addMeasure : ByteArray := method_3_code
def yL_addMeasure : MethodName := ⟨RL, "addMeasure", "(LBuildingPoints;I[J)I"⟩
abbrev cL_addSwitch : ByteArray := method_4_code
def yL_addSwitch : MethodName := ⟨RL, "addSwitch", "(LBuildingPoints;II[J)I"⟩
abbrev cL_write : ByteArray := method_5_code
def yL_write : MethodName := ⟨RL, "write", "(LBuildingPoints;III[J)I"⟩
abbrev cL_value : ByteArray := method_6_code
def yL_value : MethodName := ⟨RL, "value", "(LBuildingPoints;I[J)I"⟩
abbrev cL_command : ByteArray := method_7_code
def yL_command : MethodName := ⟨RL, "command", "(LBuildingPoints;II[J)I"⟩
abbrev cL_standing : ByteArray := method_8_code
def yL_standing : MethodName := ⟨RL, "standing", "(LBuildingPoints;I[J)I"⟩
abbrev cL_held : ByteArray := method_9_code
def yL_held : MethodName := ⟨RL, "held", "(LBuildingPoints;I[J)I"⟩
abbrev cL_changes : ByteArray := method_10_code
def yL_changes : MethodName := ⟨RL, "changes", "(LBuildingPoints;I[J)I"⟩
abbrev cL_subscribe : ByteArray := method_11_code
def yL_subscribe : MethodName := ⟨RL, "subscribe", "(LBuildingPoints;III[J)I"⟩
abbrev cL_end : ByteArray := method_12_code
def yL_end : MethodName := ⟨RL, "end", "(LBuildingPoints;I)I"⟩
abbrev cL_goesOn : ByteArray := method_13_code
def yL_goesOn : MethodName := ⟨RL, "goesOn", "(LBuildingPoints;I[J)I"⟩
abbrev cL_reports : ByteArray := method_14_code
def yL_reports : MethodName := ⟨RL, "reports", "(LBuildingPoints;I[J)I"⟩
abbrev cL_reported : ByteArray := method_15_code
def yL_reported : MethodName := ⟨RL, "reported", "(LBuildingPoints;I[J)I"⟩
abbrev cL_addSchedule : ByteArray := method_16_code
def yL_addSchedule : MethodName := ⟨RL, "addSchedule", "(LBuildingPoints;II[J)I"⟩
abbrev cL_weekly : ByteArray := method_17_code
def yL_weekly : MethodName := ⟨RL, "weekly", "(LBuildingPoints;IIII[J)I"⟩
abbrev cL_once : ByteArray := method_18_code
def yL_once : MethodName := ⟨RL, "once", "(LBuildingPoints;IIII[J)I"⟩
abbrev cL_tells : ByteArray := method_19_code
def yL_tells : MethodName := ⟨RL, "tells", "(LBuildingPoints;II[J)I"⟩
abbrev cL_pass : ByteArray := method_20_code
def yL_pass : MethodName := ⟨RL, "pass", "(LBuildingPoints;I[J)I"⟩
abbrev cL_law : ByteArray := code
def yL_law : MethodName := ⟨RL, "law", "([I)Z"⟩
def wsX0_init : List Cond := .code yX0_init cX0_init 1 none :: ([.methodLink RX0 3 objectInit, .instanceMethod objectInit, .code objectInit ⟨#[0xb1]⟩ 1 none, .arrayClass .int, .fieldLink RX0 9 "BuildingPoints$Entries" "days" "[I", .fieldLink RX0 15 "BuildingPoints$Entries" "minutes" "[I", .fieldLink RX0 18 "BuildingPoints$Entries" "told" "[I", .fieldLink RX0 21 "BuildingPoints$Entries" "count" "I"] ++ wsX00)
def wsX0_add : List Cond := .code yX0_add cX0_add 4 none :: ([.fieldLink RX0 21 "BuildingPoints$Entries" "count" "I", .fieldLink RX0 9 "BuildingPoints$Entries" "days" "[I", .fieldLink RX0 15 "BuildingPoints$Entries" "minutes" "[I", .fieldLink RX0 18 "BuildingPoints$Entries" "told" "[I"] ++ wsX00)
def wsX0_hasDay : List Cond := .code yX0_hasDay cX0_hasDay 3 (some .boolean) :: ([.fieldLink RX0 21 "BuildingPoints$Entries" "count" "I", .fieldLink RX0 9 "BuildingPoints$Entries" "days" "[I"] ++ wsX00)
def wsX0_latest : List Cond := .code yX0_latest cX0_latest 6 (some .int) :: ([.constant RX0 25 (-100000), .fieldLink RX0 21 "BuildingPoints$Entries" "count" "I", .fieldLink RX0 9 "BuildingPoints$Entries" "days" "[I", .fieldLink RX0 15 "BuildingPoints$Entries" "minutes" "[I", .fieldLink RX0 18 "BuildingPoints$Entries" "told" "[I"] ++ wsX00)
def wsJ7_fill_53178 : List Cond := .code yJ7_fill_53178 cJ7_fill_53178 4 none :: ([])
def wsX1_init : List Cond := .code yX1_init cX1_init 5 none :: ([.methodLink RX1 3 objectInit, .instanceMethod objectInit, .code objectInit ⟨#[0xb1]⟩ 1 none, .fieldLink RX1 9 "BuildingPoints$Point" "lowest" "I", .fieldLink RX1 15 "BuildingPoints$Point" "highest" "I", .fieldLink RX1 18 "BuildingPoints$Point" "original" "I", .fieldLink RX1 21 "BuildingPoints$Point" "leastTime" "I", .arrayClass .int, .fieldLink RX1 24 "BuildingPoints$Point" "commands" "[I", .constant RX1 28 (-100000), .fieldLink RX1 35 "BuildingPoints$Point" "present" "I", .fieldLink RX1 38 "BuildingPoints$Point" "heldUntil" "I", .fieldLink RX1 41 "BuildingPoints$Point" "changeCount" "I", .methodLink RX1 29 yJ7_fill_53178, .static yJ7_fill_53178, .initialized RJ7, .code yJ7_fill_53178 cJ7_fill_53178 4 none] ++ wsX10)
def wsX1_canHave : List Cond := .code yX1_canHave cX1_canHave 2 (some .boolean) :: ([.fieldLink RX1 9 "BuildingPoints$Point" "lowest" "I", .fieldLink RX1 15 "BuildingPoints$Point" "highest" "I"] ++ wsX10)
def wsX1_isHeld : List Cond := .code yX1_isHeld cX1_isHeld 1 (some .boolean) :: ([.fieldLink RX1 38 "BuildingPoints$Point" "heldUntil" "I"] ++ wsX10)
def wsX1_lowestCommanded : List Cond := .code yX1_lowestCommanded cX1_lowestCommanded 2 (some .int) :: ([.fieldLink RX1 24 "BuildingPoints$Point" "commands" "[I", .constant RX1 28 (-100000)] ++ wsX10)
def wsX1_dueValue : List Cond := .code yX1_dueValue cX1_dueValue 2 (some .int) :: ([.fieldLink RX1 24 "BuildingPoints$Point" "commands" "[I", .fieldLink RX1 18 "BuildingPoints$Point" "original" "I", .methodLink RX1 44 yX1_lowestCommanded, .instanceMethod yX1_lowestCommanded, .selects RX1 yX1_lowestCommanded yX1_lowestCommanded, .initialized RX1, .code yX1_lowestCommanded cX1_lowestCommanded 2 (some .int), .constant RX1 28 (-100000)] ++ wsX10)
def wsX1_change : List Cond := .code yX1_change cX1_change 3 none :: ([.fieldLink RX1 35 "BuildingPoints$Point" "present" "I", .fieldLink RX1 41 "BuildingPoints$Point" "changeCount" "I", .fieldLink RX1 21 "BuildingPoints$Point" "leastTime" "I", .fieldLink RX1 24 "BuildingPoints$Point" "commands" "[I", .fieldLink RX1 38 "BuildingPoints$Point" "heldUntil" "I"] ++ wsX10)
def wsX2_init : List Cond := .code yX2_init cX2_init 3 none :: ([.methodLink RX2 3 objectInit, .instanceMethod objectInit, .code objectInit ⟨#[0xb1]⟩ 1 none, .fieldLink RX2 9 "BuildingPoints$Schedule" "point" "LBuildingPoints$Point;", .fieldLink RX2 15 "BuildingPoints$Schedule" "priority" "I", .classLink RX2 19 RX0, .instantiable RX0 4, .initialized RX0, .fieldLink RX2 22 "BuildingPoints$Schedule" "weekdays" "LBuildingPoints$Entries;", .fieldLink RX2 26 "BuildingPoints$Schedule" "singleDays" "LBuildingPoints$Entries;", .constant RX2 29 (-100000), .fieldLink RX2 30 "BuildingPoints$Schedule" "toldLast" "I", .methodLink RX2 21 yX0_init, .instanceMethod yX0_init, .code yX0_init cX0_init 1 none, .methodLink RX0 3 objectInit, .arrayClass .int, .fieldLink RX0 9 "BuildingPoints$Entries" "days" "[I", .fieldLink RX0 15 "BuildingPoints$Entries" "minutes" "[I", .fieldLink RX0 18 "BuildingPoints$Entries" "told" "[I", .fieldLink RX0 21 "BuildingPoints$Entries" "count" "I"] ++ wsX20 ++ wsX00)
def wsX2_entryCount : List Cond := .code yX2_entryCount cX2_entryCount 1 (some .int) :: ([.fieldLink RX2 22 "BuildingPoints$Schedule" "weekdays" "LBuildingPoints$Entries;", .fieldLink RX2 33 "BuildingPoints$Entries" "count" "I", .fieldLink RX2 26 "BuildingPoints$Schedule" "singleDays" "LBuildingPoints$Entries;"] ++ wsX20 ++ wsX00)
def wsX2_toldAt : List Cond := .code yX2_toldAt cX2_toldAt 4 (some .int) :: ([.fieldLink RX2 26 "BuildingPoints$Schedule" "singleDays" "LBuildingPoints$Entries;", .fieldLink RX2 22 "BuildingPoints$Schedule" "weekdays" "LBuildingPoints$Entries;", .methodLink RX2 36 yX0_hasDay, .instanceMethod yX0_hasDay, .selects RX0 yX0_hasDay yX0_hasDay, .initialized RX0, .code yX0_hasDay cX0_hasDay 3 (some .boolean), .fieldLink RX0 21 "BuildingPoints$Entries" "count" "I", .fieldLink RX0 9 "BuildingPoints$Entries" "days" "[I", .methodLink RX2 40 yX0_latest, .instanceMethod yX0_latest, .selects RX0 yX0_latest yX0_latest, .code yX0_latest cX0_latest 6 (some .int), .constant RX0 25 (-100000), .fieldLink RX0 15 "BuildingPoints$Entries" "minutes" "[I", .fieldLink RX0 18 "BuildingPoints$Entries" "told" "[I"] ++ wsX20 ++ wsX00)
def wsX3_init : List Cond := .code yX3_init cX3_init 4 none :: ([.methodLink RX3 1 objectInit, .instanceMethod objectInit, .code objectInit ⟨#[0xb1]⟩ 1 none, .fieldLink RX3 7 "BuildingPoints$Subscription" "point" "LBuildingPoints$Point;", .fieldLink RX3 13 "BuildingPoints$Subscription" "increment" "I", .fieldLink RX3 17 "BuildingPoints$Subscription" "endTime" "I", .fieldLink RX3 20 "BuildingPoints$Point" "present" "I", .fieldLink RX3 25 "BuildingPoints$Subscription" "kept" "I", .fieldLink RX3 28 "BuildingPoints$Subscription" "reportCount" "I", .fieldLink RX3 31 "BuildingPoints$Subscription" "isOpen" "Z"] ++ wsX30 ++ wsX10)
def wsX3_isFarFrom : List Cond := .code yX3_isFarFrom cX3_isFarFrom 2 (some .boolean) :: ([.fieldLink RX3 25 "BuildingPoints$Subscription" "kept" "I", .methodLink RX3 35 Lib.Math.abs.name, .static Lib.Math.abs.name, .initialized "java/lang/Math", .code Lib.Math.abs.name Lib.Math.abs.code 1 (some .int), .fieldLink RX3 13 "BuildingPoints$Subscription" "increment" "I"] ++ wsX30)
def wsX3_report : List Cond := .code yX3_report cX3_report 2 none :: ([.fieldLink RX3 25 "BuildingPoints$Subscription" "kept" "I", .fieldLink RX3 28 "BuildingPoints$Subscription" "reportCount" "I"] ++ wsX30)
def wsX4_init : List Cond := .code yX4_init cX4_init 1 none :: ([.methodLink RX4 1 objectInit, .instanceMethod objectInit, .code objectInit ⟨#[0xb1]⟩ 1 none, .classLink RX4 9 RX1, .fieldLink RX4 11 "BuildingPoints" "points" "[LBuildingPoints$Point;", .classLink RX4 15 RX3, .fieldLink RX4 17 "BuildingPoints" "subscriptions" "[LBuildingPoints$Subscription;", .classLink RX4 21 RX2, .fieldLink RX4 23 "BuildingPoints" "schedules" "[LBuildingPoints$Schedule;"] ++ wsX40)
def wsX4_requireWithin : List Cond := .code yX4_requireWithin cX4_requireWithin 3 none :: ([.classLink RX4 152 "java/lang/IllegalArgumentException", .initialized "java/lang/IllegalArgumentException"] ++ (vx_atS RX4 156 "java/lang/IllegalArgumentException" ["java/lang/RuntimeException", "java/lang/Exception"]).filter goodWord)
def wsX4_requireRoom : List Cond := .code yX4_requireRoom cX4_requireRoom 2 none :: ([.classLink RX4 54 "java/lang/IllegalStateException", .initialized "java/lang/IllegalStateException"] ++ (vx_atS RX4 58 "java/lang/IllegalStateException" ["java/lang/RuntimeException", "java/lang/Exception"]).filter goodWord)
def wsX4_addMeasure_r1 : List Cond := [Cond.fieldLink RX4 31 "BuildingPoints" "pointCount" "I", Cond.fieldLink RX4 11 "BuildingPoints" "points" "[LBuildingPoints$Point;", Cond.classLink RX4 9 RX1, Cond.instantiable RX1 8, Cond.initialized RX1, Cond.methodLink RX4 27 yX4_requireWithin, Cond.static yX4_requireWithin, Cond.initialized RX4, Cond.code yX4_requireWithin cX4_requireWithin 3 none, Cond.classLink RX4 152 "java/lang/IllegalArgumentException", Cond.initialized "java/lang/IllegalArgumentException", Cond.methodLink RX4 35 yX4_requireRoom, Cond.static yX4_requireRoom, Cond.code yX4_requireRoom cX4_requireRoom 2 none, Cond.classLink RX4 54 "java/lang/IllegalStateException", Cond.initialized "java/lang/IllegalStateException", Cond.methodLink RX4 39 yX1_init, Cond.instanceMethod yX1_init, Cond.code yX1_init cX1_init 5 none, Cond.methodLink RX1 3 objectInit, Cond.instanceMethod objectInit, Cond.code objectInit ⟨#[0xb1]⟩ 1 none, Cond.fieldLink RX1 9 "BuildingPoints$Point" "lowest" "I", Cond.fieldLink RX1 15 "BuildingPoints$Point" "highest" "I"]
def wsX4_addMeasure_r2 : List Cond := [Cond.fieldLink RX1 18 "BuildingPoints$Point" "original" "I", Cond.fieldLink RX1 21 "BuildingPoints$Point" "leastTime" "I", Cond.arrayClass .int, Cond.fieldLink RX1 24 "BuildingPoints$Point" "commands" "[I", Cond.constant RX1 28 (-100000), Cond.fieldLink RX1 35 "BuildingPoints$Point" "present" "I", Cond.fieldLink RX1 38 "BuildingPoints$Point" "heldUntil" "I", Cond.fieldLink RX1 41 "BuildingPoints$Point" "changeCount" "I", Cond.methodLink RX1 29 yJ7_fill_53178, Cond.static yJ7_fill_53178, Cond.initialized RJ7, Cond.code yJ7_fill_53178 cJ7_fill_53178 4 none]
def wsX4_addMeasure : List Cond := .code yX4_addMeasure cX4_addMeasure 2 (some .int) :: ((wsX4_addMeasure_r1 ++ wsX4_addMeasure_r2) ++ wsX40 ++ wsX10 ++ (vx_atS RX4 156 "java/lang/IllegalArgumentException" ["java/lang/RuntimeException", "java/lang/Exception"]).filter goodWord ++ (vx_atS RX4 58 "java/lang/IllegalStateException" ["java/lang/RuntimeException", "java/lang/Exception"]).filter goodWord)
def wsX4_addSwitch_r1 : List Cond := [Cond.fieldLink RX4 31 "BuildingPoints" "pointCount" "I", Cond.fieldLink RX4 11 "BuildingPoints" "points" "[LBuildingPoints$Point;", Cond.classLink RX4 9 RX1, Cond.instantiable RX1 8, Cond.initialized RX1, Cond.methodLink RX4 27 yX4_requireWithin, Cond.static yX4_requireWithin, Cond.initialized RX4, Cond.code yX4_requireWithin cX4_requireWithin 3 none, Cond.classLink RX4 152 "java/lang/IllegalArgumentException", Cond.initialized "java/lang/IllegalArgumentException", Cond.methodLink RX4 35 yX4_requireRoom, Cond.static yX4_requireRoom, Cond.code yX4_requireRoom cX4_requireRoom 2 none, Cond.classLink RX4 54 "java/lang/IllegalStateException", Cond.initialized "java/lang/IllegalStateException", Cond.methodLink RX4 39 yX1_init, Cond.instanceMethod yX1_init, Cond.code yX1_init cX1_init 5 none, Cond.methodLink RX1 3 objectInit, Cond.instanceMethod objectInit, Cond.code objectInit ⟨#[0xb1]⟩ 1 none, Cond.fieldLink RX1 9 "BuildingPoints$Point" "lowest" "I", Cond.fieldLink RX1 15 "BuildingPoints$Point" "highest" "I"]
def wsX4_addSwitch_r2 : List Cond := [Cond.fieldLink RX1 18 "BuildingPoints$Point" "original" "I", Cond.fieldLink RX1 21 "BuildingPoints$Point" "leastTime" "I", Cond.arrayClass .int, Cond.fieldLink RX1 24 "BuildingPoints$Point" "commands" "[I", Cond.constant RX1 28 (-100000), Cond.fieldLink RX1 35 "BuildingPoints$Point" "present" "I", Cond.fieldLink RX1 38 "BuildingPoints$Point" "heldUntil" "I", Cond.fieldLink RX1 41 "BuildingPoints$Point" "changeCount" "I", Cond.methodLink RX1 29 yJ7_fill_53178, Cond.static yJ7_fill_53178, Cond.initialized RJ7, Cond.code yJ7_fill_53178 cJ7_fill_53178 4 none]
def wsX4_addSwitch : List Cond := .code yX4_addSwitch cX4_addSwitch 3 (some .int) :: ((wsX4_addSwitch_r1 ++ wsX4_addSwitch_r2) ++ wsX40 ++ wsX10 ++ (vx_atS RX4 156 "java/lang/IllegalArgumentException" ["java/lang/RuntimeException", "java/lang/Exception"]).filter goodWord ++ (vx_atS RX4 58 "java/lang/IllegalStateException" ["java/lang/RuntimeException", "java/lang/Exception"]).filter goodWord)
def wsX4_pointAt : List Cond := .code yX4_pointAt cX4_pointAt 2 (some (.object "BuildingPoints$Point")) :: ([.classLink RX4 173 "java/lang/IndexOutOfBoundsException", .initialized "java/lang/IndexOutOfBoundsException", .fieldLink RX4 11 "BuildingPoints" "points" "[LBuildingPoints$Point;"] ++ wsX40 ++ (vx_atS RX4 177 "java/lang/IndexOutOfBoundsException" ["java/lang/RuntimeException", "java/lang/Exception"]).filter goodWord)
def wsX4_requireCommand : List Cond := .code yX4_requireCommand cX4_requireCommand 2 none :: ([.classLink RX4 152 "java/lang/IllegalArgumentException", .initialized "java/lang/IllegalArgumentException", .constant RX4 157 (-100000), .methodLink RX4 158 yX1_canHave, .instanceMethod yX1_canHave, .selects RX1 yX1_canHave yX1_canHave, .initialized RX1, .code yX1_canHave cX1_canHave 2 (some .boolean), .fieldLink RX1 9 "BuildingPoints$Point" "lowest" "I", .fieldLink RX1 15 "BuildingPoints$Point" "highest" "I"] ++ wsX10 ++ (vx_atS RX4 156 "java/lang/IllegalArgumentException" ["java/lang/RuntimeException", "java/lang/Exception"]).filter goodWord)
def wsX4_reportChange : List Cond := .code yX4_reportChange cX4_reportChange 6 none :: ([.fieldLink RX4 17 "BuildingPoints" "subscriptions" "[LBuildingPoints$Subscription;", .fieldLink RX4 95 "BuildingPoints$Subscription" "isOpen" "Z", .fieldLink RX4 192 "BuildingPoints$Subscription" "point" "LBuildingPoints$Point;", .fieldLink RX4 65 "BuildingPoints$Point" "present" "I", .fieldLink RX4 146 "BuildingPoints" "allReports" "I", .methodLink RX4 193 yX3_isFarFrom, .instanceMethod yX3_isFarFrom, .selects RX3 yX3_isFarFrom yX3_isFarFrom, .initialized RX3, .code yX3_isFarFrom cX3_isFarFrom 2 (some .boolean), .fieldLink RX3 25 "BuildingPoints$Subscription" "kept" "I", .methodLink RX3 35 Lib.Math.abs.name, .static Lib.Math.abs.name, .initialized "java/lang/Math", .code Lib.Math.abs.name Lib.Math.abs.code 1 (some .int), .fieldLink RX3 13 "BuildingPoints$Subscription" "increment" "I", .methodLink RX4 196 yX3_report, .instanceMethod yX3_report, .selects RX3 yX3_report yX3_report, .code yX3_report cX3_report 2 none, .fieldLink RX3 28 "BuildingPoints$Subscription" "reportCount" "I"] ++ wsX40 ++ wsX30 ++ wsX10)
def wsX4_put_r1 : List Cond := [Cond.fieldLink RX4 68 "BuildingPoints$Point" "commands" "[I", Cond.fieldLink RX4 65 "BuildingPoints$Point" "present" "I", Cond.fieldLink RX4 79 "BuildingPoints" "now" "I", Cond.methodLink RX4 182 yX1_dueValue, Cond.instanceMethod yX1_dueValue, Cond.selects RX1 yX1_dueValue yX1_dueValue, Cond.initialized RX1, Cond.code yX1_dueValue cX1_dueValue 2 (some .int), Cond.fieldLink RX1 24 "BuildingPoints$Point" "commands" "[I", Cond.fieldLink RX1 18 "BuildingPoints$Point" "original" "I", Cond.methodLink RX1 44 yX1_lowestCommanded, Cond.instanceMethod yX1_lowestCommanded, Cond.selects RX1 yX1_lowestCommanded yX1_lowestCommanded, Cond.code yX1_lowestCommanded cX1_lowestCommanded 2 (some .int), Cond.constant RX1 28 (-100000), Cond.methodLink RX4 185 yX1_change, Cond.instanceMethod yX1_change, Cond.selects RX1 yX1_change yX1_change, Cond.code yX1_change cX1_change 3 none, Cond.fieldLink RX1 35 "BuildingPoints$Point" "present" "I", Cond.fieldLink RX1 41 "BuildingPoints$Point" "changeCount" "I", Cond.fieldLink RX1 21 "BuildingPoints$Point" "leastTime" "I", Cond.fieldLink RX1 38 "BuildingPoints$Point" "heldUntil" "I", Cond.methodLink RX4 188 yX4_reportChange]
def wsX4_put_r2 : List Cond := [Cond.instanceMethod yX4_reportChange, Cond.selects RX4 yX4_reportChange yX4_reportChange, Cond.initialized RX4, Cond.code yX4_reportChange cX4_reportChange 6 none, Cond.fieldLink RX4 17 "BuildingPoints" "subscriptions" "[LBuildingPoints$Subscription;", Cond.fieldLink RX4 95 "BuildingPoints$Subscription" "isOpen" "Z", Cond.fieldLink RX4 192 "BuildingPoints$Subscription" "point" "LBuildingPoints$Point;", Cond.fieldLink RX4 146 "BuildingPoints" "allReports" "I", Cond.methodLink RX4 193 yX3_isFarFrom, Cond.instanceMethod yX3_isFarFrom, Cond.selects RX3 yX3_isFarFrom yX3_isFarFrom, Cond.initialized RX3, Cond.code yX3_isFarFrom cX3_isFarFrom 2 (some .boolean), Cond.fieldLink RX3 25 "BuildingPoints$Subscription" "kept" "I", Cond.methodLink RX3 35 Lib.Math.abs.name, Cond.static Lib.Math.abs.name, Cond.initialized "java/lang/Math", Cond.code Lib.Math.abs.name Lib.Math.abs.code 1 (some .int), Cond.fieldLink RX3 13 "BuildingPoints$Subscription" "increment" "I", Cond.methodLink RX4 196 yX3_report, Cond.instanceMethod yX3_report, Cond.selects RX3 yX3_report yX3_report, Cond.code yX3_report cX3_report 2 none, Cond.fieldLink RX3 28 "BuildingPoints$Subscription" "reportCount" "I"]
def wsX4_put : List Cond := .code yX4_put cX4_put 5 none :: ((wsX4_put_r1 ++ wsX4_put_r2) ++ wsX10 ++ wsX40 ++ wsX30)
def wsX4_write_r1 : List Cond := [Cond.classLink RX4 54 "java/lang/IllegalStateException", Cond.initialized "java/lang/IllegalStateException", Cond.fieldLink RX4 65 "BuildingPoints$Point" "present" "I", Cond.methodLink RX4 42 yX4_pointAt, Cond.instanceMethod yX4_pointAt, Cond.selects RX4 yX4_pointAt yX4_pointAt, Cond.initialized RX4, Cond.code yX4_pointAt cX4_pointAt 2 (some (.object "BuildingPoints$Point")), Cond.classLink RX4 173 "java/lang/IndexOutOfBoundsException", Cond.initialized "java/lang/IndexOutOfBoundsException", Cond.fieldLink RX4 11 "BuildingPoints" "points" "[LBuildingPoints$Point;", Cond.methodLink RX4 27 yX4_requireWithin, Cond.static yX4_requireWithin, Cond.code yX4_requireWithin cX4_requireWithin 3 none, Cond.classLink RX4 152 "java/lang/IllegalArgumentException", Cond.initialized "java/lang/IllegalArgumentException", Cond.methodLink RX4 46 yX4_requireCommand, Cond.static yX4_requireCommand, Cond.code yX4_requireCommand cX4_requireCommand 2 none, Cond.constant RX4 157 (-100000), Cond.methodLink RX4 158 yX1_canHave, Cond.instanceMethod yX1_canHave, Cond.selects RX1 yX1_canHave yX1_canHave, Cond.initialized RX1]
def wsX4_write_r2 : List Cond := [Cond.code yX1_canHave cX1_canHave 2 (some .boolean), Cond.fieldLink RX1 9 "BuildingPoints$Point" "lowest" "I", Cond.fieldLink RX1 15 "BuildingPoints$Point" "highest" "I", Cond.methodLink RX4 50 yX1_isHeld, Cond.instanceMethod yX1_isHeld, Cond.selects RX1 yX1_isHeld yX1_isHeld, Cond.code yX1_isHeld cX1_isHeld 1 (some .boolean), Cond.fieldLink RX1 38 "BuildingPoints$Point" "heldUntil" "I", Cond.methodLink RX4 61 yX4_put, Cond.instanceMethod yX4_put, Cond.selects RX4 yX4_put yX4_put, Cond.code yX4_put cX4_put 5 none, Cond.fieldLink RX4 68 "BuildingPoints$Point" "commands" "[I", Cond.fieldLink RX4 79 "BuildingPoints" "now" "I", Cond.methodLink RX4 182 yX1_dueValue, Cond.instanceMethod yX1_dueValue, Cond.selects RX1 yX1_dueValue yX1_dueValue, Cond.code yX1_dueValue cX1_dueValue 2 (some .int), Cond.fieldLink RX1 24 "BuildingPoints$Point" "commands" "[I", Cond.fieldLink RX1 18 "BuildingPoints$Point" "original" "I", Cond.methodLink RX1 44 yX1_lowestCommanded, Cond.instanceMethod yX1_lowestCommanded, Cond.selects RX1 yX1_lowestCommanded yX1_lowestCommanded, Cond.code yX1_lowestCommanded cX1_lowestCommanded 2 (some .int)]
def wsX4_write_r3 : List Cond := [Cond.constant RX1 28 (-100000), Cond.methodLink RX4 185 yX1_change, Cond.instanceMethod yX1_change, Cond.selects RX1 yX1_change yX1_change, Cond.code yX1_change cX1_change 3 none, Cond.fieldLink RX1 35 "BuildingPoints$Point" "present" "I", Cond.fieldLink RX1 41 "BuildingPoints$Point" "changeCount" "I", Cond.fieldLink RX1 21 "BuildingPoints$Point" "leastTime" "I", Cond.methodLink RX4 188 yX4_reportChange, Cond.instanceMethod yX4_reportChange, Cond.selects RX4 yX4_reportChange yX4_reportChange, Cond.code yX4_reportChange cX4_reportChange 6 none, Cond.fieldLink RX4 17 "BuildingPoints" "subscriptions" "[LBuildingPoints$Subscription;", Cond.fieldLink RX4 95 "BuildingPoints$Subscription" "isOpen" "Z", Cond.fieldLink RX4 192 "BuildingPoints$Subscription" "point" "LBuildingPoints$Point;", Cond.fieldLink RX4 146 "BuildingPoints" "allReports" "I", Cond.methodLink RX4 193 yX3_isFarFrom, Cond.instanceMethod yX3_isFarFrom, Cond.selects RX3 yX3_isFarFrom yX3_isFarFrom, Cond.initialized RX3, Cond.code yX3_isFarFrom cX3_isFarFrom 2 (some .boolean), Cond.fieldLink RX3 25 "BuildingPoints$Subscription" "kept" "I", Cond.methodLink RX3 35 Lib.Math.abs.name, Cond.static Lib.Math.abs.name]
def wsX4_write_r4 : List Cond := [Cond.initialized "java/lang/Math", Cond.code Lib.Math.abs.name Lib.Math.abs.code 1 (some .int), Cond.fieldLink RX3 13 "BuildingPoints$Subscription" "increment" "I", Cond.methodLink RX4 196 yX3_report, Cond.instanceMethod yX3_report, Cond.selects RX3 yX3_report yX3_report, Cond.code yX3_report cX3_report 2 none, Cond.fieldLink RX3 28 "BuildingPoints$Subscription" "reportCount" "I"]
def wsX4_write : List Cond := .code yX4_write cX4_write 5 (some .int) :: ((wsX4_write_r1 ++ (wsX4_write_r2 ++ (wsX4_write_r3 ++ wsX4_write_r4))) ++ wsX10 ++ wsX40 ++ wsX30 ++ (vx_atS RX4 58 "java/lang/IllegalStateException" ["java/lang/RuntimeException", "java/lang/Exception"]).filter goodWord ++ (vx_atS RX4 177 "java/lang/IndexOutOfBoundsException" ["java/lang/RuntimeException", "java/lang/Exception"]).filter goodWord ++ (vx_atS RX4 156 "java/lang/IllegalArgumentException" ["java/lang/RuntimeException", "java/lang/Exception"]).filter goodWord)
def wsX4_value : List Cond := .code yX4_value cX4_value 2 (some .int) :: ([.fieldLink RX4 65 "BuildingPoints$Point" "present" "I", .methodLink RX4 42 yX4_pointAt, .instanceMethod yX4_pointAt, .selects RX4 yX4_pointAt yX4_pointAt, .initialized RX4, .code yX4_pointAt cX4_pointAt 2 (some (.object "BuildingPoints$Point")), .classLink RX4 173 "java/lang/IndexOutOfBoundsException", .initialized "java/lang/IndexOutOfBoundsException", .fieldLink RX4 11 "BuildingPoints" "points" "[LBuildingPoints$Point;"] ++ wsX10 ++ wsX40 ++ (vx_atS RX4 177 "java/lang/IndexOutOfBoundsException" ["java/lang/RuntimeException", "java/lang/Exception"]).filter goodWord)
def wsX4_command : List Cond := .code yX4_command cX4_command 4 (some .int) :: ([.fieldLink RX4 68 "BuildingPoints$Point" "commands" "[I", .methodLink RX4 42 yX4_pointAt, .instanceMethod yX4_pointAt, .selects RX4 yX4_pointAt yX4_pointAt, .initialized RX4, .code yX4_pointAt cX4_pointAt 2 (some (.object "BuildingPoints$Point")), .classLink RX4 173 "java/lang/IndexOutOfBoundsException", .initialized "java/lang/IndexOutOfBoundsException", .fieldLink RX4 11 "BuildingPoints" "points" "[LBuildingPoints$Point;", .methodLink RX4 27 yX4_requireWithin, .static yX4_requireWithin, .code yX4_requireWithin cX4_requireWithin 3 none, .classLink RX4 152 "java/lang/IllegalArgumentException", .initialized "java/lang/IllegalArgumentException"] ++ wsX10 ++ wsX40 ++ (vx_atS RX4 177 "java/lang/IndexOutOfBoundsException" ["java/lang/RuntimeException", "java/lang/Exception"]).filter goodWord ++ (vx_atS RX4 156 "java/lang/IllegalArgumentException" ["java/lang/RuntimeException", "java/lang/Exception"]).filter goodWord)
def wsX4_standing : List Cond := .code yX4_standing cX4_standing 2 (some .int) :: ([.methodLink RX4 42 yX4_pointAt, .instanceMethod yX4_pointAt, .selects RX4 yX4_pointAt yX4_pointAt, .initialized RX4, .code yX4_pointAt cX4_pointAt 2 (some (.object "BuildingPoints$Point")), .classLink RX4 173 "java/lang/IndexOutOfBoundsException", .initialized "java/lang/IndexOutOfBoundsException", .fieldLink RX4 11 "BuildingPoints" "points" "[LBuildingPoints$Point;", .methodLink RX4 72 yX1_lowestCommanded, .instanceMethod yX1_lowestCommanded, .selects RX1 yX1_lowestCommanded yX1_lowestCommanded, .initialized RX1, .code yX1_lowestCommanded cX1_lowestCommanded 2 (some .int), .fieldLink RX1 24 "BuildingPoints$Point" "commands" "[I", .constant RX1 28 (-100000)] ++ wsX40 ++ wsX10 ++ (vx_atS RX4 177 "java/lang/IndexOutOfBoundsException" ["java/lang/RuntimeException", "java/lang/Exception"]).filter goodWord)
def wsX4_held : List Cond := .code yX4_held cX4_held 3 (some .int) :: ([.fieldLink RX4 76 "BuildingPoints$Point" "heldUntil" "I", .fieldLink RX4 79 "BuildingPoints" "now" "I", .methodLink RX4 42 yX4_pointAt, .instanceMethod yX4_pointAt, .selects RX4 yX4_pointAt yX4_pointAt, .initialized RX4, .code yX4_pointAt cX4_pointAt 2 (some (.object "BuildingPoints$Point")), .classLink RX4 173 "java/lang/IndexOutOfBoundsException", .initialized "java/lang/IndexOutOfBoundsException", .fieldLink RX4 11 "BuildingPoints" "points" "[LBuildingPoints$Point;", .methodLink RX4 50 yX1_isHeld, .instanceMethod yX1_isHeld, .selects RX1 yX1_isHeld yX1_isHeld, .initialized RX1, .code yX1_isHeld cX1_isHeld 1 (some .boolean), .fieldLink RX1 38 "BuildingPoints$Point" "heldUntil" "I"] ++ wsX10 ++ wsX40 ++ (vx_atS RX4 177 "java/lang/IndexOutOfBoundsException" ["java/lang/RuntimeException", "java/lang/Exception"]).filter goodWord)
def wsX4_changes : List Cond := .code yX4_changes cX4_changes 2 (some .int) :: ([.fieldLink RX4 82 "BuildingPoints$Point" "changeCount" "I", .methodLink RX4 42 yX4_pointAt, .instanceMethod yX4_pointAt, .selects RX4 yX4_pointAt yX4_pointAt, .initialized RX4, .code yX4_pointAt cX4_pointAt 2 (some (.object "BuildingPoints$Point")), .classLink RX4 173 "java/lang/IndexOutOfBoundsException", .initialized "java/lang/IndexOutOfBoundsException", .fieldLink RX4 11 "BuildingPoints" "points" "[LBuildingPoints$Point;"] ++ wsX10 ++ wsX40 ++ (vx_atS RX4 177 "java/lang/IndexOutOfBoundsException" ["java/lang/RuntimeException", "java/lang/Exception"]).filter goodWord)
def wsX4_subscribe_r1 : List Cond := [Cond.constant RX4 85 (100000), Cond.fieldLink RX4 86 "BuildingPoints" "subscriptionCount" "I", Cond.fieldLink RX4 17 "BuildingPoints" "subscriptions" "[LBuildingPoints$Subscription;", Cond.classLink RX4 15 RX3, Cond.instantiable RX3 6, Cond.initialized RX3, Cond.fieldLink RX4 79 "BuildingPoints" "now" "I", Cond.methodLink RX4 42 yX4_pointAt, Cond.instanceMethod yX4_pointAt, Cond.selects RX4 yX4_pointAt yX4_pointAt, Cond.initialized RX4, Cond.code yX4_pointAt cX4_pointAt 2 (some (.object "BuildingPoints$Point")), Cond.classLink RX4 173 "java/lang/IndexOutOfBoundsException", Cond.initialized "java/lang/IndexOutOfBoundsException", Cond.fieldLink RX4 11 "BuildingPoints" "points" "[LBuildingPoints$Point;", Cond.methodLink RX4 27 yX4_requireWithin, Cond.static yX4_requireWithin, Cond.code yX4_requireWithin cX4_requireWithin 3 none, Cond.classLink RX4 152 "java/lang/IllegalArgumentException", Cond.initialized "java/lang/IllegalArgumentException", Cond.methodLink RX4 35 yX4_requireRoom, Cond.static yX4_requireRoom, Cond.code yX4_requireRoom cX4_requireRoom 2 none, Cond.classLink RX4 54 "java/lang/IllegalStateException"]
def wsX4_subscribe_r2 : List Cond := [Cond.initialized "java/lang/IllegalStateException", Cond.methodLink RX4 89 yX3_init, Cond.instanceMethod yX3_init, Cond.code yX3_init cX3_init 4 none, Cond.methodLink RX3 1 objectInit, Cond.instanceMethod objectInit, Cond.code objectInit ⟨#[0xb1]⟩ 1 none, Cond.fieldLink RX3 7 "BuildingPoints$Subscription" "point" "LBuildingPoints$Point;", Cond.fieldLink RX3 13 "BuildingPoints$Subscription" "increment" "I", Cond.fieldLink RX3 17 "BuildingPoints$Subscription" "endTime" "I", Cond.fieldLink RX3 20 "BuildingPoints$Point" "present" "I", Cond.fieldLink RX3 25 "BuildingPoints$Subscription" "kept" "I", Cond.fieldLink RX3 28 "BuildingPoints$Subscription" "reportCount" "I", Cond.fieldLink RX3 31 "BuildingPoints$Subscription" "isOpen" "Z"]
def wsX4_subscribe : List Cond := .code yX4_subscribe cX4_subscribe 5 (some .int) :: ((wsX4_subscribe_r1 ++ wsX4_subscribe_r2) ++ wsX40 ++ wsX30 ++ wsX10 ++ (vx_atS RX4 177 "java/lang/IndexOutOfBoundsException" ["java/lang/RuntimeException", "java/lang/Exception"]).filter goodWord ++ (vx_atS RX4 156 "java/lang/IllegalArgumentException" ["java/lang/RuntimeException", "java/lang/Exception"]).filter goodWord ++ (vx_atS RX4 58 "java/lang/IllegalStateException" ["java/lang/RuntimeException", "java/lang/Exception"]).filter goodWord)
def wsX4_subscriptionAt : List Cond := .code yX4_subscriptionAt cX4_subscriptionAt 2 (some (.object "BuildingPoints$Subscription")) :: ([.classLink RX4 173 "java/lang/IndexOutOfBoundsException", .initialized "java/lang/IndexOutOfBoundsException", .fieldLink RX4 17 "BuildingPoints" "subscriptions" "[LBuildingPoints$Subscription;"] ++ wsX40 ++ (vx_atS RX4 177 "java/lang/IndexOutOfBoundsException" ["java/lang/RuntimeException", "java/lang/Exception"]).filter goodWord)
def wsX4_end : List Cond := .code yX4_end cX4_end 3 none :: ([.classLink RX4 54 "java/lang/IllegalStateException", .initialized "java/lang/IllegalStateException", .fieldLink RX4 95 "BuildingPoints$Subscription" "isOpen" "Z", .methodLink RX4 91 yX4_subscriptionAt, .instanceMethod yX4_subscriptionAt, .selects RX4 yX4_subscriptionAt yX4_subscriptionAt, .initialized RX4, .code yX4_subscriptionAt cX4_subscriptionAt 2 (some (.object "BuildingPoints$Subscription")), .classLink RX4 173 "java/lang/IndexOutOfBoundsException", .initialized "java/lang/IndexOutOfBoundsException", .fieldLink RX4 17 "BuildingPoints" "subscriptions" "[LBuildingPoints$Subscription;"] ++ wsX30 ++ wsX40 ++ (vx_atS RX4 58 "java/lang/IllegalStateException" ["java/lang/RuntimeException", "java/lang/Exception"]).filter goodWord ++ (vx_atS RX4 177 "java/lang/IndexOutOfBoundsException" ["java/lang/RuntimeException", "java/lang/Exception"]).filter goodWord)
def wsX4_goesOn : List Cond := .code yX4_goesOn cX4_goesOn 2 (some .boolean) :: ([.fieldLink RX4 95 "BuildingPoints$Subscription" "isOpen" "Z", .methodLink RX4 91 yX4_subscriptionAt, .instanceMethod yX4_subscriptionAt, .selects RX4 yX4_subscriptionAt yX4_subscriptionAt, .initialized RX4, .code yX4_subscriptionAt cX4_subscriptionAt 2 (some (.object "BuildingPoints$Subscription")), .classLink RX4 173 "java/lang/IndexOutOfBoundsException", .initialized "java/lang/IndexOutOfBoundsException", .fieldLink RX4 17 "BuildingPoints" "subscriptions" "[LBuildingPoints$Subscription;"] ++ wsX30 ++ wsX40 ++ (vx_atS RX4 177 "java/lang/IndexOutOfBoundsException" ["java/lang/RuntimeException", "java/lang/Exception"]).filter goodWord)
def wsX4_reports : List Cond := .code yX4_reports cX4_reports 2 (some .int) :: ([.fieldLink RX4 101 "BuildingPoints$Subscription" "reportCount" "I", .methodLink RX4 91 yX4_subscriptionAt, .instanceMethod yX4_subscriptionAt, .selects RX4 yX4_subscriptionAt yX4_subscriptionAt, .initialized RX4, .code yX4_subscriptionAt cX4_subscriptionAt 2 (some (.object "BuildingPoints$Subscription")), .classLink RX4 173 "java/lang/IndexOutOfBoundsException", .initialized "java/lang/IndexOutOfBoundsException", .fieldLink RX4 17 "BuildingPoints" "subscriptions" "[LBuildingPoints$Subscription;"] ++ wsX30 ++ wsX40 ++ (vx_atS RX4 177 "java/lang/IndexOutOfBoundsException" ["java/lang/RuntimeException", "java/lang/Exception"]).filter goodWord)
def wsX4_reported : List Cond := .code yX4_reported cX4_reported 2 (some .int) :: ([.fieldLink RX4 104 "BuildingPoints$Subscription" "kept" "I", .methodLink RX4 91 yX4_subscriptionAt, .instanceMethod yX4_subscriptionAt, .selects RX4 yX4_subscriptionAt yX4_subscriptionAt, .initialized RX4, .code yX4_subscriptionAt cX4_subscriptionAt 2 (some (.object "BuildingPoints$Subscription")), .classLink RX4 173 "java/lang/IndexOutOfBoundsException", .initialized "java/lang/IndexOutOfBoundsException", .fieldLink RX4 17 "BuildingPoints" "subscriptions" "[LBuildingPoints$Subscription;"] ++ wsX30 ++ wsX40 ++ (vx_atS RX4 177 "java/lang/IndexOutOfBoundsException" ["java/lang/RuntimeException", "java/lang/Exception"]).filter goodWord)
def wsX4_addSchedule_r1 : List Cond := [Cond.fieldLink RX4 107 "BuildingPoints" "scheduleCount" "I", Cond.fieldLink RX4 23 "BuildingPoints" "schedules" "[LBuildingPoints$Schedule;", Cond.classLink RX4 21 RX2, Cond.instantiable RX2 5, Cond.initialized RX2, Cond.methodLink RX4 42 yX4_pointAt, Cond.instanceMethod yX4_pointAt, Cond.selects RX4 yX4_pointAt yX4_pointAt, Cond.initialized RX4, Cond.code yX4_pointAt cX4_pointAt 2 (some (.object "BuildingPoints$Point")), Cond.classLink RX4 173 "java/lang/IndexOutOfBoundsException", Cond.initialized "java/lang/IndexOutOfBoundsException", Cond.fieldLink RX4 11 "BuildingPoints" "points" "[LBuildingPoints$Point;", Cond.methodLink RX4 27 yX4_requireWithin, Cond.static yX4_requireWithin, Cond.code yX4_requireWithin cX4_requireWithin 3 none, Cond.classLink RX4 152 "java/lang/IllegalArgumentException", Cond.initialized "java/lang/IllegalArgumentException", Cond.methodLink RX4 35 yX4_requireRoom, Cond.static yX4_requireRoom, Cond.code yX4_requireRoom cX4_requireRoom 2 none, Cond.classLink RX4 54 "java/lang/IllegalStateException", Cond.initialized "java/lang/IllegalStateException", Cond.methodLink RX4 110 yX2_init]
def wsX4_addSchedule_r2 : List Cond := [Cond.instanceMethod yX2_init, Cond.code yX2_init cX2_init 3 none, Cond.methodLink RX2 3 objectInit, Cond.instanceMethod objectInit, Cond.code objectInit ⟨#[0xb1]⟩ 1 none, Cond.fieldLink RX2 9 "BuildingPoints$Schedule" "point" "LBuildingPoints$Point;", Cond.fieldLink RX2 15 "BuildingPoints$Schedule" "priority" "I", Cond.classLink RX2 19 RX0, Cond.instantiable RX0 4, Cond.initialized RX0, Cond.fieldLink RX2 22 "BuildingPoints$Schedule" "weekdays" "LBuildingPoints$Entries;", Cond.fieldLink RX2 26 "BuildingPoints$Schedule" "singleDays" "LBuildingPoints$Entries;", Cond.constant RX2 29 (-100000), Cond.fieldLink RX2 30 "BuildingPoints$Schedule" "toldLast" "I", Cond.methodLink RX2 21 yX0_init, Cond.instanceMethod yX0_init, Cond.code yX0_init cX0_init 1 none, Cond.methodLink RX0 3 objectInit, Cond.arrayClass .int, Cond.fieldLink RX0 9 "BuildingPoints$Entries" "days" "[I", Cond.fieldLink RX0 15 "BuildingPoints$Entries" "minutes" "[I", Cond.fieldLink RX0 18 "BuildingPoints$Entries" "told" "[I", Cond.fieldLink RX0 21 "BuildingPoints$Entries" "count" "I"]
def wsX4_addSchedule : List Cond := .code yX4_addSchedule cX4_addSchedule 4 (some .int) :: ((wsX4_addSchedule_r1 ++ wsX4_addSchedule_r2) ++ wsX40 ++ wsX20 ++ wsX00 ++ (vx_atS RX4 177 "java/lang/IndexOutOfBoundsException" ["java/lang/RuntimeException", "java/lang/Exception"]).filter goodWord ++ (vx_atS RX4 156 "java/lang/IllegalArgumentException" ["java/lang/RuntimeException", "java/lang/Exception"]).filter goodWord ++ (vx_atS RX4 58 "java/lang/IllegalStateException" ["java/lang/RuntimeException", "java/lang/Exception"]).filter goodWord)
def wsX4_scheduleAt : List Cond := .code yX4_scheduleAt cX4_scheduleAt 2 (some (.object "BuildingPoints$Schedule")) :: ([.classLink RX4 173 "java/lang/IndexOutOfBoundsException", .initialized "java/lang/IndexOutOfBoundsException", .fieldLink RX4 23 "BuildingPoints" "schedules" "[LBuildingPoints$Schedule;"] ++ wsX40 ++ (vx_atS RX4 177 "java/lang/IndexOutOfBoundsException" ["java/lang/RuntimeException", "java/lang/Exception"]).filter goodWord)
def wsX4_requireEntry_r1 : List Cond := [Cond.fieldLink RX4 166 "BuildingPoints$Schedule" "point" "LBuildingPoints$Point;", Cond.methodLink RX4 27 yX4_requireWithin, Cond.static yX4_requireWithin, Cond.initialized RX4, Cond.code yX4_requireWithin cX4_requireWithin 3 none, Cond.classLink RX4 152 "java/lang/IllegalArgumentException", Cond.initialized "java/lang/IllegalArgumentException", Cond.methodLink RX4 46 yX4_requireCommand, Cond.static yX4_requireCommand, Cond.code yX4_requireCommand cX4_requireCommand 2 none, Cond.constant RX4 157 (-100000), Cond.methodLink RX4 158 yX1_canHave, Cond.instanceMethod yX1_canHave, Cond.selects RX1 yX1_canHave yX1_canHave, Cond.initialized RX1, Cond.code yX1_canHave cX1_canHave 2 (some .boolean), Cond.fieldLink RX1 9 "BuildingPoints$Point" "lowest" "I", Cond.fieldLink RX1 15 "BuildingPoints$Point" "highest" "I", Cond.methodLink RX4 170 yX2_entryCount, Cond.instanceMethod yX2_entryCount, Cond.selects RX2 yX2_entryCount yX2_entryCount, Cond.initialized RX2, Cond.code yX2_entryCount cX2_entryCount 1 (some .int), Cond.fieldLink RX2 22 "BuildingPoints$Schedule" "weekdays" "LBuildingPoints$Entries;"]
def wsX4_requireEntry_r2 : List Cond := [Cond.fieldLink RX2 33 "BuildingPoints$Entries" "count" "I", Cond.fieldLink RX2 26 "BuildingPoints$Schedule" "singleDays" "LBuildingPoints$Entries;", Cond.methodLink RX4 35 yX4_requireRoom, Cond.static yX4_requireRoom, Cond.code yX4_requireRoom cX4_requireRoom 2 none, Cond.classLink RX4 54 "java/lang/IllegalStateException", Cond.initialized "java/lang/IllegalStateException"]
def wsX4_requireEntry : List Cond := .code yX4_requireEntry cX4_requireEntry 3 none :: ((wsX4_requireEntry_r1 ++ wsX4_requireEntry_r2) ++ wsX20 ++ wsX10 ++ wsX00 ++ (vx_atS RX4 156 "java/lang/IllegalArgumentException" ["java/lang/RuntimeException", "java/lang/Exception"]).filter goodWord ++ (vx_atS RX4 58 "java/lang/IllegalStateException" ["java/lang/RuntimeException", "java/lang/Exception"]).filter goodWord)
def wsX4_follow_r1 : List Cond := [Cond.fieldLink RX4 79 "BuildingPoints" "now" "I", Cond.fieldLink RX4 133 "BuildingPoints$Schedule" "toldLast" "I", Cond.fieldLink RX4 166 "BuildingPoints$Schedule" "point" "LBuildingPoints$Point;", Cond.fieldLink RX4 200 "BuildingPoints$Schedule" "priority" "I", Cond.methodLink RX4 140 yX2_toldAt, Cond.instanceMethod yX2_toldAt, Cond.selects RX2 yX2_toldAt yX2_toldAt, Cond.initialized RX2, Cond.code yX2_toldAt cX2_toldAt 4 (some .int), Cond.fieldLink RX2 26 "BuildingPoints$Schedule" "singleDays" "LBuildingPoints$Entries;", Cond.fieldLink RX2 22 "BuildingPoints$Schedule" "weekdays" "LBuildingPoints$Entries;", Cond.methodLink RX2 36 yX0_hasDay, Cond.instanceMethod yX0_hasDay, Cond.selects RX0 yX0_hasDay yX0_hasDay, Cond.initialized RX0, Cond.code yX0_hasDay cX0_hasDay 3 (some .boolean), Cond.fieldLink RX0 21 "BuildingPoints$Entries" "count" "I", Cond.fieldLink RX0 9 "BuildingPoints$Entries" "days" "[I", Cond.methodLink RX2 40 yX0_latest, Cond.instanceMethod yX0_latest, Cond.selects RX0 yX0_latest yX0_latest, Cond.code yX0_latest cX0_latest 6 (some .int), Cond.constant RX0 25 (-100000), Cond.fieldLink RX0 15 "BuildingPoints$Entries" "minutes" "[I"]
def wsX4_follow_r2 : List Cond := [Cond.fieldLink RX0 18 "BuildingPoints$Entries" "told" "[I", Cond.methodLink RX4 61 yX4_put, Cond.instanceMethod yX4_put, Cond.selects RX4 yX4_put yX4_put, Cond.initialized RX4, Cond.code yX4_put cX4_put 5 none, Cond.fieldLink RX4 68 "BuildingPoints$Point" "commands" "[I", Cond.fieldLink RX4 65 "BuildingPoints$Point" "present" "I", Cond.methodLink RX4 182 yX1_dueValue, Cond.instanceMethod yX1_dueValue, Cond.selects RX1 yX1_dueValue yX1_dueValue, Cond.initialized RX1, Cond.code yX1_dueValue cX1_dueValue 2 (some .int), Cond.fieldLink RX1 24 "BuildingPoints$Point" "commands" "[I", Cond.fieldLink RX1 18 "BuildingPoints$Point" "original" "I", Cond.methodLink RX1 44 yX1_lowestCommanded, Cond.instanceMethod yX1_lowestCommanded, Cond.selects RX1 yX1_lowestCommanded yX1_lowestCommanded, Cond.code yX1_lowestCommanded cX1_lowestCommanded 2 (some .int), Cond.constant RX1 28 (-100000), Cond.methodLink RX4 185 yX1_change, Cond.instanceMethod yX1_change, Cond.selects RX1 yX1_change yX1_change, Cond.code yX1_change cX1_change 3 none]
def wsX4_follow_r3 : List Cond := [Cond.fieldLink RX1 35 "BuildingPoints$Point" "present" "I", Cond.fieldLink RX1 41 "BuildingPoints$Point" "changeCount" "I", Cond.fieldLink RX1 21 "BuildingPoints$Point" "leastTime" "I", Cond.fieldLink RX1 38 "BuildingPoints$Point" "heldUntil" "I", Cond.methodLink RX4 188 yX4_reportChange, Cond.instanceMethod yX4_reportChange, Cond.selects RX4 yX4_reportChange yX4_reportChange, Cond.code yX4_reportChange cX4_reportChange 6 none, Cond.fieldLink RX4 17 "BuildingPoints" "subscriptions" "[LBuildingPoints$Subscription;", Cond.fieldLink RX4 95 "BuildingPoints$Subscription" "isOpen" "Z", Cond.fieldLink RX4 192 "BuildingPoints$Subscription" "point" "LBuildingPoints$Point;", Cond.fieldLink RX4 146 "BuildingPoints" "allReports" "I", Cond.methodLink RX4 193 yX3_isFarFrom, Cond.instanceMethod yX3_isFarFrom, Cond.selects RX3 yX3_isFarFrom yX3_isFarFrom, Cond.initialized RX3, Cond.code yX3_isFarFrom cX3_isFarFrom 2 (some .boolean), Cond.fieldLink RX3 25 "BuildingPoints$Subscription" "kept" "I", Cond.methodLink RX3 35 Lib.Math.abs.name, Cond.static Lib.Math.abs.name, Cond.initialized "java/lang/Math", Cond.code Lib.Math.abs.name Lib.Math.abs.code 1 (some .int), Cond.fieldLink RX3 13 "BuildingPoints$Subscription" "increment" "I", Cond.methodLink RX4 196 yX3_report]
def wsX4_follow_r4 : List Cond := [Cond.instanceMethod yX3_report, Cond.selects RX3 yX3_report yX3_report, Cond.code yX3_report cX3_report 2 none, Cond.fieldLink RX3 28 "BuildingPoints$Subscription" "reportCount" "I"]
def wsX4_follow : List Cond := .code yX4_follow cX4_follow 3 none :: ((wsX4_follow_r1 ++ (wsX4_follow_r2 ++ (wsX4_follow_r3 ++ wsX4_follow_r4))) ++ wsX40 ++ wsX20 ++ wsX00 ++ wsX10 ++ wsX30)
def wsX4_weekly_r1 : List Cond := [Cond.fieldLink RX4 120 "BuildingPoints$Schedule" "weekdays" "LBuildingPoints$Entries;", Cond.fieldLink RX4 133 "BuildingPoints$Schedule" "toldLast" "I", Cond.methodLink RX4 112 yX4_scheduleAt, Cond.instanceMethod yX4_scheduleAt, Cond.selects RX4 yX4_scheduleAt yX4_scheduleAt, Cond.initialized RX4, Cond.code yX4_scheduleAt cX4_scheduleAt 2 (some (.object "BuildingPoints$Schedule")), Cond.classLink RX4 173 "java/lang/IndexOutOfBoundsException", Cond.initialized "java/lang/IndexOutOfBoundsException", Cond.fieldLink RX4 23 "BuildingPoints" "schedules" "[LBuildingPoints$Schedule;", Cond.methodLink RX4 27 yX4_requireWithin, Cond.static yX4_requireWithin, Cond.code yX4_requireWithin cX4_requireWithin 3 none, Cond.classLink RX4 152 "java/lang/IllegalArgumentException", Cond.initialized "java/lang/IllegalArgumentException", Cond.methodLink RX4 116 yX4_requireEntry, Cond.static yX4_requireEntry, Cond.code yX4_requireEntry cX4_requireEntry 3 none, Cond.fieldLink RX4 166 "BuildingPoints$Schedule" "point" "LBuildingPoints$Point;", Cond.methodLink RX4 46 yX4_requireCommand, Cond.static yX4_requireCommand, Cond.code yX4_requireCommand cX4_requireCommand 2 none, Cond.constant RX4 157 (-100000), Cond.methodLink RX4 158 yX1_canHave]
def wsX4_weekly_r2 : List Cond := [Cond.instanceMethod yX1_canHave, Cond.selects RX1 yX1_canHave yX1_canHave, Cond.initialized RX1, Cond.code yX1_canHave cX1_canHave 2 (some .boolean), Cond.fieldLink RX1 9 "BuildingPoints$Point" "lowest" "I", Cond.fieldLink RX1 15 "BuildingPoints$Point" "highest" "I", Cond.methodLink RX4 170 yX2_entryCount, Cond.instanceMethod yX2_entryCount, Cond.selects RX2 yX2_entryCount yX2_entryCount, Cond.initialized RX2, Cond.code yX2_entryCount cX2_entryCount 1 (some .int), Cond.fieldLink RX2 22 "BuildingPoints$Schedule" "weekdays" "LBuildingPoints$Entries;", Cond.fieldLink RX2 33 "BuildingPoints$Entries" "count" "I", Cond.fieldLink RX2 26 "BuildingPoints$Schedule" "singleDays" "LBuildingPoints$Entries;", Cond.methodLink RX4 35 yX4_requireRoom, Cond.static yX4_requireRoom, Cond.code yX4_requireRoom cX4_requireRoom 2 none, Cond.classLink RX4 54 "java/lang/IllegalStateException", Cond.initialized "java/lang/IllegalStateException", Cond.methodLink RX4 124 yX0_add, Cond.instanceMethod yX0_add, Cond.selects RX0 yX0_add yX0_add, Cond.initialized RX0, Cond.code yX0_add cX0_add 4 none]
def wsX4_weekly_r3 : List Cond := [Cond.fieldLink RX0 21 "BuildingPoints$Entries" "count" "I", Cond.fieldLink RX0 9 "BuildingPoints$Entries" "days" "[I", Cond.fieldLink RX0 15 "BuildingPoints$Entries" "minutes" "[I", Cond.fieldLink RX0 18 "BuildingPoints$Entries" "told" "[I", Cond.methodLink RX4 129 yX4_follow, Cond.instanceMethod yX4_follow, Cond.selects RX4 yX4_follow yX4_follow, Cond.code yX4_follow cX4_follow 3 none, Cond.fieldLink RX4 79 "BuildingPoints" "now" "I", Cond.fieldLink RX4 200 "BuildingPoints$Schedule" "priority" "I", Cond.methodLink RX4 140 yX2_toldAt, Cond.instanceMethod yX2_toldAt, Cond.selects RX2 yX2_toldAt yX2_toldAt, Cond.code yX2_toldAt cX2_toldAt 4 (some .int), Cond.methodLink RX2 36 yX0_hasDay, Cond.instanceMethod yX0_hasDay, Cond.selects RX0 yX0_hasDay yX0_hasDay, Cond.code yX0_hasDay cX0_hasDay 3 (some .boolean), Cond.methodLink RX2 40 yX0_latest, Cond.instanceMethod yX0_latest, Cond.selects RX0 yX0_latest yX0_latest, Cond.code yX0_latest cX0_latest 6 (some .int), Cond.constant RX0 25 (-100000), Cond.methodLink RX4 61 yX4_put]
def wsX4_weekly_r4 : List Cond := [Cond.instanceMethod yX4_put, Cond.selects RX4 yX4_put yX4_put, Cond.code yX4_put cX4_put 5 none, Cond.fieldLink RX4 68 "BuildingPoints$Point" "commands" "[I", Cond.fieldLink RX4 65 "BuildingPoints$Point" "present" "I", Cond.methodLink RX4 182 yX1_dueValue, Cond.instanceMethod yX1_dueValue, Cond.selects RX1 yX1_dueValue yX1_dueValue, Cond.code yX1_dueValue cX1_dueValue 2 (some .int), Cond.fieldLink RX1 24 "BuildingPoints$Point" "commands" "[I", Cond.fieldLink RX1 18 "BuildingPoints$Point" "original" "I", Cond.methodLink RX1 44 yX1_lowestCommanded, Cond.instanceMethod yX1_lowestCommanded, Cond.selects RX1 yX1_lowestCommanded yX1_lowestCommanded, Cond.code yX1_lowestCommanded cX1_lowestCommanded 2 (some .int), Cond.constant RX1 28 (-100000), Cond.methodLink RX4 185 yX1_change, Cond.instanceMethod yX1_change, Cond.selects RX1 yX1_change yX1_change, Cond.code yX1_change cX1_change 3 none, Cond.fieldLink RX1 35 "BuildingPoints$Point" "present" "I", Cond.fieldLink RX1 41 "BuildingPoints$Point" "changeCount" "I", Cond.fieldLink RX1 21 "BuildingPoints$Point" "leastTime" "I", Cond.fieldLink RX1 38 "BuildingPoints$Point" "heldUntil" "I"]
def wsX4_weekly_r5 : List Cond := [Cond.methodLink RX4 188 yX4_reportChange, Cond.instanceMethod yX4_reportChange, Cond.selects RX4 yX4_reportChange yX4_reportChange, Cond.code yX4_reportChange cX4_reportChange 6 none, Cond.fieldLink RX4 17 "BuildingPoints" "subscriptions" "[LBuildingPoints$Subscription;", Cond.fieldLink RX4 95 "BuildingPoints$Subscription" "isOpen" "Z", Cond.fieldLink RX4 192 "BuildingPoints$Subscription" "point" "LBuildingPoints$Point;", Cond.fieldLink RX4 146 "BuildingPoints" "allReports" "I", Cond.methodLink RX4 193 yX3_isFarFrom, Cond.instanceMethod yX3_isFarFrom, Cond.selects RX3 yX3_isFarFrom yX3_isFarFrom, Cond.initialized RX3, Cond.code yX3_isFarFrom cX3_isFarFrom 2 (some .boolean), Cond.fieldLink RX3 25 "BuildingPoints$Subscription" "kept" "I", Cond.methodLink RX3 35 Lib.Math.abs.name, Cond.static Lib.Math.abs.name, Cond.initialized "java/lang/Math", Cond.code Lib.Math.abs.name Lib.Math.abs.code 1 (some .int), Cond.fieldLink RX3 13 "BuildingPoints$Subscription" "increment" "I", Cond.methodLink RX4 196 yX3_report, Cond.instanceMethod yX3_report, Cond.selects RX3 yX3_report yX3_report, Cond.code yX3_report cX3_report 2 none, Cond.fieldLink RX3 28 "BuildingPoints$Subscription" "reportCount" "I"]
def wsX4_weekly : List Cond := .code yX4_weekly cX4_weekly 6 (some .int) :: ((wsX4_weekly_r1 ++ (wsX4_weekly_r2 ++ (wsX4_weekly_r3 ++ (wsX4_weekly_r4 ++ wsX4_weekly_r5)))) ++ wsX20 ++ wsX40 ++ wsX10 ++ wsX00 ++ wsX30 ++ (vx_atS RX4 177 "java/lang/IndexOutOfBoundsException" ["java/lang/RuntimeException", "java/lang/Exception"]).filter goodWord ++ (vx_atS RX4 156 "java/lang/IllegalArgumentException" ["java/lang/RuntimeException", "java/lang/Exception"]).filter goodWord ++ (vx_atS RX4 58 "java/lang/IllegalStateException" ["java/lang/RuntimeException", "java/lang/Exception"]).filter goodWord)
def wsX4_once_r1 : List Cond := [Cond.fieldLink RX4 136 "BuildingPoints$Schedule" "singleDays" "LBuildingPoints$Entries;", Cond.fieldLink RX4 133 "BuildingPoints$Schedule" "toldLast" "I", Cond.methodLink RX4 112 yX4_scheduleAt, Cond.instanceMethod yX4_scheduleAt, Cond.selects RX4 yX4_scheduleAt yX4_scheduleAt, Cond.initialized RX4, Cond.code yX4_scheduleAt cX4_scheduleAt 2 (some (.object "BuildingPoints$Schedule")), Cond.classLink RX4 173 "java/lang/IndexOutOfBoundsException", Cond.initialized "java/lang/IndexOutOfBoundsException", Cond.fieldLink RX4 23 "BuildingPoints" "schedules" "[LBuildingPoints$Schedule;", Cond.methodLink RX4 27 yX4_requireWithin, Cond.static yX4_requireWithin, Cond.code yX4_requireWithin cX4_requireWithin 3 none, Cond.classLink RX4 152 "java/lang/IllegalArgumentException", Cond.initialized "java/lang/IllegalArgumentException", Cond.methodLink RX4 116 yX4_requireEntry, Cond.static yX4_requireEntry, Cond.code yX4_requireEntry cX4_requireEntry 3 none, Cond.fieldLink RX4 166 "BuildingPoints$Schedule" "point" "LBuildingPoints$Point;", Cond.methodLink RX4 46 yX4_requireCommand, Cond.static yX4_requireCommand, Cond.code yX4_requireCommand cX4_requireCommand 2 none, Cond.constant RX4 157 (-100000), Cond.methodLink RX4 158 yX1_canHave]
def wsX4_once_r2 : List Cond := [Cond.instanceMethod yX1_canHave, Cond.selects RX1 yX1_canHave yX1_canHave, Cond.initialized RX1, Cond.code yX1_canHave cX1_canHave 2 (some .boolean), Cond.fieldLink RX1 9 "BuildingPoints$Point" "lowest" "I", Cond.fieldLink RX1 15 "BuildingPoints$Point" "highest" "I", Cond.methodLink RX4 170 yX2_entryCount, Cond.instanceMethod yX2_entryCount, Cond.selects RX2 yX2_entryCount yX2_entryCount, Cond.initialized RX2, Cond.code yX2_entryCount cX2_entryCount 1 (some .int), Cond.fieldLink RX2 22 "BuildingPoints$Schedule" "weekdays" "LBuildingPoints$Entries;", Cond.fieldLink RX2 33 "BuildingPoints$Entries" "count" "I", Cond.fieldLink RX2 26 "BuildingPoints$Schedule" "singleDays" "LBuildingPoints$Entries;", Cond.methodLink RX4 35 yX4_requireRoom, Cond.static yX4_requireRoom, Cond.code yX4_requireRoom cX4_requireRoom 2 none, Cond.classLink RX4 54 "java/lang/IllegalStateException", Cond.initialized "java/lang/IllegalStateException", Cond.methodLink RX4 124 yX0_add, Cond.instanceMethod yX0_add, Cond.selects RX0 yX0_add yX0_add, Cond.initialized RX0, Cond.code yX0_add cX0_add 4 none]
def wsX4_once_r3 : List Cond := [Cond.fieldLink RX0 21 "BuildingPoints$Entries" "count" "I", Cond.fieldLink RX0 9 "BuildingPoints$Entries" "days" "[I", Cond.fieldLink RX0 15 "BuildingPoints$Entries" "minutes" "[I", Cond.fieldLink RX0 18 "BuildingPoints$Entries" "told" "[I", Cond.methodLink RX4 129 yX4_follow, Cond.instanceMethod yX4_follow, Cond.selects RX4 yX4_follow yX4_follow, Cond.code yX4_follow cX4_follow 3 none, Cond.fieldLink RX4 79 "BuildingPoints" "now" "I", Cond.fieldLink RX4 200 "BuildingPoints$Schedule" "priority" "I", Cond.methodLink RX4 140 yX2_toldAt, Cond.instanceMethod yX2_toldAt, Cond.selects RX2 yX2_toldAt yX2_toldAt, Cond.code yX2_toldAt cX2_toldAt 4 (some .int), Cond.methodLink RX2 36 yX0_hasDay, Cond.instanceMethod yX0_hasDay, Cond.selects RX0 yX0_hasDay yX0_hasDay, Cond.code yX0_hasDay cX0_hasDay 3 (some .boolean), Cond.methodLink RX2 40 yX0_latest, Cond.instanceMethod yX0_latest, Cond.selects RX0 yX0_latest yX0_latest, Cond.code yX0_latest cX0_latest 6 (some .int), Cond.constant RX0 25 (-100000), Cond.methodLink RX4 61 yX4_put]
def wsX4_once_r4 : List Cond := [Cond.instanceMethod yX4_put, Cond.selects RX4 yX4_put yX4_put, Cond.code yX4_put cX4_put 5 none, Cond.fieldLink RX4 68 "BuildingPoints$Point" "commands" "[I", Cond.fieldLink RX4 65 "BuildingPoints$Point" "present" "I", Cond.methodLink RX4 182 yX1_dueValue, Cond.instanceMethod yX1_dueValue, Cond.selects RX1 yX1_dueValue yX1_dueValue, Cond.code yX1_dueValue cX1_dueValue 2 (some .int), Cond.fieldLink RX1 24 "BuildingPoints$Point" "commands" "[I", Cond.fieldLink RX1 18 "BuildingPoints$Point" "original" "I", Cond.methodLink RX1 44 yX1_lowestCommanded, Cond.instanceMethod yX1_lowestCommanded, Cond.selects RX1 yX1_lowestCommanded yX1_lowestCommanded, Cond.code yX1_lowestCommanded cX1_lowestCommanded 2 (some .int), Cond.constant RX1 28 (-100000), Cond.methodLink RX4 185 yX1_change, Cond.instanceMethod yX1_change, Cond.selects RX1 yX1_change yX1_change, Cond.code yX1_change cX1_change 3 none, Cond.fieldLink RX1 35 "BuildingPoints$Point" "present" "I", Cond.fieldLink RX1 41 "BuildingPoints$Point" "changeCount" "I", Cond.fieldLink RX1 21 "BuildingPoints$Point" "leastTime" "I", Cond.fieldLink RX1 38 "BuildingPoints$Point" "heldUntil" "I"]
def wsX4_once_r5 : List Cond := [Cond.methodLink RX4 188 yX4_reportChange, Cond.instanceMethod yX4_reportChange, Cond.selects RX4 yX4_reportChange yX4_reportChange, Cond.code yX4_reportChange cX4_reportChange 6 none, Cond.fieldLink RX4 17 "BuildingPoints" "subscriptions" "[LBuildingPoints$Subscription;", Cond.fieldLink RX4 95 "BuildingPoints$Subscription" "isOpen" "Z", Cond.fieldLink RX4 192 "BuildingPoints$Subscription" "point" "LBuildingPoints$Point;", Cond.fieldLink RX4 146 "BuildingPoints" "allReports" "I", Cond.methodLink RX4 193 yX3_isFarFrom, Cond.instanceMethod yX3_isFarFrom, Cond.selects RX3 yX3_isFarFrom yX3_isFarFrom, Cond.initialized RX3, Cond.code yX3_isFarFrom cX3_isFarFrom 2 (some .boolean), Cond.fieldLink RX3 25 "BuildingPoints$Subscription" "kept" "I", Cond.methodLink RX3 35 Lib.Math.abs.name, Cond.static Lib.Math.abs.name, Cond.initialized "java/lang/Math", Cond.code Lib.Math.abs.name Lib.Math.abs.code 1 (some .int), Cond.fieldLink RX3 13 "BuildingPoints$Subscription" "increment" "I", Cond.methodLink RX4 196 yX3_report, Cond.instanceMethod yX3_report, Cond.selects RX3 yX3_report yX3_report, Cond.code yX3_report cX3_report 2 none, Cond.fieldLink RX3 28 "BuildingPoints$Subscription" "reportCount" "I"]
def wsX4_once : List Cond := .code yX4_once cX4_once 6 (some .int) :: ((wsX4_once_r1 ++ (wsX4_once_r2 ++ (wsX4_once_r3 ++ (wsX4_once_r4 ++ wsX4_once_r5)))) ++ wsX20 ++ wsX40 ++ wsX10 ++ wsX00 ++ wsX30 ++ (vx_atS RX4 177 "java/lang/IndexOutOfBoundsException" ["java/lang/RuntimeException", "java/lang/Exception"]).filter goodWord ++ (vx_atS RX4 156 "java/lang/IllegalArgumentException" ["java/lang/RuntimeException", "java/lang/Exception"]).filter goodWord ++ (vx_atS RX4 58 "java/lang/IllegalStateException" ["java/lang/RuntimeException", "java/lang/Exception"]).filter goodWord)
def wsX4_tells_r1 : List Cond := [Cond.constant RX4 139 (1000000), Cond.methodLink RX4 112 yX4_scheduleAt, Cond.instanceMethod yX4_scheduleAt, Cond.selects RX4 yX4_scheduleAt yX4_scheduleAt, Cond.initialized RX4, Cond.code yX4_scheduleAt cX4_scheduleAt 2 (some (.object "BuildingPoints$Schedule")), Cond.classLink RX4 173 "java/lang/IndexOutOfBoundsException", Cond.initialized "java/lang/IndexOutOfBoundsException", Cond.fieldLink RX4 23 "BuildingPoints" "schedules" "[LBuildingPoints$Schedule;", Cond.methodLink RX4 27 yX4_requireWithin, Cond.static yX4_requireWithin, Cond.code yX4_requireWithin cX4_requireWithin 3 none, Cond.classLink RX4 152 "java/lang/IllegalArgumentException", Cond.initialized "java/lang/IllegalArgumentException", Cond.methodLink RX4 140 yX2_toldAt, Cond.instanceMethod yX2_toldAt, Cond.selects RX2 yX2_toldAt yX2_toldAt, Cond.initialized RX2, Cond.code yX2_toldAt cX2_toldAt 4 (some .int), Cond.fieldLink RX2 26 "BuildingPoints$Schedule" "singleDays" "LBuildingPoints$Entries;", Cond.fieldLink RX2 22 "BuildingPoints$Schedule" "weekdays" "LBuildingPoints$Entries;", Cond.methodLink RX2 36 yX0_hasDay, Cond.instanceMethod yX0_hasDay, Cond.selects RX0 yX0_hasDay yX0_hasDay]
def wsX4_tells_r2 : List Cond := [Cond.initialized RX0, Cond.code yX0_hasDay cX0_hasDay 3 (some .boolean), Cond.fieldLink RX0 21 "BuildingPoints$Entries" "count" "I", Cond.fieldLink RX0 9 "BuildingPoints$Entries" "days" "[I", Cond.methodLink RX2 40 yX0_latest, Cond.instanceMethod yX0_latest, Cond.selects RX0 yX0_latest yX0_latest, Cond.code yX0_latest cX0_latest 6 (some .int), Cond.constant RX0 25 (-100000), Cond.fieldLink RX0 15 "BuildingPoints$Entries" "minutes" "[I", Cond.fieldLink RX0 18 "BuildingPoints$Entries" "told" "[I"]
def wsX4_tells : List Cond := .code yX4_tells cX4_tells 4 (some .int) :: ((wsX4_tells_r1 ++ wsX4_tells_r2) ++ wsX40 ++ wsX20 ++ wsX00 ++ (vx_atS RX4 177 "java/lang/IndexOutOfBoundsException" ["java/lang/RuntimeException", "java/lang/Exception"]).filter goodWord ++ (vx_atS RX4 156 "java/lang/IllegalArgumentException" ["java/lang/RuntimeException", "java/lang/Exception"]).filter goodWord)
def wsX4_releaseHeldCommands_r1 : List Cond := [Cond.fieldLink RX4 11 "BuildingPoints" "points" "[LBuildingPoints$Point;", Cond.fieldLink RX4 76 "BuildingPoints$Point" "heldUntil" "I", Cond.fieldLink RX4 79 "BuildingPoints" "now" "I", Cond.constant RX4 157 (-100000), Cond.methodLink RX4 50 yX1_isHeld, Cond.instanceMethod yX1_isHeld, Cond.selects RX1 yX1_isHeld yX1_isHeld, Cond.initialized RX1, Cond.code yX1_isHeld cX1_isHeld 1 (some .boolean), Cond.fieldLink RX1 38 "BuildingPoints$Point" "heldUntil" "I", Cond.methodLink RX4 61 yX4_put, Cond.instanceMethod yX4_put, Cond.selects RX4 yX4_put yX4_put, Cond.initialized RX4, Cond.code yX4_put cX4_put 5 none, Cond.fieldLink RX4 68 "BuildingPoints$Point" "commands" "[I", Cond.fieldLink RX4 65 "BuildingPoints$Point" "present" "I", Cond.methodLink RX4 182 yX1_dueValue, Cond.instanceMethod yX1_dueValue, Cond.selects RX1 yX1_dueValue yX1_dueValue, Cond.code yX1_dueValue cX1_dueValue 2 (some .int), Cond.fieldLink RX1 24 "BuildingPoints$Point" "commands" "[I", Cond.fieldLink RX1 18 "BuildingPoints$Point" "original" "I", Cond.methodLink RX1 44 yX1_lowestCommanded]
def wsX4_releaseHeldCommands_r2 : List Cond := [Cond.instanceMethod yX1_lowestCommanded, Cond.selects RX1 yX1_lowestCommanded yX1_lowestCommanded, Cond.code yX1_lowestCommanded cX1_lowestCommanded 2 (some .int), Cond.constant RX1 28 (-100000), Cond.methodLink RX4 185 yX1_change, Cond.instanceMethod yX1_change, Cond.selects RX1 yX1_change yX1_change, Cond.code yX1_change cX1_change 3 none, Cond.fieldLink RX1 35 "BuildingPoints$Point" "present" "I", Cond.fieldLink RX1 41 "BuildingPoints$Point" "changeCount" "I", Cond.fieldLink RX1 21 "BuildingPoints$Point" "leastTime" "I", Cond.methodLink RX4 188 yX4_reportChange, Cond.instanceMethod yX4_reportChange, Cond.selects RX4 yX4_reportChange yX4_reportChange, Cond.code yX4_reportChange cX4_reportChange 6 none, Cond.fieldLink RX4 17 "BuildingPoints" "subscriptions" "[LBuildingPoints$Subscription;", Cond.fieldLink RX4 95 "BuildingPoints$Subscription" "isOpen" "Z", Cond.fieldLink RX4 192 "BuildingPoints$Subscription" "point" "LBuildingPoints$Point;", Cond.fieldLink RX4 146 "BuildingPoints" "allReports" "I", Cond.methodLink RX4 193 yX3_isFarFrom, Cond.instanceMethod yX3_isFarFrom, Cond.selects RX3 yX3_isFarFrom yX3_isFarFrom, Cond.initialized RX3, Cond.code yX3_isFarFrom cX3_isFarFrom 2 (some .boolean)]
def wsX4_releaseHeldCommands_r3 : List Cond := [Cond.fieldLink RX3 25 "BuildingPoints$Subscription" "kept" "I", Cond.methodLink RX3 35 Lib.Math.abs.name, Cond.static Lib.Math.abs.name, Cond.initialized "java/lang/Math", Cond.code Lib.Math.abs.name Lib.Math.abs.code 1 (some .int), Cond.fieldLink RX3 13 "BuildingPoints$Subscription" "increment" "I", Cond.methodLink RX4 196 yX3_report, Cond.instanceMethod yX3_report, Cond.selects RX3 yX3_report yX3_report, Cond.code yX3_report cX3_report 2 none, Cond.fieldLink RX3 28 "BuildingPoints$Subscription" "reportCount" "I"]
def wsX4_releaseHeldCommands : List Cond := .code yX4_releaseHeldCommands cX4_releaseHeldCommands 5 none :: ((wsX4_releaseHeldCommands_r1 ++ (wsX4_releaseHeldCommands_r2 ++ wsX4_releaseHeldCommands_r3)) ++ wsX40 ++ wsX10 ++ wsX30)
def wsX4_endOldSubscriptions : List Cond := .code yX4_endOldSubscriptions cX4_endOldSubscriptions 5 none :: ([.fieldLink RX4 17 "BuildingPoints" "subscriptions" "[LBuildingPoints$Subscription;", .fieldLink RX4 212 "BuildingPoints$Subscription" "endTime" "I", .fieldLink RX4 79 "BuildingPoints" "now" "I", .fieldLink RX4 95 "BuildingPoints$Subscription" "isOpen" "Z"] ++ wsX40 ++ wsX30)
def wsX4_followSchedules_r1 : List Cond := [Cond.fieldLink RX4 23 "BuildingPoints" "schedules" "[LBuildingPoints$Schedule;", Cond.methodLink RX4 129 yX4_follow, Cond.instanceMethod yX4_follow, Cond.selects RX4 yX4_follow yX4_follow, Cond.initialized RX4, Cond.code yX4_follow cX4_follow 3 none, Cond.fieldLink RX4 79 "BuildingPoints" "now" "I", Cond.fieldLink RX4 133 "BuildingPoints$Schedule" "toldLast" "I", Cond.fieldLink RX4 166 "BuildingPoints$Schedule" "point" "LBuildingPoints$Point;", Cond.fieldLink RX4 200 "BuildingPoints$Schedule" "priority" "I", Cond.methodLink RX4 140 yX2_toldAt, Cond.instanceMethod yX2_toldAt, Cond.selects RX2 yX2_toldAt yX2_toldAt, Cond.initialized RX2, Cond.code yX2_toldAt cX2_toldAt 4 (some .int), Cond.fieldLink RX2 26 "BuildingPoints$Schedule" "singleDays" "LBuildingPoints$Entries;", Cond.fieldLink RX2 22 "BuildingPoints$Schedule" "weekdays" "LBuildingPoints$Entries;", Cond.methodLink RX2 36 yX0_hasDay, Cond.instanceMethod yX0_hasDay, Cond.selects RX0 yX0_hasDay yX0_hasDay, Cond.initialized RX0, Cond.code yX0_hasDay cX0_hasDay 3 (some .boolean), Cond.fieldLink RX0 21 "BuildingPoints$Entries" "count" "I", Cond.fieldLink RX0 9 "BuildingPoints$Entries" "days" "[I"]
def wsX4_followSchedules_r2 : List Cond := [Cond.methodLink RX2 40 yX0_latest, Cond.instanceMethod yX0_latest, Cond.selects RX0 yX0_latest yX0_latest, Cond.code yX0_latest cX0_latest 6 (some .int), Cond.constant RX0 25 (-100000), Cond.fieldLink RX0 15 "BuildingPoints$Entries" "minutes" "[I", Cond.fieldLink RX0 18 "BuildingPoints$Entries" "told" "[I", Cond.methodLink RX4 61 yX4_put, Cond.instanceMethod yX4_put, Cond.selects RX4 yX4_put yX4_put, Cond.code yX4_put cX4_put 5 none, Cond.fieldLink RX4 68 "BuildingPoints$Point" "commands" "[I", Cond.fieldLink RX4 65 "BuildingPoints$Point" "present" "I", Cond.methodLink RX4 182 yX1_dueValue, Cond.instanceMethod yX1_dueValue, Cond.selects RX1 yX1_dueValue yX1_dueValue, Cond.initialized RX1, Cond.code yX1_dueValue cX1_dueValue 2 (some .int), Cond.fieldLink RX1 24 "BuildingPoints$Point" "commands" "[I", Cond.fieldLink RX1 18 "BuildingPoints$Point" "original" "I", Cond.methodLink RX1 44 yX1_lowestCommanded, Cond.instanceMethod yX1_lowestCommanded, Cond.selects RX1 yX1_lowestCommanded yX1_lowestCommanded, Cond.code yX1_lowestCommanded cX1_lowestCommanded 2 (some .int)]
def wsX4_followSchedules_r3 : List Cond := [Cond.constant RX1 28 (-100000), Cond.methodLink RX4 185 yX1_change, Cond.instanceMethod yX1_change, Cond.selects RX1 yX1_change yX1_change, Cond.code yX1_change cX1_change 3 none, Cond.fieldLink RX1 35 "BuildingPoints$Point" "present" "I", Cond.fieldLink RX1 41 "BuildingPoints$Point" "changeCount" "I", Cond.fieldLink RX1 21 "BuildingPoints$Point" "leastTime" "I", Cond.fieldLink RX1 38 "BuildingPoints$Point" "heldUntil" "I", Cond.methodLink RX4 188 yX4_reportChange, Cond.instanceMethod yX4_reportChange, Cond.selects RX4 yX4_reportChange yX4_reportChange, Cond.code yX4_reportChange cX4_reportChange 6 none, Cond.fieldLink RX4 17 "BuildingPoints" "subscriptions" "[LBuildingPoints$Subscription;", Cond.fieldLink RX4 95 "BuildingPoints$Subscription" "isOpen" "Z", Cond.fieldLink RX4 192 "BuildingPoints$Subscription" "point" "LBuildingPoints$Point;", Cond.fieldLink RX4 146 "BuildingPoints" "allReports" "I", Cond.methodLink RX4 193 yX3_isFarFrom, Cond.instanceMethod yX3_isFarFrom, Cond.selects RX3 yX3_isFarFrom yX3_isFarFrom, Cond.initialized RX3, Cond.code yX3_isFarFrom cX3_isFarFrom 2 (some .boolean), Cond.fieldLink RX3 25 "BuildingPoints$Subscription" "kept" "I", Cond.methodLink RX3 35 Lib.Math.abs.name]
def wsX4_followSchedules_r4 : List Cond := [Cond.static Lib.Math.abs.name, Cond.initialized "java/lang/Math", Cond.code Lib.Math.abs.name Lib.Math.abs.code 1 (some .int), Cond.fieldLink RX3 13 "BuildingPoints$Subscription" "increment" "I", Cond.methodLink RX4 196 yX3_report, Cond.instanceMethod yX3_report, Cond.selects RX3 yX3_report yX3_report, Cond.code yX3_report cX3_report 2 none, Cond.fieldLink RX3 28 "BuildingPoints$Subscription" "reportCount" "I"]
def wsX4_followSchedules : List Cond := .code yX4_followSchedules cX4_followSchedules 5 none :: ((wsX4_followSchedules_r1 ++ (wsX4_followSchedules_r2 ++ (wsX4_followSchedules_r3 ++ wsX4_followSchedules_r4))) ++ wsX40 ++ wsX20 ++ wsX00 ++ wsX10 ++ wsX30)
def wsX4_passMinute_r1 : List Cond := [Cond.fieldLink RX4 79 "BuildingPoints" "now" "I", Cond.methodLink RX4 203 yX4_releaseHeldCommands, Cond.instanceMethod yX4_releaseHeldCommands, Cond.selects RX4 yX4_releaseHeldCommands yX4_releaseHeldCommands, Cond.initialized RX4, Cond.code yX4_releaseHeldCommands cX4_releaseHeldCommands 5 none, Cond.fieldLink RX4 11 "BuildingPoints" "points" "[LBuildingPoints$Point;", Cond.fieldLink RX4 76 "BuildingPoints$Point" "heldUntil" "I", Cond.constant RX4 157 (-100000), Cond.methodLink RX4 50 yX1_isHeld, Cond.instanceMethod yX1_isHeld, Cond.selects RX1 yX1_isHeld yX1_isHeld, Cond.initialized RX1, Cond.code yX1_isHeld cX1_isHeld 1 (some .boolean), Cond.fieldLink RX1 38 "BuildingPoints$Point" "heldUntil" "I", Cond.methodLink RX4 61 yX4_put, Cond.instanceMethod yX4_put, Cond.selects RX4 yX4_put yX4_put, Cond.code yX4_put cX4_put 5 none, Cond.fieldLink RX4 68 "BuildingPoints$Point" "commands" "[I", Cond.fieldLink RX4 65 "BuildingPoints$Point" "present" "I", Cond.methodLink RX4 182 yX1_dueValue, Cond.instanceMethod yX1_dueValue, Cond.selects RX1 yX1_dueValue yX1_dueValue]
def wsX4_passMinute_r2 : List Cond := [Cond.code yX1_dueValue cX1_dueValue 2 (some .int), Cond.fieldLink RX1 24 "BuildingPoints$Point" "commands" "[I", Cond.fieldLink RX1 18 "BuildingPoints$Point" "original" "I", Cond.methodLink RX1 44 yX1_lowestCommanded, Cond.instanceMethod yX1_lowestCommanded, Cond.selects RX1 yX1_lowestCommanded yX1_lowestCommanded, Cond.code yX1_lowestCommanded cX1_lowestCommanded 2 (some .int), Cond.constant RX1 28 (-100000), Cond.methodLink RX4 185 yX1_change, Cond.instanceMethod yX1_change, Cond.selects RX1 yX1_change yX1_change, Cond.code yX1_change cX1_change 3 none, Cond.fieldLink RX1 35 "BuildingPoints$Point" "present" "I", Cond.fieldLink RX1 41 "BuildingPoints$Point" "changeCount" "I", Cond.fieldLink RX1 21 "BuildingPoints$Point" "leastTime" "I", Cond.methodLink RX4 188 yX4_reportChange, Cond.instanceMethod yX4_reportChange, Cond.selects RX4 yX4_reportChange yX4_reportChange, Cond.code yX4_reportChange cX4_reportChange 6 none, Cond.fieldLink RX4 17 "BuildingPoints" "subscriptions" "[LBuildingPoints$Subscription;", Cond.fieldLink RX4 95 "BuildingPoints$Subscription" "isOpen" "Z", Cond.fieldLink RX4 192 "BuildingPoints$Subscription" "point" "LBuildingPoints$Point;", Cond.fieldLink RX4 146 "BuildingPoints" "allReports" "I", Cond.methodLink RX4 193 yX3_isFarFrom]
def wsX4_passMinute_r3 : List Cond := [Cond.instanceMethod yX3_isFarFrom, Cond.selects RX3 yX3_isFarFrom yX3_isFarFrom, Cond.initialized RX3, Cond.code yX3_isFarFrom cX3_isFarFrom 2 (some .boolean), Cond.fieldLink RX3 25 "BuildingPoints$Subscription" "kept" "I", Cond.methodLink RX3 35 Lib.Math.abs.name, Cond.static Lib.Math.abs.name, Cond.initialized "java/lang/Math", Cond.code Lib.Math.abs.name Lib.Math.abs.code 1 (some .int), Cond.fieldLink RX3 13 "BuildingPoints$Subscription" "increment" "I", Cond.methodLink RX4 196 yX3_report, Cond.instanceMethod yX3_report, Cond.selects RX3 yX3_report yX3_report, Cond.code yX3_report cX3_report 2 none, Cond.fieldLink RX3 28 "BuildingPoints$Subscription" "reportCount" "I", Cond.methodLink RX4 206 yX4_endOldSubscriptions, Cond.instanceMethod yX4_endOldSubscriptions, Cond.selects RX4 yX4_endOldSubscriptions yX4_endOldSubscriptions, Cond.code yX4_endOldSubscriptions cX4_endOldSubscriptions 5 none, Cond.fieldLink RX4 212 "BuildingPoints$Subscription" "endTime" "I", Cond.methodLink RX4 209 yX4_followSchedules, Cond.instanceMethod yX4_followSchedules, Cond.selects RX4 yX4_followSchedules yX4_followSchedules, Cond.code yX4_followSchedules cX4_followSchedules 5 none]
def wsX4_passMinute_r4 : List Cond := [Cond.fieldLink RX4 23 "BuildingPoints" "schedules" "[LBuildingPoints$Schedule;", Cond.methodLink RX4 129 yX4_follow, Cond.instanceMethod yX4_follow, Cond.selects RX4 yX4_follow yX4_follow, Cond.code yX4_follow cX4_follow 3 none, Cond.fieldLink RX4 133 "BuildingPoints$Schedule" "toldLast" "I", Cond.fieldLink RX4 166 "BuildingPoints$Schedule" "point" "LBuildingPoints$Point;", Cond.fieldLink RX4 200 "BuildingPoints$Schedule" "priority" "I", Cond.methodLink RX4 140 yX2_toldAt, Cond.instanceMethod yX2_toldAt, Cond.selects RX2 yX2_toldAt yX2_toldAt, Cond.initialized RX2, Cond.code yX2_toldAt cX2_toldAt 4 (some .int), Cond.fieldLink RX2 26 "BuildingPoints$Schedule" "singleDays" "LBuildingPoints$Entries;", Cond.fieldLink RX2 22 "BuildingPoints$Schedule" "weekdays" "LBuildingPoints$Entries;", Cond.methodLink RX2 36 yX0_hasDay, Cond.instanceMethod yX0_hasDay, Cond.selects RX0 yX0_hasDay yX0_hasDay, Cond.initialized RX0, Cond.code yX0_hasDay cX0_hasDay 3 (some .boolean), Cond.fieldLink RX0 21 "BuildingPoints$Entries" "count" "I", Cond.fieldLink RX0 9 "BuildingPoints$Entries" "days" "[I", Cond.methodLink RX2 40 yX0_latest, Cond.instanceMethod yX0_latest]
def wsX4_passMinute_r5 : List Cond := [Cond.selects RX0 yX0_latest yX0_latest, Cond.code yX0_latest cX0_latest 6 (some .int), Cond.constant RX0 25 (-100000), Cond.fieldLink RX0 15 "BuildingPoints$Entries" "minutes" "[I", Cond.fieldLink RX0 18 "BuildingPoints$Entries" "told" "[I"]
def wsX4_passMinute : List Cond := .code yX4_passMinute cX4_passMinute 1 none :: ((wsX4_passMinute_r1 ++ (wsX4_passMinute_r2 ++ (wsX4_passMinute_r3 ++ (wsX4_passMinute_r4 ++ wsX4_passMinute_r5)))) ++ wsX40 ++ wsX10 ++ wsX30 ++ wsX20 ++ wsX00)
def wsX4_pass_r1 : List Cond := [Cond.classLink RX4 54 "java/lang/IllegalStateException", Cond.initialized "java/lang/IllegalStateException", Cond.constant RX4 139 (1000000), Cond.fieldLink RX4 79 "BuildingPoints" "now" "I", Cond.fieldLink RX4 146 "BuildingPoints" "allReports" "I", Cond.methodLink RX4 27 yX4_requireWithin, Cond.static yX4_requireWithin, Cond.initialized RX4, Cond.code yX4_requireWithin cX4_requireWithin 3 none, Cond.classLink RX4 152 "java/lang/IllegalArgumentException", Cond.initialized "java/lang/IllegalArgumentException", Cond.methodLink RX4 149 yX4_passMinute, Cond.instanceMethod yX4_passMinute, Cond.selects RX4 yX4_passMinute yX4_passMinute, Cond.code yX4_passMinute cX4_passMinute 1 none, Cond.methodLink RX4 203 yX4_releaseHeldCommands, Cond.instanceMethod yX4_releaseHeldCommands, Cond.selects RX4 yX4_releaseHeldCommands yX4_releaseHeldCommands, Cond.code yX4_releaseHeldCommands cX4_releaseHeldCommands 5 none, Cond.fieldLink RX4 11 "BuildingPoints" "points" "[LBuildingPoints$Point;", Cond.fieldLink RX4 76 "BuildingPoints$Point" "heldUntil" "I", Cond.constant RX4 157 (-100000), Cond.methodLink RX4 50 yX1_isHeld, Cond.instanceMethod yX1_isHeld]
def wsX4_pass_r2 : List Cond := [Cond.selects RX1 yX1_isHeld yX1_isHeld, Cond.initialized RX1, Cond.code yX1_isHeld cX1_isHeld 1 (some .boolean), Cond.fieldLink RX1 38 "BuildingPoints$Point" "heldUntil" "I", Cond.methodLink RX4 61 yX4_put, Cond.instanceMethod yX4_put, Cond.selects RX4 yX4_put yX4_put, Cond.code yX4_put cX4_put 5 none, Cond.fieldLink RX4 68 "BuildingPoints$Point" "commands" "[I", Cond.fieldLink RX4 65 "BuildingPoints$Point" "present" "I", Cond.methodLink RX4 182 yX1_dueValue, Cond.instanceMethod yX1_dueValue, Cond.selects RX1 yX1_dueValue yX1_dueValue, Cond.code yX1_dueValue cX1_dueValue 2 (some .int), Cond.fieldLink RX1 24 "BuildingPoints$Point" "commands" "[I", Cond.fieldLink RX1 18 "BuildingPoints$Point" "original" "I", Cond.methodLink RX1 44 yX1_lowestCommanded, Cond.instanceMethod yX1_lowestCommanded, Cond.selects RX1 yX1_lowestCommanded yX1_lowestCommanded, Cond.code yX1_lowestCommanded cX1_lowestCommanded 2 (some .int), Cond.constant RX1 28 (-100000), Cond.methodLink RX4 185 yX1_change, Cond.instanceMethod yX1_change, Cond.selects RX1 yX1_change yX1_change]
def wsX4_pass_r3 : List Cond := [Cond.code yX1_change cX1_change 3 none, Cond.fieldLink RX1 35 "BuildingPoints$Point" "present" "I", Cond.fieldLink RX1 41 "BuildingPoints$Point" "changeCount" "I", Cond.fieldLink RX1 21 "BuildingPoints$Point" "leastTime" "I", Cond.methodLink RX4 188 yX4_reportChange, Cond.instanceMethod yX4_reportChange, Cond.selects RX4 yX4_reportChange yX4_reportChange, Cond.code yX4_reportChange cX4_reportChange 6 none, Cond.fieldLink RX4 17 "BuildingPoints" "subscriptions" "[LBuildingPoints$Subscription;", Cond.fieldLink RX4 95 "BuildingPoints$Subscription" "isOpen" "Z", Cond.fieldLink RX4 192 "BuildingPoints$Subscription" "point" "LBuildingPoints$Point;", Cond.methodLink RX4 193 yX3_isFarFrom, Cond.instanceMethod yX3_isFarFrom, Cond.selects RX3 yX3_isFarFrom yX3_isFarFrom, Cond.initialized RX3, Cond.code yX3_isFarFrom cX3_isFarFrom 2 (some .boolean), Cond.fieldLink RX3 25 "BuildingPoints$Subscription" "kept" "I", Cond.methodLink RX3 35 Lib.Math.abs.name, Cond.static Lib.Math.abs.name, Cond.initialized "java/lang/Math", Cond.code Lib.Math.abs.name Lib.Math.abs.code 1 (some .int), Cond.fieldLink RX3 13 "BuildingPoints$Subscription" "increment" "I", Cond.methodLink RX4 196 yX3_report, Cond.instanceMethod yX3_report]
def wsX4_pass_r4 : List Cond := [Cond.selects RX3 yX3_report yX3_report, Cond.code yX3_report cX3_report 2 none, Cond.fieldLink RX3 28 "BuildingPoints$Subscription" "reportCount" "I", Cond.methodLink RX4 206 yX4_endOldSubscriptions, Cond.instanceMethod yX4_endOldSubscriptions, Cond.selects RX4 yX4_endOldSubscriptions yX4_endOldSubscriptions, Cond.code yX4_endOldSubscriptions cX4_endOldSubscriptions 5 none, Cond.fieldLink RX4 212 "BuildingPoints$Subscription" "endTime" "I", Cond.methodLink RX4 209 yX4_followSchedules, Cond.instanceMethod yX4_followSchedules, Cond.selects RX4 yX4_followSchedules yX4_followSchedules, Cond.code yX4_followSchedules cX4_followSchedules 5 none, Cond.fieldLink RX4 23 "BuildingPoints" "schedules" "[LBuildingPoints$Schedule;", Cond.methodLink RX4 129 yX4_follow, Cond.instanceMethod yX4_follow, Cond.selects RX4 yX4_follow yX4_follow, Cond.code yX4_follow cX4_follow 3 none, Cond.fieldLink RX4 133 "BuildingPoints$Schedule" "toldLast" "I", Cond.fieldLink RX4 166 "BuildingPoints$Schedule" "point" "LBuildingPoints$Point;", Cond.fieldLink RX4 200 "BuildingPoints$Schedule" "priority" "I", Cond.methodLink RX4 140 yX2_toldAt, Cond.instanceMethod yX2_toldAt, Cond.selects RX2 yX2_toldAt yX2_toldAt, Cond.initialized RX2]
def wsX4_pass_r5 : List Cond := [Cond.code yX2_toldAt cX2_toldAt 4 (some .int), Cond.fieldLink RX2 26 "BuildingPoints$Schedule" "singleDays" "LBuildingPoints$Entries;", Cond.fieldLink RX2 22 "BuildingPoints$Schedule" "weekdays" "LBuildingPoints$Entries;", Cond.methodLink RX2 36 yX0_hasDay, Cond.instanceMethod yX0_hasDay, Cond.selects RX0 yX0_hasDay yX0_hasDay, Cond.initialized RX0, Cond.code yX0_hasDay cX0_hasDay 3 (some .boolean), Cond.fieldLink RX0 21 "BuildingPoints$Entries" "count" "I", Cond.fieldLink RX0 9 "BuildingPoints$Entries" "days" "[I", Cond.methodLink RX2 40 yX0_latest, Cond.instanceMethod yX0_latest, Cond.selects RX0 yX0_latest yX0_latest, Cond.code yX0_latest cX0_latest 6 (some .int), Cond.constant RX0 25 (-100000), Cond.fieldLink RX0 15 "BuildingPoints$Entries" "minutes" "[I", Cond.fieldLink RX0 18 "BuildingPoints$Entries" "told" "[I"]
def wsX4_pass : List Cond := .code yX4_pass cX4_pass 4 (some .int) :: ((wsX4_pass_r1 ++ (wsX4_pass_r2 ++ (wsX4_pass_r3 ++ (wsX4_pass_r4 ++ wsX4_pass_r5)))) ++ wsX40 ++ wsX10 ++ wsX30 ++ wsX20 ++ wsX00 ++ (vx_atS RX4 58 "java/lang/IllegalStateException" ["java/lang/RuntimeException", "java/lang/Exception"]).filter goodWord ++ (vx_atS RX4 156 "java/lang/IllegalArgumentException" ["java/lang/RuntimeException", "java/lang/Exception"]).filter goodWord)
def wsX4_clock : List Cond := .code yX4_clock cX4_clock 1 (some .int) :: ([.fieldLink RX4 79 "BuildingPoints" "now" "I"] ++ wsX40)
def wsX5_init : List Cond := .code yX5_init cX5_init 1 none :: ([.methodLink RX5 1 objectInit, .instanceMethod objectInit, .code objectInit ⟨#[0xb1]⟩ 1 none, .arrayClass .boolean, .fieldLink RX5 7 "BuildingPointsModel" "isSwitch" "[Z", .arrayClass .int, .fieldLink RX5 13 "BuildingPointsModel" "first" "[I", .fieldLink RX5 17 "BuildingPointsModel" "least" "[I", .fieldLink RX5 20 "BuildingPointsModel" "until" "[I", .fieldLink RX5 23 "BuildingPointsModel" "changed" "[I", .fieldLink RX5 26 "BuildingPointsModel" "commands" "[I", .fieldLink RX5 29 "BuildingPointsModel" "of" "[I", .fieldLink RX5 32 "BuildingPointsModel" "increment" "[I", .fieldLink RX5 35 "BuildingPointsModel" "over" "[I", .fieldLink RX5 38 "BuildingPointsModel" "ended" "[Z", .fieldLink RX5 41 "BuildingPointsModel" "sent" "[I", .fieldLink RX5 44 "BuildingPointsModel" "kept" "[I", .fieldLink RX5 47 "BuildingPointsModel" "to" "[I", .fieldLink RX5 50 "BuildingPointsModel" "at" "[I", .fieldLink RX5 53 "BuildingPointsModel" "last" "[I", .fieldLink RX5 56 "BuildingPointsModel" "entries" "[I", .fieldLink RX5 59 "BuildingPointsModel" "when" "[I", .fieldLink RX5 62 "BuildingPointsModel" "minute" "[I", .fieldLink RX5 65 "BuildingPointsModel" "tells" "[I"] ++ wsX50)
def wsX5_thrown : List Cond := .code yX5_thrown cX5_thrown 1 (some .int) :: ([.fieldLink RX5 68 "BuildingPointsModel" "thrown" "I"] ++ wsX50)
def wsX5_in : List Cond := .code yX5_in cX5_in 3 (some .boolean) :: ([])
def wsX5_goes : List Cond := .code yX5_goes cX5_goes 4 (some .boolean) :: ([.fieldLink RX5 68 "BuildingPointsModel" "thrown" "I"] ++ wsX50)
def wsX5_isPoint : List Cond := .code yX5_isPoint cX5_isPoint 2 (some .boolean) :: ([.fieldLink RX5 72 "BuildingPointsModel" "points" "I", .methodLink RX5 75 yX5_in, .static yX5_in, .initialized RX5, .code yX5_in cX5_in 3 (some .boolean)] ++ wsX50)
def wsX5_canHave : List Cond := .code yX5_canHave cX5_canHave 3 (some .boolean) :: ([.constant RX5 79 (-100000), .fieldLink RX5 7 "BuildingPointsModel" "isSwitch" "[Z", .methodLink RX5 75 yX5_in, .static yX5_in, .initialized RX5, .code yX5_in cX5_in 3 (some .boolean)] ++ wsX50)
def wsX5_adds : List Cond := .code yX5_adds cX5_adds 5 (some .int) :: ([.fieldLink RX5 13 "BuildingPointsModel" "first" "[I", .fieldLink RX5 72 "BuildingPointsModel" "points" "I", .fieldLink RX5 7 "BuildingPointsModel" "isSwitch" "[Z", .fieldLink RX5 17 "BuildingPointsModel" "least" "[I", .fieldLink RX5 26 "BuildingPointsModel" "commands" "[I", .constant RX5 79 (-100000)] ++ wsX50)
def wsX5_addMeasure : List Cond := .code yX5_addMeasure cX5_addMeasure 2 (some .int) :: ([.fieldLink RX5 72 "BuildingPointsModel" "points" "I", .methodLink RX5 75 yX5_in, .static yX5_in, .initialized RX5, .code yX5_in cX5_in 3 (some .boolean), .methodLink RX5 80 yX5_goes, .instanceMethod yX5_goes, .selects RX5 yX5_goes yX5_goes, .code yX5_goes cX5_goes 4 (some .boolean), .fieldLink RX5 68 "BuildingPointsModel" "thrown" "I", .methodLink RX5 84 yX5_adds, .instanceMethod yX5_adds, .selects RX5 yX5_adds yX5_adds, .code yX5_adds cX5_adds 5 (some .int), .fieldLink RX5 13 "BuildingPointsModel" "first" "[I", .fieldLink RX5 7 "BuildingPointsModel" "isSwitch" "[Z", .fieldLink RX5 17 "BuildingPointsModel" "least" "[I", .fieldLink RX5 26 "BuildingPointsModel" "commands" "[I", .constant RX5 79 (-100000)] ++ wsX50)
def wsX5_addSwitch : List Cond := .code yX5_addSwitch cX5_addSwitch 3 (some .int) :: ([.fieldLink RX5 72 "BuildingPointsModel" "points" "I", .methodLink RX5 75 yX5_in, .static yX5_in, .initialized RX5, .code yX5_in cX5_in 3 (some .boolean), .methodLink RX5 80 yX5_goes, .instanceMethod yX5_goes, .selects RX5 yX5_goes yX5_goes, .code yX5_goes cX5_goes 4 (some .boolean), .fieldLink RX5 68 "BuildingPointsModel" "thrown" "I", .methodLink RX5 84 yX5_adds, .instanceMethod yX5_adds, .selects RX5 yX5_adds yX5_adds, .code yX5_adds cX5_adds 5 (some .int), .fieldLink RX5 13 "BuildingPointsModel" "first" "[I", .fieldLink RX5 7 "BuildingPointsModel" "isSwitch" "[Z", .fieldLink RX5 17 "BuildingPointsModel" "least" "[I", .fieldLink RX5 26 "BuildingPointsModel" "commands" "[I", .constant RX5 79 (-100000)] ++ wsX50)
def wsX5_standingOf : List Cond := .code yX5_standingOf cX5_standingOf 4 (some .int) :: ([.fieldLink RX5 26 "BuildingPointsModel" "commands" "[I", .constant RX5 79 (-100000)] ++ wsX50)
def wsX5_valueOf : List Cond := .code yX5_valueOf cX5_valueOf 3 (some .int) :: ([.fieldLink RX5 13 "BuildingPointsModel" "first" "[I", .fieldLink RX5 26 "BuildingPointsModel" "commands" "[I", .methodLink RX5 88 yX5_standingOf, .instanceMethod yX5_standingOf, .selects RX5 yX5_standingOf yX5_standingOf, .initialized RX5, .code yX5_standingOf cX5_standingOf 4 (some .int), .constant RX5 79 (-100000)] ++ wsX50)
def wsX5_informs : List Cond := .code yX5_informs cX5_informs 5 none :: ([.fieldLink RX5 92 "BuildingPointsModel" "subscriptions" "I", .fieldLink RX5 44 "BuildingPointsModel" "kept" "[I", .fieldLink RX5 29 "BuildingPointsModel" "of" "[I", .fieldLink RX5 38 "BuildingPointsModel" "ended" "[Z", .fieldLink RX5 32 "BuildingPointsModel" "increment" "[I", .fieldLink RX5 41 "BuildingPointsModel" "sent" "[I", .fieldLink RX5 95 "BuildingPointsModel" "told" "I"] ++ wsX50)
def wsX5_sets_r1 : List Cond := [Cond.fieldLink RX5 26 "BuildingPointsModel" "commands" "[I", Cond.fieldLink RX5 23 "BuildingPointsModel" "changed" "[I", Cond.fieldLink RX5 17 "BuildingPointsModel" "least" "[I", Cond.fieldLink RX5 20 "BuildingPointsModel" "until" "[I", Cond.fieldLink RX5 101 "BuildingPointsModel" "clock" "I", Cond.methodLink RX5 98 yX5_valueOf, Cond.instanceMethod yX5_valueOf, Cond.selects RX5 yX5_valueOf yX5_valueOf, Cond.initialized RX5, Cond.code yX5_valueOf cX5_valueOf 3 (some .int), Cond.fieldLink RX5 13 "BuildingPointsModel" "first" "[I", Cond.methodLink RX5 88 yX5_standingOf, Cond.instanceMethod yX5_standingOf, Cond.selects RX5 yX5_standingOf yX5_standingOf, Cond.code yX5_standingOf cX5_standingOf 4 (some .int), Cond.constant RX5 79 (-100000), Cond.methodLink RX5 104 yX5_informs, Cond.instanceMethod yX5_informs, Cond.selects RX5 yX5_informs yX5_informs, Cond.code yX5_informs cX5_informs 5 none, Cond.fieldLink RX5 92 "BuildingPointsModel" "subscriptions" "I", Cond.fieldLink RX5 44 "BuildingPointsModel" "kept" "[I", Cond.fieldLink RX5 29 "BuildingPointsModel" "of" "[I", Cond.fieldLink RX5 38 "BuildingPointsModel" "ended" "[Z"]
def wsX5_sets_r2 : List Cond := [Cond.fieldLink RX5 32 "BuildingPointsModel" "increment" "[I", Cond.fieldLink RX5 41 "BuildingPointsModel" "sent" "[I", Cond.fieldLink RX5 95 "BuildingPointsModel" "told" "I"]
def wsX5_sets : List Cond := .code yX5_sets cX5_sets 6 none :: ((wsX5_sets_r1 ++ wsX5_sets_r2) ++ wsX50)
def wsX5_write_r1 : List Cond := [Cond.fieldLink RX5 20 "BuildingPointsModel" "until" "[I", Cond.methodLink RX5 108 yX5_isPoint, Cond.instanceMethod yX5_isPoint, Cond.selects RX5 yX5_isPoint yX5_isPoint, Cond.initialized RX5, Cond.code yX5_isPoint cX5_isPoint 2 (some .boolean), Cond.fieldLink RX5 72 "BuildingPointsModel" "points" "I", Cond.methodLink RX5 75 yX5_in, Cond.static yX5_in, Cond.code yX5_in cX5_in 3 (some .boolean), Cond.methodLink RX5 112 yX5_canHave, Cond.instanceMethod yX5_canHave, Cond.selects RX5 yX5_canHave yX5_canHave, Cond.code yX5_canHave cX5_canHave 3 (some .boolean), Cond.constant RX5 79 (-100000), Cond.fieldLink RX5 7 "BuildingPointsModel" "isSwitch" "[Z", Cond.methodLink RX5 80 yX5_goes, Cond.instanceMethod yX5_goes, Cond.selects RX5 yX5_goes yX5_goes, Cond.code yX5_goes cX5_goes 4 (some .boolean), Cond.fieldLink RX5 68 "BuildingPointsModel" "thrown" "I", Cond.methodLink RX5 116 yX5_sets, Cond.instanceMethod yX5_sets, Cond.selects RX5 yX5_sets yX5_sets]
def wsX5_write_r2 : List Cond := [Cond.code yX5_sets cX5_sets 6 none, Cond.fieldLink RX5 26 "BuildingPointsModel" "commands" "[I", Cond.fieldLink RX5 23 "BuildingPointsModel" "changed" "[I", Cond.fieldLink RX5 17 "BuildingPointsModel" "least" "[I", Cond.fieldLink RX5 101 "BuildingPointsModel" "clock" "I", Cond.methodLink RX5 98 yX5_valueOf, Cond.instanceMethod yX5_valueOf, Cond.selects RX5 yX5_valueOf yX5_valueOf, Cond.code yX5_valueOf cX5_valueOf 3 (some .int), Cond.fieldLink RX5 13 "BuildingPointsModel" "first" "[I", Cond.methodLink RX5 88 yX5_standingOf, Cond.instanceMethod yX5_standingOf, Cond.selects RX5 yX5_standingOf yX5_standingOf, Cond.code yX5_standingOf cX5_standingOf 4 (some .int), Cond.methodLink RX5 104 yX5_informs, Cond.instanceMethod yX5_informs, Cond.selects RX5 yX5_informs yX5_informs, Cond.code yX5_informs cX5_informs 5 none, Cond.fieldLink RX5 92 "BuildingPointsModel" "subscriptions" "I", Cond.fieldLink RX5 44 "BuildingPointsModel" "kept" "[I", Cond.fieldLink RX5 29 "BuildingPointsModel" "of" "[I", Cond.fieldLink RX5 38 "BuildingPointsModel" "ended" "[Z", Cond.fieldLink RX5 32 "BuildingPointsModel" "increment" "[I", Cond.fieldLink RX5 41 "BuildingPointsModel" "sent" "[I"]
def wsX5_write_r3 : List Cond := [Cond.fieldLink RX5 95 "BuildingPointsModel" "told" "I"]
def wsX5_write : List Cond := .code yX5_write cX5_write 6 (some .int) :: ((wsX5_write_r1 ++ (wsX5_write_r2 ++ wsX5_write_r3)) ++ wsX50)
def wsX5_value_r1 : List Cond := [Cond.methodLink RX5 108 yX5_isPoint, Cond.instanceMethod yX5_isPoint, Cond.selects RX5 yX5_isPoint yX5_isPoint, Cond.initialized RX5, Cond.code yX5_isPoint cX5_isPoint 2 (some .boolean), Cond.fieldLink RX5 72 "BuildingPointsModel" "points" "I", Cond.methodLink RX5 75 yX5_in, Cond.static yX5_in, Cond.code yX5_in cX5_in 3 (some .boolean), Cond.methodLink RX5 80 yX5_goes, Cond.instanceMethod yX5_goes, Cond.selects RX5 yX5_goes yX5_goes, Cond.code yX5_goes cX5_goes 4 (some .boolean), Cond.fieldLink RX5 68 "BuildingPointsModel" "thrown" "I", Cond.methodLink RX5 98 yX5_valueOf, Cond.instanceMethod yX5_valueOf, Cond.selects RX5 yX5_valueOf yX5_valueOf, Cond.code yX5_valueOf cX5_valueOf 3 (some .int), Cond.fieldLink RX5 13 "BuildingPointsModel" "first" "[I", Cond.fieldLink RX5 26 "BuildingPointsModel" "commands" "[I", Cond.methodLink RX5 88 yX5_standingOf, Cond.instanceMethod yX5_standingOf, Cond.selects RX5 yX5_standingOf yX5_standingOf, Cond.code yX5_standingOf cX5_standingOf 4 (some .int)]
def wsX5_value_r2 : List Cond := [Cond.constant RX5 79 (-100000)]
def wsX5_value : List Cond := .code yX5_value cX5_value 2 (some .int) :: ((wsX5_value_r1 ++ wsX5_value_r2) ++ wsX50)
def wsX5_command : List Cond := .code yX5_command cX5_command 3 (some .int) :: ([.fieldLink RX5 26 "BuildingPointsModel" "commands" "[I", .methodLink RX5 108 yX5_isPoint, .instanceMethod yX5_isPoint, .selects RX5 yX5_isPoint yX5_isPoint, .initialized RX5, .code yX5_isPoint cX5_isPoint 2 (some .boolean), .fieldLink RX5 72 "BuildingPointsModel" "points" "I", .methodLink RX5 75 yX5_in, .static yX5_in, .code yX5_in cX5_in 3 (some .boolean), .methodLink RX5 80 yX5_goes, .instanceMethod yX5_goes, .selects RX5 yX5_goes yX5_goes, .code yX5_goes cX5_goes 4 (some .boolean), .fieldLink RX5 68 "BuildingPointsModel" "thrown" "I"] ++ wsX50)
def wsX5_standing : List Cond := .code yX5_standing cX5_standing 2 (some .int) :: ([.methodLink RX5 108 yX5_isPoint, .instanceMethod yX5_isPoint, .selects RX5 yX5_isPoint yX5_isPoint, .initialized RX5, .code yX5_isPoint cX5_isPoint 2 (some .boolean), .fieldLink RX5 72 "BuildingPointsModel" "points" "I", .methodLink RX5 75 yX5_in, .static yX5_in, .code yX5_in cX5_in 3 (some .boolean), .methodLink RX5 80 yX5_goes, .instanceMethod yX5_goes, .selects RX5 yX5_goes yX5_goes, .code yX5_goes cX5_goes 4 (some .boolean), .fieldLink RX5 68 "BuildingPointsModel" "thrown" "I", .methodLink RX5 88 yX5_standingOf, .instanceMethod yX5_standingOf, .selects RX5 yX5_standingOf yX5_standingOf, .code yX5_standingOf cX5_standingOf 4 (some .int), .fieldLink RX5 26 "BuildingPointsModel" "commands" "[I", .constant RX5 79 (-100000)] ++ wsX50)
def wsX5_held : List Cond := .code yX5_held cX5_held 2 (some .int) :: ([.fieldLink RX5 20 "BuildingPointsModel" "until" "[I", .fieldLink RX5 101 "BuildingPointsModel" "clock" "I", .methodLink RX5 108 yX5_isPoint, .instanceMethod yX5_isPoint, .selects RX5 yX5_isPoint yX5_isPoint, .initialized RX5, .code yX5_isPoint cX5_isPoint 2 (some .boolean), .fieldLink RX5 72 "BuildingPointsModel" "points" "I", .methodLink RX5 75 yX5_in, .static yX5_in, .code yX5_in cX5_in 3 (some .boolean), .methodLink RX5 80 yX5_goes, .instanceMethod yX5_goes, .selects RX5 yX5_goes yX5_goes, .code yX5_goes cX5_goes 4 (some .boolean), .fieldLink RX5 68 "BuildingPointsModel" "thrown" "I"] ++ wsX50)
def wsX5_changes : List Cond := .code yX5_changes cX5_changes 2 (some .int) :: ([.fieldLink RX5 23 "BuildingPointsModel" "changed" "[I", .methodLink RX5 108 yX5_isPoint, .instanceMethod yX5_isPoint, .selects RX5 yX5_isPoint yX5_isPoint, .initialized RX5, .code yX5_isPoint cX5_isPoint 2 (some .boolean), .fieldLink RX5 72 "BuildingPointsModel" "points" "I", .methodLink RX5 75 yX5_in, .static yX5_in, .code yX5_in cX5_in 3 (some .boolean), .methodLink RX5 80 yX5_goes, .instanceMethod yX5_goes, .selects RX5 yX5_goes yX5_goes, .code yX5_goes cX5_goes 4 (some .boolean), .fieldLink RX5 68 "BuildingPointsModel" "thrown" "I"] ++ wsX50)
def wsX5_subscribe_r1 : List Cond := [Cond.constant RX5 120 (100000), Cond.fieldLink RX5 92 "BuildingPointsModel" "subscriptions" "I", Cond.fieldLink RX5 29 "BuildingPointsModel" "of" "[I", Cond.fieldLink RX5 32 "BuildingPointsModel" "increment" "[I", Cond.fieldLink RX5 35 "BuildingPointsModel" "over" "[I", Cond.fieldLink RX5 101 "BuildingPointsModel" "clock" "I", Cond.fieldLink RX5 44 "BuildingPointsModel" "kept" "[I", Cond.methodLink RX5 108 yX5_isPoint, Cond.instanceMethod yX5_isPoint, Cond.selects RX5 yX5_isPoint yX5_isPoint, Cond.initialized RX5, Cond.code yX5_isPoint cX5_isPoint 2 (some .boolean), Cond.fieldLink RX5 72 "BuildingPointsModel" "points" "I", Cond.methodLink RX5 75 yX5_in, Cond.static yX5_in, Cond.code yX5_in cX5_in 3 (some .boolean), Cond.methodLink RX5 80 yX5_goes, Cond.instanceMethod yX5_goes, Cond.selects RX5 yX5_goes yX5_goes, Cond.code yX5_goes cX5_goes 4 (some .boolean), Cond.fieldLink RX5 68 "BuildingPointsModel" "thrown" "I", Cond.methodLink RX5 98 yX5_valueOf, Cond.instanceMethod yX5_valueOf, Cond.selects RX5 yX5_valueOf yX5_valueOf]
def wsX5_subscribe_r2 : List Cond := [Cond.code yX5_valueOf cX5_valueOf 3 (some .int), Cond.fieldLink RX5 13 "BuildingPointsModel" "first" "[I", Cond.fieldLink RX5 26 "BuildingPointsModel" "commands" "[I", Cond.methodLink RX5 88 yX5_standingOf, Cond.instanceMethod yX5_standingOf, Cond.selects RX5 yX5_standingOf yX5_standingOf, Cond.code yX5_standingOf cX5_standingOf 4 (some .int), Cond.constant RX5 79 (-100000)]
def wsX5_subscribe : List Cond := .code yX5_subscribe cX5_subscribe 5 (some .int) :: ((wsX5_subscribe_r1 ++ wsX5_subscribe_r2) ++ wsX50)
def wsX5_isSubscription : List Cond := .code yX5_isSubscription cX5_isSubscription 2 (some .boolean) :: ([.fieldLink RX5 92 "BuildingPointsModel" "subscriptions" "I", .methodLink RX5 75 yX5_in, .static yX5_in, .initialized RX5, .code yX5_in cX5_in 3 (some .boolean)] ++ wsX50)
def wsX5_end : List Cond := .code yX5_end cX5_end 3 none :: ([.fieldLink RX5 38 "BuildingPointsModel" "ended" "[Z", .methodLink RX5 121 yX5_isSubscription, .instanceMethod yX5_isSubscription, .selects RX5 yX5_isSubscription yX5_isSubscription, .initialized RX5, .code yX5_isSubscription cX5_isSubscription 2 (some .boolean), .fieldLink RX5 92 "BuildingPointsModel" "subscriptions" "I", .methodLink RX5 75 yX5_in, .static yX5_in, .code yX5_in cX5_in 3 (some .boolean), .methodLink RX5 80 yX5_goes, .instanceMethod yX5_goes, .selects RX5 yX5_goes yX5_goes, .code yX5_goes cX5_goes 4 (some .boolean), .fieldLink RX5 68 "BuildingPointsModel" "thrown" "I"] ++ wsX50)
def wsX5_goesOn : List Cond := .code yX5_goesOn cX5_goesOn 2 (some .boolean) :: ([.fieldLink RX5 38 "BuildingPointsModel" "ended" "[Z", .methodLink RX5 121 yX5_isSubscription, .instanceMethod yX5_isSubscription, .selects RX5 yX5_isSubscription yX5_isSubscription, .initialized RX5, .code yX5_isSubscription cX5_isSubscription 2 (some .boolean), .fieldLink RX5 92 "BuildingPointsModel" "subscriptions" "I", .methodLink RX5 75 yX5_in, .static yX5_in, .code yX5_in cX5_in 3 (some .boolean), .methodLink RX5 80 yX5_goes, .instanceMethod yX5_goes, .selects RX5 yX5_goes yX5_goes, .code yX5_goes cX5_goes 4 (some .boolean), .fieldLink RX5 68 "BuildingPointsModel" "thrown" "I"] ++ wsX50)
def wsX5_reports : List Cond := .code yX5_reports cX5_reports 2 (some .int) :: ([.fieldLink RX5 41 "BuildingPointsModel" "sent" "[I", .methodLink RX5 121 yX5_isSubscription, .instanceMethod yX5_isSubscription, .selects RX5 yX5_isSubscription yX5_isSubscription, .initialized RX5, .code yX5_isSubscription cX5_isSubscription 2 (some .boolean), .fieldLink RX5 92 "BuildingPointsModel" "subscriptions" "I", .methodLink RX5 75 yX5_in, .static yX5_in, .code yX5_in cX5_in 3 (some .boolean), .methodLink RX5 80 yX5_goes, .instanceMethod yX5_goes, .selects RX5 yX5_goes yX5_goes, .code yX5_goes cX5_goes 4 (some .boolean), .fieldLink RX5 68 "BuildingPointsModel" "thrown" "I"] ++ wsX50)
def wsX5_reported : List Cond := .code yX5_reported cX5_reported 2 (some .int) :: ([.fieldLink RX5 44 "BuildingPointsModel" "kept" "[I", .methodLink RX5 121 yX5_isSubscription, .instanceMethod yX5_isSubscription, .selects RX5 yX5_isSubscription yX5_isSubscription, .initialized RX5, .code yX5_isSubscription cX5_isSubscription 2 (some .boolean), .fieldLink RX5 92 "BuildingPointsModel" "subscriptions" "I", .methodLink RX5 75 yX5_in, .static yX5_in, .code yX5_in cX5_in 3 (some .boolean), .methodLink RX5 80 yX5_goes, .instanceMethod yX5_goes, .selects RX5 yX5_goes yX5_goes, .code yX5_goes cX5_goes 4 (some .boolean), .fieldLink RX5 68 "BuildingPointsModel" "thrown" "I"] ++ wsX50)
def wsX5_isSchedule : List Cond := .code yX5_isSchedule cX5_isSchedule 2 (some .boolean) :: ([.fieldLink RX5 124 "BuildingPointsModel" "schedules" "I", .methodLink RX5 75 yX5_in, .static yX5_in, .initialized RX5, .code yX5_in cX5_in 3 (some .boolean)] ++ wsX50)
def wsX5_addSchedule : List Cond := .code yX5_addSchedule cX5_addSchedule 3 (some .int) :: ([.fieldLink RX5 124 "BuildingPointsModel" "schedules" "I", .fieldLink RX5 47 "BuildingPointsModel" "to" "[I", .fieldLink RX5 50 "BuildingPointsModel" "at" "[I", .fieldLink RX5 53 "BuildingPointsModel" "last" "[I", .constant RX5 79 (-100000), .methodLink RX5 108 yX5_isPoint, .instanceMethod yX5_isPoint, .selects RX5 yX5_isPoint yX5_isPoint, .initialized RX5, .code yX5_isPoint cX5_isPoint 2 (some .boolean), .fieldLink RX5 72 "BuildingPointsModel" "points" "I", .methodLink RX5 75 yX5_in, .static yX5_in, .code yX5_in cX5_in 3 (some .boolean), .methodLink RX5 80 yX5_goes, .instanceMethod yX5_goes, .selects RX5 yX5_goes yX5_goes, .code yX5_goes cX5_goes 4 (some .boolean), .fieldLink RX5 68 "BuildingPointsModel" "thrown" "I"] ++ wsX50)
def wsX5_toldBy : List Cond := .code yX5_toldBy cX5_toldBy 10 (some .int) :: ([.fieldLink RX5 56 "BuildingPointsModel" "entries" "[I", .fieldLink RX5 59 "BuildingPointsModel" "when" "[I", .constant RX5 79 (-100000), .fieldLink RX5 62 "BuildingPointsModel" "minute" "[I", .fieldLink RX5 65 "BuildingPointsModel" "tells" "[I"] ++ wsX50)
def wsX5_obeys_r1 : List Cond := [Cond.fieldLink RX5 101 "BuildingPointsModel" "clock" "I", Cond.fieldLink RX5 53 "BuildingPointsModel" "last" "[I", Cond.fieldLink RX5 47 "BuildingPointsModel" "to" "[I", Cond.fieldLink RX5 50 "BuildingPointsModel" "at" "[I", Cond.methodLink RX5 127 yX5_toldBy, Cond.instanceMethod yX5_toldBy, Cond.selects RX5 yX5_toldBy yX5_toldBy, Cond.initialized RX5, Cond.code yX5_toldBy cX5_toldBy 10 (some .int), Cond.fieldLink RX5 56 "BuildingPointsModel" "entries" "[I", Cond.fieldLink RX5 59 "BuildingPointsModel" "when" "[I", Cond.constant RX5 79 (-100000), Cond.fieldLink RX5 62 "BuildingPointsModel" "minute" "[I", Cond.fieldLink RX5 65 "BuildingPointsModel" "tells" "[I", Cond.methodLink RX5 116 yX5_sets, Cond.instanceMethod yX5_sets, Cond.selects RX5 yX5_sets yX5_sets, Cond.code yX5_sets cX5_sets 6 none, Cond.fieldLink RX5 26 "BuildingPointsModel" "commands" "[I", Cond.fieldLink RX5 23 "BuildingPointsModel" "changed" "[I", Cond.fieldLink RX5 17 "BuildingPointsModel" "least" "[I", Cond.fieldLink RX5 20 "BuildingPointsModel" "until" "[I", Cond.methodLink RX5 98 yX5_valueOf, Cond.instanceMethod yX5_valueOf]
def wsX5_obeys_r2 : List Cond := [Cond.selects RX5 yX5_valueOf yX5_valueOf, Cond.code yX5_valueOf cX5_valueOf 3 (some .int), Cond.fieldLink RX5 13 "BuildingPointsModel" "first" "[I", Cond.methodLink RX5 88 yX5_standingOf, Cond.instanceMethod yX5_standingOf, Cond.selects RX5 yX5_standingOf yX5_standingOf, Cond.code yX5_standingOf cX5_standingOf 4 (some .int), Cond.methodLink RX5 104 yX5_informs, Cond.instanceMethod yX5_informs, Cond.selects RX5 yX5_informs yX5_informs, Cond.code yX5_informs cX5_informs 5 none, Cond.fieldLink RX5 92 "BuildingPointsModel" "subscriptions" "I", Cond.fieldLink RX5 44 "BuildingPointsModel" "kept" "[I", Cond.fieldLink RX5 29 "BuildingPointsModel" "of" "[I", Cond.fieldLink RX5 38 "BuildingPointsModel" "ended" "[Z", Cond.fieldLink RX5 32 "BuildingPointsModel" "increment" "[I", Cond.fieldLink RX5 41 "BuildingPointsModel" "sent" "[I", Cond.fieldLink RX5 95 "BuildingPointsModel" "told" "I"]
def wsX5_obeys : List Cond := .code yX5_obeys cX5_obeys 3 none :: ((wsX5_obeys_r1 ++ wsX5_obeys_r2) ++ wsX50)
def wsX5_enters_r1 : List Cond := [Cond.fieldLink RX5 56 "BuildingPointsModel" "entries" "[I", Cond.fieldLink RX5 59 "BuildingPointsModel" "when" "[I", Cond.fieldLink RX5 62 "BuildingPointsModel" "minute" "[I", Cond.fieldLink RX5 65 "BuildingPointsModel" "tells" "[I", Cond.fieldLink RX5 53 "BuildingPointsModel" "last" "[I", Cond.methodLink RX5 131 yX5_obeys, Cond.instanceMethod yX5_obeys, Cond.selects RX5 yX5_obeys yX5_obeys, Cond.initialized RX5, Cond.code yX5_obeys cX5_obeys 3 none, Cond.fieldLink RX5 101 "BuildingPointsModel" "clock" "I", Cond.fieldLink RX5 47 "BuildingPointsModel" "to" "[I", Cond.fieldLink RX5 50 "BuildingPointsModel" "at" "[I", Cond.methodLink RX5 127 yX5_toldBy, Cond.instanceMethod yX5_toldBy, Cond.selects RX5 yX5_toldBy yX5_toldBy, Cond.code yX5_toldBy cX5_toldBy 10 (some .int), Cond.constant RX5 79 (-100000), Cond.methodLink RX5 116 yX5_sets, Cond.instanceMethod yX5_sets, Cond.selects RX5 yX5_sets yX5_sets, Cond.code yX5_sets cX5_sets 6 none, Cond.fieldLink RX5 26 "BuildingPointsModel" "commands" "[I", Cond.fieldLink RX5 23 "BuildingPointsModel" "changed" "[I"]
def wsX5_enters_r2 : List Cond := [Cond.fieldLink RX5 17 "BuildingPointsModel" "least" "[I", Cond.fieldLink RX5 20 "BuildingPointsModel" "until" "[I", Cond.methodLink RX5 98 yX5_valueOf, Cond.instanceMethod yX5_valueOf, Cond.selects RX5 yX5_valueOf yX5_valueOf, Cond.code yX5_valueOf cX5_valueOf 3 (some .int), Cond.fieldLink RX5 13 "BuildingPointsModel" "first" "[I", Cond.methodLink RX5 88 yX5_standingOf, Cond.instanceMethod yX5_standingOf, Cond.selects RX5 yX5_standingOf yX5_standingOf, Cond.code yX5_standingOf cX5_standingOf 4 (some .int), Cond.methodLink RX5 104 yX5_informs, Cond.instanceMethod yX5_informs, Cond.selects RX5 yX5_informs yX5_informs, Cond.code yX5_informs cX5_informs 5 none, Cond.fieldLink RX5 92 "BuildingPointsModel" "subscriptions" "I", Cond.fieldLink RX5 44 "BuildingPointsModel" "kept" "[I", Cond.fieldLink RX5 29 "BuildingPointsModel" "of" "[I", Cond.fieldLink RX5 38 "BuildingPointsModel" "ended" "[Z", Cond.fieldLink RX5 32 "BuildingPointsModel" "increment" "[I", Cond.fieldLink RX5 41 "BuildingPointsModel" "sent" "[I", Cond.fieldLink RX5 95 "BuildingPointsModel" "told" "I"]
def wsX5_enters : List Cond := .code yX5_enters cX5_enters 6 (some .int) :: ((wsX5_enters_r1 ++ wsX5_enters_r2) ++ wsX50)
def wsX5_weekly_r1 : List Cond := [Cond.fieldLink RX5 47 "BuildingPointsModel" "to" "[I", Cond.fieldLink RX5 56 "BuildingPointsModel" "entries" "[I", Cond.methodLink RX5 135 yX5_isSchedule, Cond.instanceMethod yX5_isSchedule, Cond.selects RX5 yX5_isSchedule yX5_isSchedule, Cond.initialized RX5, Cond.code yX5_isSchedule cX5_isSchedule 2 (some .boolean), Cond.fieldLink RX5 124 "BuildingPointsModel" "schedules" "I", Cond.methodLink RX5 75 yX5_in, Cond.static yX5_in, Cond.code yX5_in cX5_in 3 (some .boolean), Cond.methodLink RX5 112 yX5_canHave, Cond.instanceMethod yX5_canHave, Cond.selects RX5 yX5_canHave yX5_canHave, Cond.code yX5_canHave cX5_canHave 3 (some .boolean), Cond.constant RX5 79 (-100000), Cond.fieldLink RX5 7 "BuildingPointsModel" "isSwitch" "[Z", Cond.methodLink RX5 80 yX5_goes, Cond.instanceMethod yX5_goes, Cond.selects RX5 yX5_goes yX5_goes, Cond.code yX5_goes cX5_goes 4 (some .boolean), Cond.fieldLink RX5 68 "BuildingPointsModel" "thrown" "I", Cond.methodLink RX5 138 yX5_enters, Cond.instanceMethod yX5_enters]
def wsX5_weekly_r2 : List Cond := [Cond.selects RX5 yX5_enters yX5_enters, Cond.code yX5_enters cX5_enters 6 (some .int), Cond.fieldLink RX5 59 "BuildingPointsModel" "when" "[I", Cond.fieldLink RX5 62 "BuildingPointsModel" "minute" "[I", Cond.fieldLink RX5 65 "BuildingPointsModel" "tells" "[I", Cond.fieldLink RX5 53 "BuildingPointsModel" "last" "[I", Cond.methodLink RX5 131 yX5_obeys, Cond.instanceMethod yX5_obeys, Cond.selects RX5 yX5_obeys yX5_obeys, Cond.code yX5_obeys cX5_obeys 3 none, Cond.fieldLink RX5 101 "BuildingPointsModel" "clock" "I", Cond.fieldLink RX5 50 "BuildingPointsModel" "at" "[I", Cond.methodLink RX5 127 yX5_toldBy, Cond.instanceMethod yX5_toldBy, Cond.selects RX5 yX5_toldBy yX5_toldBy, Cond.code yX5_toldBy cX5_toldBy 10 (some .int), Cond.methodLink RX5 116 yX5_sets, Cond.instanceMethod yX5_sets, Cond.selects RX5 yX5_sets yX5_sets, Cond.code yX5_sets cX5_sets 6 none, Cond.fieldLink RX5 26 "BuildingPointsModel" "commands" "[I", Cond.fieldLink RX5 23 "BuildingPointsModel" "changed" "[I", Cond.fieldLink RX5 17 "BuildingPointsModel" "least" "[I", Cond.fieldLink RX5 20 "BuildingPointsModel" "until" "[I"]
def wsX5_weekly_r3 : List Cond := [Cond.methodLink RX5 98 yX5_valueOf, Cond.instanceMethod yX5_valueOf, Cond.selects RX5 yX5_valueOf yX5_valueOf, Cond.code yX5_valueOf cX5_valueOf 3 (some .int), Cond.fieldLink RX5 13 "BuildingPointsModel" "first" "[I", Cond.methodLink RX5 88 yX5_standingOf, Cond.instanceMethod yX5_standingOf, Cond.selects RX5 yX5_standingOf yX5_standingOf, Cond.code yX5_standingOf cX5_standingOf 4 (some .int), Cond.methodLink RX5 104 yX5_informs, Cond.instanceMethod yX5_informs, Cond.selects RX5 yX5_informs yX5_informs, Cond.code yX5_informs cX5_informs 5 none, Cond.fieldLink RX5 92 "BuildingPointsModel" "subscriptions" "I", Cond.fieldLink RX5 44 "BuildingPointsModel" "kept" "[I", Cond.fieldLink RX5 29 "BuildingPointsModel" "of" "[I", Cond.fieldLink RX5 38 "BuildingPointsModel" "ended" "[Z", Cond.fieldLink RX5 32 "BuildingPointsModel" "increment" "[I", Cond.fieldLink RX5 41 "BuildingPointsModel" "sent" "[I", Cond.fieldLink RX5 95 "BuildingPointsModel" "told" "I"]
def wsX5_weekly : List Cond := .code yX5_weekly cX5_weekly 7 (some .int) :: ((wsX5_weekly_r1 ++ (wsX5_weekly_r2 ++ wsX5_weekly_r3)) ++ wsX50)
def wsX5_once_r1 : List Cond := [Cond.fieldLink RX5 47 "BuildingPointsModel" "to" "[I", Cond.fieldLink RX5 56 "BuildingPointsModel" "entries" "[I", Cond.methodLink RX5 135 yX5_isSchedule, Cond.instanceMethod yX5_isSchedule, Cond.selects RX5 yX5_isSchedule yX5_isSchedule, Cond.initialized RX5, Cond.code yX5_isSchedule cX5_isSchedule 2 (some .boolean), Cond.fieldLink RX5 124 "BuildingPointsModel" "schedules" "I", Cond.methodLink RX5 75 yX5_in, Cond.static yX5_in, Cond.code yX5_in cX5_in 3 (some .boolean), Cond.methodLink RX5 112 yX5_canHave, Cond.instanceMethod yX5_canHave, Cond.selects RX5 yX5_canHave yX5_canHave, Cond.code yX5_canHave cX5_canHave 3 (some .boolean), Cond.constant RX5 79 (-100000), Cond.fieldLink RX5 7 "BuildingPointsModel" "isSwitch" "[Z", Cond.methodLink RX5 80 yX5_goes, Cond.instanceMethod yX5_goes, Cond.selects RX5 yX5_goes yX5_goes, Cond.code yX5_goes cX5_goes 4 (some .boolean), Cond.fieldLink RX5 68 "BuildingPointsModel" "thrown" "I", Cond.methodLink RX5 138 yX5_enters, Cond.instanceMethod yX5_enters]
def wsX5_once_r2 : List Cond := [Cond.selects RX5 yX5_enters yX5_enters, Cond.code yX5_enters cX5_enters 6 (some .int), Cond.fieldLink RX5 59 "BuildingPointsModel" "when" "[I", Cond.fieldLink RX5 62 "BuildingPointsModel" "minute" "[I", Cond.fieldLink RX5 65 "BuildingPointsModel" "tells" "[I", Cond.fieldLink RX5 53 "BuildingPointsModel" "last" "[I", Cond.methodLink RX5 131 yX5_obeys, Cond.instanceMethod yX5_obeys, Cond.selects RX5 yX5_obeys yX5_obeys, Cond.code yX5_obeys cX5_obeys 3 none, Cond.fieldLink RX5 101 "BuildingPointsModel" "clock" "I", Cond.fieldLink RX5 50 "BuildingPointsModel" "at" "[I", Cond.methodLink RX5 127 yX5_toldBy, Cond.instanceMethod yX5_toldBy, Cond.selects RX5 yX5_toldBy yX5_toldBy, Cond.code yX5_toldBy cX5_toldBy 10 (some .int), Cond.methodLink RX5 116 yX5_sets, Cond.instanceMethod yX5_sets, Cond.selects RX5 yX5_sets yX5_sets, Cond.code yX5_sets cX5_sets 6 none, Cond.fieldLink RX5 26 "BuildingPointsModel" "commands" "[I", Cond.fieldLink RX5 23 "BuildingPointsModel" "changed" "[I", Cond.fieldLink RX5 17 "BuildingPointsModel" "least" "[I", Cond.fieldLink RX5 20 "BuildingPointsModel" "until" "[I"]
def wsX5_once_r3 : List Cond := [Cond.methodLink RX5 98 yX5_valueOf, Cond.instanceMethod yX5_valueOf, Cond.selects RX5 yX5_valueOf yX5_valueOf, Cond.code yX5_valueOf cX5_valueOf 3 (some .int), Cond.fieldLink RX5 13 "BuildingPointsModel" "first" "[I", Cond.methodLink RX5 88 yX5_standingOf, Cond.instanceMethod yX5_standingOf, Cond.selects RX5 yX5_standingOf yX5_standingOf, Cond.code yX5_standingOf cX5_standingOf 4 (some .int), Cond.methodLink RX5 104 yX5_informs, Cond.instanceMethod yX5_informs, Cond.selects RX5 yX5_informs yX5_informs, Cond.code yX5_informs cX5_informs 5 none, Cond.fieldLink RX5 92 "BuildingPointsModel" "subscriptions" "I", Cond.fieldLink RX5 44 "BuildingPointsModel" "kept" "[I", Cond.fieldLink RX5 29 "BuildingPointsModel" "of" "[I", Cond.fieldLink RX5 38 "BuildingPointsModel" "ended" "[Z", Cond.fieldLink RX5 32 "BuildingPointsModel" "increment" "[I", Cond.fieldLink RX5 41 "BuildingPointsModel" "sent" "[I", Cond.fieldLink RX5 95 "BuildingPointsModel" "told" "I"]
def wsX5_once : List Cond := .code yX5_once cX5_once 7 (some .int) :: ((wsX5_once_r1 ++ (wsX5_once_r2 ++ wsX5_once_r3)) ++ wsX50)
def wsX5_tells : List Cond := .code yX5_tells cX5_tells 3 (some .int) :: ([.constant RX5 142 (1000000), .methodLink RX5 135 yX5_isSchedule, .instanceMethod yX5_isSchedule, .selects RX5 yX5_isSchedule yX5_isSchedule, .initialized RX5, .code yX5_isSchedule cX5_isSchedule 2 (some .boolean), .fieldLink RX5 124 "BuildingPointsModel" "schedules" "I", .methodLink RX5 75 yX5_in, .static yX5_in, .code yX5_in cX5_in 3 (some .boolean), .methodLink RX5 80 yX5_goes, .instanceMethod yX5_goes, .selects RX5 yX5_goes yX5_goes, .code yX5_goes cX5_goes 4 (some .boolean), .fieldLink RX5 68 "BuildingPointsModel" "thrown" "I", .methodLink RX5 127 yX5_toldBy, .instanceMethod yX5_toldBy, .selects RX5 yX5_toldBy yX5_toldBy, .code yX5_toldBy cX5_toldBy 10 (some .int), .fieldLink RX5 56 "BuildingPointsModel" "entries" "[I", .fieldLink RX5 59 "BuildingPointsModel" "when" "[I", .constant RX5 79 (-100000), .fieldLink RX5 62 "BuildingPointsModel" "minute" "[I", .fieldLink RX5 65 "BuildingPointsModel" "tells" "[I"] ++ wsX50)
def wsX5_minutes_r1 : List Cond := [Cond.fieldLink RX5 101 "BuildingPointsModel" "clock" "I", Cond.fieldLink RX5 72 "BuildingPointsModel" "points" "I", Cond.fieldLink RX5 20 "BuildingPointsModel" "until" "[I", Cond.constant RX5 79 (-100000), Cond.fieldLink RX5 92 "BuildingPointsModel" "subscriptions" "I", Cond.fieldLink RX5 38 "BuildingPointsModel" "ended" "[Z", Cond.fieldLink RX5 35 "BuildingPointsModel" "over" "[I", Cond.fieldLink RX5 124 "BuildingPointsModel" "schedules" "I", Cond.methodLink RX5 116 yX5_sets, Cond.instanceMethod yX5_sets, Cond.selects RX5 yX5_sets yX5_sets, Cond.initialized RX5, Cond.code yX5_sets cX5_sets 6 none, Cond.fieldLink RX5 26 "BuildingPointsModel" "commands" "[I", Cond.fieldLink RX5 23 "BuildingPointsModel" "changed" "[I", Cond.fieldLink RX5 17 "BuildingPointsModel" "least" "[I", Cond.methodLink RX5 98 yX5_valueOf, Cond.instanceMethod yX5_valueOf, Cond.selects RX5 yX5_valueOf yX5_valueOf, Cond.code yX5_valueOf cX5_valueOf 3 (some .int), Cond.fieldLink RX5 13 "BuildingPointsModel" "first" "[I", Cond.methodLink RX5 88 yX5_standingOf, Cond.instanceMethod yX5_standingOf, Cond.selects RX5 yX5_standingOf yX5_standingOf]
def wsX5_minutes_r2 : List Cond := [Cond.code yX5_standingOf cX5_standingOf 4 (some .int), Cond.methodLink RX5 104 yX5_informs, Cond.instanceMethod yX5_informs, Cond.selects RX5 yX5_informs yX5_informs, Cond.code yX5_informs cX5_informs 5 none, Cond.fieldLink RX5 44 "BuildingPointsModel" "kept" "[I", Cond.fieldLink RX5 29 "BuildingPointsModel" "of" "[I", Cond.fieldLink RX5 32 "BuildingPointsModel" "increment" "[I", Cond.fieldLink RX5 41 "BuildingPointsModel" "sent" "[I", Cond.fieldLink RX5 95 "BuildingPointsModel" "told" "I", Cond.methodLink RX5 131 yX5_obeys, Cond.instanceMethod yX5_obeys, Cond.selects RX5 yX5_obeys yX5_obeys, Cond.code yX5_obeys cX5_obeys 3 none, Cond.fieldLink RX5 53 "BuildingPointsModel" "last" "[I", Cond.fieldLink RX5 47 "BuildingPointsModel" "to" "[I", Cond.fieldLink RX5 50 "BuildingPointsModel" "at" "[I", Cond.methodLink RX5 127 yX5_toldBy, Cond.instanceMethod yX5_toldBy, Cond.selects RX5 yX5_toldBy yX5_toldBy, Cond.code yX5_toldBy cX5_toldBy 10 (some .int), Cond.fieldLink RX5 56 "BuildingPointsModel" "entries" "[I", Cond.fieldLink RX5 59 "BuildingPointsModel" "when" "[I", Cond.fieldLink RX5 62 "BuildingPointsModel" "minute" "[I"]
def wsX5_minutes_r3 : List Cond := [Cond.fieldLink RX5 65 "BuildingPointsModel" "tells" "[I"]
def wsX5_minutes : List Cond := .code yX5_minutes cX5_minutes 2 none :: ((wsX5_minutes_r1 ++ (wsX5_minutes_r2 ++ wsX5_minutes_r3)) ++ wsX50)
def wsX5_pass_r1 : List Cond := [Cond.fieldLink RX5 101 "BuildingPointsModel" "clock" "I", Cond.constant RX5 142 (1000000), Cond.fieldLink RX5 95 "BuildingPointsModel" "told" "I", Cond.methodLink RX5 75 yX5_in, Cond.static yX5_in, Cond.initialized RX5, Cond.code yX5_in cX5_in 3 (some .boolean), Cond.methodLink RX5 80 yX5_goes, Cond.instanceMethod yX5_goes, Cond.selects RX5 yX5_goes yX5_goes, Cond.code yX5_goes cX5_goes 4 (some .boolean), Cond.fieldLink RX5 68 "BuildingPointsModel" "thrown" "I", Cond.methodLink RX5 143 yX5_minutes, Cond.instanceMethod yX5_minutes, Cond.selects RX5 yX5_minutes yX5_minutes, Cond.code yX5_minutes cX5_minutes 2 none, Cond.fieldLink RX5 72 "BuildingPointsModel" "points" "I", Cond.fieldLink RX5 20 "BuildingPointsModel" "until" "[I", Cond.constant RX5 79 (-100000), Cond.fieldLink RX5 92 "BuildingPointsModel" "subscriptions" "I", Cond.fieldLink RX5 38 "BuildingPointsModel" "ended" "[Z", Cond.fieldLink RX5 35 "BuildingPointsModel" "over" "[I", Cond.fieldLink RX5 124 "BuildingPointsModel" "schedules" "I", Cond.methodLink RX5 116 yX5_sets]
def wsX5_pass_r2 : List Cond := [Cond.instanceMethod yX5_sets, Cond.selects RX5 yX5_sets yX5_sets, Cond.code yX5_sets cX5_sets 6 none, Cond.fieldLink RX5 26 "BuildingPointsModel" "commands" "[I", Cond.fieldLink RX5 23 "BuildingPointsModel" "changed" "[I", Cond.fieldLink RX5 17 "BuildingPointsModel" "least" "[I", Cond.methodLink RX5 98 yX5_valueOf, Cond.instanceMethod yX5_valueOf, Cond.selects RX5 yX5_valueOf yX5_valueOf, Cond.code yX5_valueOf cX5_valueOf 3 (some .int), Cond.fieldLink RX5 13 "BuildingPointsModel" "first" "[I", Cond.methodLink RX5 88 yX5_standingOf, Cond.instanceMethod yX5_standingOf, Cond.selects RX5 yX5_standingOf yX5_standingOf, Cond.code yX5_standingOf cX5_standingOf 4 (some .int), Cond.methodLink RX5 104 yX5_informs, Cond.instanceMethod yX5_informs, Cond.selects RX5 yX5_informs yX5_informs, Cond.code yX5_informs cX5_informs 5 none, Cond.fieldLink RX5 44 "BuildingPointsModel" "kept" "[I", Cond.fieldLink RX5 29 "BuildingPointsModel" "of" "[I", Cond.fieldLink RX5 32 "BuildingPointsModel" "increment" "[I", Cond.fieldLink RX5 41 "BuildingPointsModel" "sent" "[I", Cond.methodLink RX5 131 yX5_obeys]
def wsX5_pass_r3 : List Cond := [Cond.instanceMethod yX5_obeys, Cond.selects RX5 yX5_obeys yX5_obeys, Cond.code yX5_obeys cX5_obeys 3 none, Cond.fieldLink RX5 53 "BuildingPointsModel" "last" "[I", Cond.fieldLink RX5 47 "BuildingPointsModel" "to" "[I", Cond.fieldLink RX5 50 "BuildingPointsModel" "at" "[I", Cond.methodLink RX5 127 yX5_toldBy, Cond.instanceMethod yX5_toldBy, Cond.selects RX5 yX5_toldBy yX5_toldBy, Cond.code yX5_toldBy cX5_toldBy 10 (some .int), Cond.fieldLink RX5 56 "BuildingPointsModel" "entries" "[I", Cond.fieldLink RX5 59 "BuildingPointsModel" "when" "[I", Cond.fieldLink RX5 62 "BuildingPointsModel" "minute" "[I", Cond.fieldLink RX5 65 "BuildingPointsModel" "tells" "[I"]
def wsX5_pass : List Cond := .code yX5_pass cX5_pass 4 (some .int) :: ((wsX5_pass_r1 ++ (wsX5_pass_r2 ++ wsX5_pass_r3)) ++ wsX50)
def wsX5_clock : List Cond := .code yX5_clock cX5_clock 1 (some .int) :: ([.fieldLink RX5 68 "BuildingPointsModel" "thrown" "I", .fieldLink RX5 101 "BuildingPointsModel" "clock" "I"] ++ wsX50)
def wsJ9_abs_0f7a4 : List Cond := .code yJ9_abs_0f7a4 cJ9_abs_0f7a4 1 (some .int) :: ([])
def wsL_addMeasure_r1 : List Cond := [Cond.classLink RL 13 "java/lang/IllegalArgumentException", Cond.classLink RL 15 "java/lang/IllegalStateException", Cond.methodLink RL 7 yX4_addMeasure, Cond.instanceMethod yX4_addMeasure, Cond.selects RX4 yX4_addMeasure yX4_addMeasure, Cond.initialized RX4, Cond.code yX4_addMeasure cX4_addMeasure 2 (some .int), Cond.fieldLink RX4 31 "BuildingPoints" "pointCount" "I", Cond.fieldLink RX4 11 "BuildingPoints" "points" "[LBuildingPoints$Point;", Cond.classLink RX4 9 RX1, Cond.instantiable RX1 8, Cond.initialized RX1, Cond.methodLink RX4 27 yX4_requireWithin, Cond.static yX4_requireWithin, Cond.code yX4_requireWithin cX4_requireWithin 3 none, Cond.classLink RX4 152 "java/lang/IllegalArgumentException", Cond.initialized "java/lang/IllegalArgumentException", Cond.methodLink RX4 35 yX4_requireRoom, Cond.static yX4_requireRoom, Cond.code yX4_requireRoom cX4_requireRoom 2 none, Cond.classLink RX4 54 "java/lang/IllegalStateException", Cond.initialized "java/lang/IllegalStateException", Cond.methodLink RX4 39 yX1_init, Cond.instanceMethod yX1_init]
def wsL_addMeasure_r2 : List Cond := [Cond.code yX1_init cX1_init 5 none, Cond.methodLink RX1 3 objectInit, Cond.instanceMethod objectInit, Cond.code objectInit ⟨#[0xb1]⟩ 1 none, Cond.fieldLink RX1 9 "BuildingPoints$Point" "lowest" "I", Cond.fieldLink RX1 15 "BuildingPoints$Point" "highest" "I", Cond.fieldLink RX1 18 "BuildingPoints$Point" "original" "I", Cond.fieldLink RX1 21 "BuildingPoints$Point" "leastTime" "I", Cond.arrayClass .int, Cond.fieldLink RX1 24 "BuildingPoints$Point" "commands" "[I", Cond.constant RX1 28 (-100000), Cond.fieldLink RX1 35 "BuildingPoints$Point" "present" "I", Cond.fieldLink RX1 38 "BuildingPoints$Point" "heldUntil" "I", Cond.fieldLink RX1 41 "BuildingPoints$Point" "changeCount" "I", Cond.methodLink RX1 29 yJ7_fill_53178, Cond.static yJ7_fill_53178, Cond.initialized RJ7, Cond.code yJ7_fill_53178 cJ7_fill_53178 4 none]
def wsL_addMeasure : List Cond := .codeWith yL_addMeasure cL_addMeasure 4 (some .int) [(0, 9, 12, 13), (0, 9, 15, 15)] :: ((wsL_addMeasure_r1 ++ wsL_addMeasure_r2) ++ wsX40 ++ wsX10 ++ (vx_atS RX4 156 "java/lang/IllegalArgumentException" ["java/lang/RuntimeException", "java/lang/Exception"]).filter goodWord ++ (vx_atS RX4 58 "java/lang/IllegalStateException" ["java/lang/RuntimeException", "java/lang/Exception"]).filter goodWord)
def wsL_addSwitch_r1 : List Cond := [Cond.classLink RL 13 "java/lang/IllegalArgumentException", Cond.classLink RL 15 "java/lang/IllegalStateException", Cond.methodLink RL 17 yX4_addSwitch, Cond.instanceMethod yX4_addSwitch, Cond.selects RX4 yX4_addSwitch yX4_addSwitch, Cond.initialized RX4, Cond.code yX4_addSwitch cX4_addSwitch 3 (some .int), Cond.fieldLink RX4 31 "BuildingPoints" "pointCount" "I", Cond.fieldLink RX4 11 "BuildingPoints" "points" "[LBuildingPoints$Point;", Cond.classLink RX4 9 RX1, Cond.instantiable RX1 8, Cond.initialized RX1, Cond.methodLink RX4 27 yX4_requireWithin, Cond.static yX4_requireWithin, Cond.code yX4_requireWithin cX4_requireWithin 3 none, Cond.classLink RX4 152 "java/lang/IllegalArgumentException", Cond.initialized "java/lang/IllegalArgumentException", Cond.methodLink RX4 35 yX4_requireRoom, Cond.static yX4_requireRoom, Cond.code yX4_requireRoom cX4_requireRoom 2 none, Cond.classLink RX4 54 "java/lang/IllegalStateException", Cond.initialized "java/lang/IllegalStateException", Cond.methodLink RX4 39 yX1_init, Cond.instanceMethod yX1_init]
def wsL_addSwitch_r2 : List Cond := [Cond.code yX1_init cX1_init 5 none, Cond.methodLink RX1 3 objectInit, Cond.instanceMethod objectInit, Cond.code objectInit ⟨#[0xb1]⟩ 1 none, Cond.fieldLink RX1 9 "BuildingPoints$Point" "lowest" "I", Cond.fieldLink RX1 15 "BuildingPoints$Point" "highest" "I", Cond.fieldLink RX1 18 "BuildingPoints$Point" "original" "I", Cond.fieldLink RX1 21 "BuildingPoints$Point" "leastTime" "I", Cond.arrayClass .int, Cond.fieldLink RX1 24 "BuildingPoints$Point" "commands" "[I", Cond.constant RX1 28 (-100000), Cond.fieldLink RX1 35 "BuildingPoints$Point" "present" "I", Cond.fieldLink RX1 38 "BuildingPoints$Point" "heldUntil" "I", Cond.fieldLink RX1 41 "BuildingPoints$Point" "changeCount" "I", Cond.methodLink RX1 29 yJ7_fill_53178, Cond.static yJ7_fill_53178, Cond.initialized RJ7, Cond.code yJ7_fill_53178 cJ7_fill_53178 4 none]
def wsL_addSwitch : List Cond := .codeWith yL_addSwitch cL_addSwitch 5 (some .int) [(0, 10, 13, 13), (0, 10, 17, 15)] :: ((wsL_addSwitch_r1 ++ wsL_addSwitch_r2) ++ wsX40 ++ wsX10 ++ (vx_atS RX4 156 "java/lang/IllegalArgumentException" ["java/lang/RuntimeException", "java/lang/Exception"]).filter goodWord ++ (vx_atS RX4 58 "java/lang/IllegalStateException" ["java/lang/RuntimeException", "java/lang/Exception"]).filter goodWord)
def wsL_write_r1 : List Cond := [Cond.classLink RL 25 "java/lang/IndexOutOfBoundsException", Cond.classLink RL 13 "java/lang/IllegalArgumentException", Cond.classLink RL 15 "java/lang/IllegalStateException", Cond.methodLink RL 21 yX4_write, Cond.instanceMethod yX4_write, Cond.selects RX4 yX4_write yX4_write, Cond.initialized RX4, Cond.code yX4_write cX4_write 5 (some .int), Cond.classLink RX4 54 "java/lang/IllegalStateException", Cond.initialized "java/lang/IllegalStateException", Cond.fieldLink RX4 65 "BuildingPoints$Point" "present" "I", Cond.methodLink RX4 42 yX4_pointAt, Cond.instanceMethod yX4_pointAt, Cond.selects RX4 yX4_pointAt yX4_pointAt, Cond.code yX4_pointAt cX4_pointAt 2 (some (.object "BuildingPoints$Point")), Cond.classLink RX4 173 "java/lang/IndexOutOfBoundsException", Cond.initialized "java/lang/IndexOutOfBoundsException", Cond.fieldLink RX4 11 "BuildingPoints" "points" "[LBuildingPoints$Point;", Cond.methodLink RX4 27 yX4_requireWithin, Cond.static yX4_requireWithin, Cond.code yX4_requireWithin cX4_requireWithin 3 none, Cond.classLink RX4 152 "java/lang/IllegalArgumentException", Cond.initialized "java/lang/IllegalArgumentException", Cond.methodLink RX4 46 yX4_requireCommand]
def wsL_write_r2 : List Cond := [Cond.static yX4_requireCommand, Cond.code yX4_requireCommand cX4_requireCommand 2 none, Cond.constant RX4 157 (-100000), Cond.methodLink RX4 158 yX1_canHave, Cond.instanceMethod yX1_canHave, Cond.selects RX1 yX1_canHave yX1_canHave, Cond.initialized RX1, Cond.code yX1_canHave cX1_canHave 2 (some .boolean), Cond.fieldLink RX1 9 "BuildingPoints$Point" "lowest" "I", Cond.fieldLink RX1 15 "BuildingPoints$Point" "highest" "I", Cond.methodLink RX4 50 yX1_isHeld, Cond.instanceMethod yX1_isHeld, Cond.selects RX1 yX1_isHeld yX1_isHeld, Cond.code yX1_isHeld cX1_isHeld 1 (some .boolean), Cond.fieldLink RX1 38 "BuildingPoints$Point" "heldUntil" "I", Cond.methodLink RX4 61 yX4_put, Cond.instanceMethod yX4_put, Cond.selects RX4 yX4_put yX4_put, Cond.code yX4_put cX4_put 5 none, Cond.fieldLink RX4 68 "BuildingPoints$Point" "commands" "[I", Cond.fieldLink RX4 79 "BuildingPoints" "now" "I", Cond.methodLink RX4 182 yX1_dueValue, Cond.instanceMethod yX1_dueValue, Cond.selects RX1 yX1_dueValue yX1_dueValue]
def wsL_write_r3 : List Cond := [Cond.code yX1_dueValue cX1_dueValue 2 (some .int), Cond.fieldLink RX1 24 "BuildingPoints$Point" "commands" "[I", Cond.fieldLink RX1 18 "BuildingPoints$Point" "original" "I", Cond.methodLink RX1 44 yX1_lowestCommanded, Cond.instanceMethod yX1_lowestCommanded, Cond.selects RX1 yX1_lowestCommanded yX1_lowestCommanded, Cond.code yX1_lowestCommanded cX1_lowestCommanded 2 (some .int), Cond.constant RX1 28 (-100000), Cond.methodLink RX4 185 yX1_change, Cond.instanceMethod yX1_change, Cond.selects RX1 yX1_change yX1_change, Cond.code yX1_change cX1_change 3 none, Cond.fieldLink RX1 35 "BuildingPoints$Point" "present" "I", Cond.fieldLink RX1 41 "BuildingPoints$Point" "changeCount" "I", Cond.fieldLink RX1 21 "BuildingPoints$Point" "leastTime" "I", Cond.methodLink RX4 188 yX4_reportChange, Cond.instanceMethod yX4_reportChange, Cond.selects RX4 yX4_reportChange yX4_reportChange, Cond.code yX4_reportChange cX4_reportChange 6 none, Cond.fieldLink RX4 17 "BuildingPoints" "subscriptions" "[LBuildingPoints$Subscription;", Cond.fieldLink RX4 95 "BuildingPoints$Subscription" "isOpen" "Z", Cond.fieldLink RX4 192 "BuildingPoints$Subscription" "point" "LBuildingPoints$Point;", Cond.fieldLink RX4 146 "BuildingPoints" "allReports" "I", Cond.methodLink RX4 193 yX3_isFarFrom]
def wsL_write_r4 : List Cond := [Cond.instanceMethod yX3_isFarFrom, Cond.selects RX3 yX3_isFarFrom yX3_isFarFrom, Cond.initialized RX3, Cond.code yX3_isFarFrom cX3_isFarFrom 2 (some .boolean), Cond.fieldLink RX3 25 "BuildingPoints$Subscription" "kept" "I", Cond.methodLink RX3 35 Lib.Math.abs.name, Cond.static Lib.Math.abs.name, Cond.initialized "java/lang/Math", Cond.code Lib.Math.abs.name Lib.Math.abs.code 1 (some .int), Cond.fieldLink RX3 13 "BuildingPoints$Subscription" "increment" "I", Cond.methodLink RX4 196 yX3_report, Cond.instanceMethod yX3_report, Cond.selects RX3 yX3_report yX3_report, Cond.code yX3_report cX3_report 2 none, Cond.fieldLink RX3 28 "BuildingPoints$Subscription" "reportCount" "I"]
def wsL_write : List Cond := .codeWith yL_write cL_write 6 (some .int) [(0, 12, 15, 25), (0, 12, 19, 13), (0, 12, 23, 15)] :: ((wsL_write_r1 ++ (wsL_write_r2 ++ (wsL_write_r3 ++ wsL_write_r4))) ++ wsX10 ++ wsX40 ++ wsX30 ++ (vx_atS RX4 58 "java/lang/IllegalStateException" ["java/lang/RuntimeException", "java/lang/Exception"]).filter goodWord ++ (vx_atS RX4 177 "java/lang/IndexOutOfBoundsException" ["java/lang/RuntimeException", "java/lang/Exception"]).filter goodWord ++ (vx_atS RX4 156 "java/lang/IllegalArgumentException" ["java/lang/RuntimeException", "java/lang/Exception"]).filter goodWord)
def wsL_value : List Cond := .codeWith yL_value cL_value 4 (some .int) [(0, 9, 12, 25)] :: ([.classLink RL 25 "java/lang/IndexOutOfBoundsException", .methodLink RL 27 yX4_value, .instanceMethod yX4_value, .selects RX4 yX4_value yX4_value, .initialized RX4, .code yX4_value cX4_value 2 (some .int), .fieldLink RX4 65 "BuildingPoints$Point" "present" "I", .methodLink RX4 42 yX4_pointAt, .instanceMethod yX4_pointAt, .selects RX4 yX4_pointAt yX4_pointAt, .code yX4_pointAt cX4_pointAt 2 (some (.object "BuildingPoints$Point")), .classLink RX4 173 "java/lang/IndexOutOfBoundsException", .initialized "java/lang/IndexOutOfBoundsException", .fieldLink RX4 11 "BuildingPoints" "points" "[LBuildingPoints$Point;"] ++ wsX10 ++ wsX40 ++ (vx_atS RX4 177 "java/lang/IndexOutOfBoundsException" ["java/lang/RuntimeException", "java/lang/Exception"]).filter goodWord)
def wsL_command : List Cond := .codeWith yL_command cL_command 5 (some .int) [(0, 10, 13, 25), (0, 10, 17, 13)] :: ([.classLink RL 25 "java/lang/IndexOutOfBoundsException", .classLink RL 13 "java/lang/IllegalArgumentException", .methodLink RL 30 yX4_command, .instanceMethod yX4_command, .selects RX4 yX4_command yX4_command, .initialized RX4, .code yX4_command cX4_command 4 (some .int), .fieldLink RX4 68 "BuildingPoints$Point" "commands" "[I", .methodLink RX4 42 yX4_pointAt, .instanceMethod yX4_pointAt, .selects RX4 yX4_pointAt yX4_pointAt, .code yX4_pointAt cX4_pointAt 2 (some (.object "BuildingPoints$Point")), .classLink RX4 173 "java/lang/IndexOutOfBoundsException", .initialized "java/lang/IndexOutOfBoundsException", .fieldLink RX4 11 "BuildingPoints" "points" "[LBuildingPoints$Point;", .methodLink RX4 27 yX4_requireWithin, .static yX4_requireWithin, .code yX4_requireWithin cX4_requireWithin 3 none, .classLink RX4 152 "java/lang/IllegalArgumentException", .initialized "java/lang/IllegalArgumentException"] ++ wsX10 ++ wsX40 ++ (vx_atS RX4 177 "java/lang/IndexOutOfBoundsException" ["java/lang/RuntimeException", "java/lang/Exception"]).filter goodWord ++ (vx_atS RX4 156 "java/lang/IllegalArgumentException" ["java/lang/RuntimeException", "java/lang/Exception"]).filter goodWord)
def wsL_standing : List Cond := .codeWith yL_standing cL_standing 4 (some .int) [(0, 9, 12, 25)] :: ([.classLink RL 25 "java/lang/IndexOutOfBoundsException", .methodLink RL 33 yX4_standing, .instanceMethod yX4_standing, .selects RX4 yX4_standing yX4_standing, .initialized RX4, .code yX4_standing cX4_standing 2 (some .int), .methodLink RX4 42 yX4_pointAt, .instanceMethod yX4_pointAt, .selects RX4 yX4_pointAt yX4_pointAt, .code yX4_pointAt cX4_pointAt 2 (some (.object "BuildingPoints$Point")), .classLink RX4 173 "java/lang/IndexOutOfBoundsException", .initialized "java/lang/IndexOutOfBoundsException", .fieldLink RX4 11 "BuildingPoints" "points" "[LBuildingPoints$Point;", .methodLink RX4 72 yX1_lowestCommanded, .instanceMethod yX1_lowestCommanded, .selects RX1 yX1_lowestCommanded yX1_lowestCommanded, .initialized RX1, .code yX1_lowestCommanded cX1_lowestCommanded 2 (some .int), .fieldLink RX1 24 "BuildingPoints$Point" "commands" "[I", .constant RX1 28 (-100000)] ++ wsX40 ++ wsX10 ++ (vx_atS RX4 177 "java/lang/IndexOutOfBoundsException" ["java/lang/RuntimeException", "java/lang/Exception"]).filter goodWord)
def wsL_held : List Cond := .codeWith yL_held cL_held 4 (some .int) [(0, 9, 12, 25)] :: ([.classLink RL 25 "java/lang/IndexOutOfBoundsException", .methodLink RL 36 yX4_held, .instanceMethod yX4_held, .selects RX4 yX4_held yX4_held, .initialized RX4, .code yX4_held cX4_held 3 (some .int), .fieldLink RX4 76 "BuildingPoints$Point" "heldUntil" "I", .fieldLink RX4 79 "BuildingPoints" "now" "I", .methodLink RX4 42 yX4_pointAt, .instanceMethod yX4_pointAt, .selects RX4 yX4_pointAt yX4_pointAt, .code yX4_pointAt cX4_pointAt 2 (some (.object "BuildingPoints$Point")), .classLink RX4 173 "java/lang/IndexOutOfBoundsException", .initialized "java/lang/IndexOutOfBoundsException", .fieldLink RX4 11 "BuildingPoints" "points" "[LBuildingPoints$Point;", .methodLink RX4 50 yX1_isHeld, .instanceMethod yX1_isHeld, .selects RX1 yX1_isHeld yX1_isHeld, .initialized RX1, .code yX1_isHeld cX1_isHeld 1 (some .boolean), .fieldLink RX1 38 "BuildingPoints$Point" "heldUntil" "I"] ++ wsX10 ++ wsX40 ++ (vx_atS RX4 177 "java/lang/IndexOutOfBoundsException" ["java/lang/RuntimeException", "java/lang/Exception"]).filter goodWord)
def wsL_changes : List Cond := .codeWith yL_changes cL_changes 4 (some .int) [(0, 9, 12, 25)] :: ([.classLink RL 25 "java/lang/IndexOutOfBoundsException", .methodLink RL 39 yX4_changes, .instanceMethod yX4_changes, .selects RX4 yX4_changes yX4_changes, .initialized RX4, .code yX4_changes cX4_changes 2 (some .int), .fieldLink RX4 82 "BuildingPoints$Point" "changeCount" "I", .methodLink RX4 42 yX4_pointAt, .instanceMethod yX4_pointAt, .selects RX4 yX4_pointAt yX4_pointAt, .code yX4_pointAt cX4_pointAt 2 (some (.object "BuildingPoints$Point")), .classLink RX4 173 "java/lang/IndexOutOfBoundsException", .initialized "java/lang/IndexOutOfBoundsException", .fieldLink RX4 11 "BuildingPoints" "points" "[LBuildingPoints$Point;"] ++ wsX10 ++ wsX40 ++ (vx_atS RX4 177 "java/lang/IndexOutOfBoundsException" ["java/lang/RuntimeException", "java/lang/Exception"]).filter goodWord)
def wsL_subscribe_r1 : List Cond := [Cond.classLink RL 25 "java/lang/IndexOutOfBoundsException", Cond.classLink RL 13 "java/lang/IllegalArgumentException", Cond.classLink RL 15 "java/lang/IllegalStateException", Cond.methodLink RL 42 yX4_subscribe, Cond.instanceMethod yX4_subscribe, Cond.selects RX4 yX4_subscribe yX4_subscribe, Cond.initialized RX4, Cond.code yX4_subscribe cX4_subscribe 5 (some .int), Cond.constant RX4 85 (100000), Cond.fieldLink RX4 86 "BuildingPoints" "subscriptionCount" "I", Cond.fieldLink RX4 17 "BuildingPoints" "subscriptions" "[LBuildingPoints$Subscription;", Cond.classLink RX4 15 RX3, Cond.instantiable RX3 6, Cond.initialized RX3, Cond.fieldLink RX4 79 "BuildingPoints" "now" "I", Cond.methodLink RX4 42 yX4_pointAt, Cond.instanceMethod yX4_pointAt, Cond.selects RX4 yX4_pointAt yX4_pointAt, Cond.code yX4_pointAt cX4_pointAt 2 (some (.object "BuildingPoints$Point")), Cond.classLink RX4 173 "java/lang/IndexOutOfBoundsException", Cond.initialized "java/lang/IndexOutOfBoundsException", Cond.fieldLink RX4 11 "BuildingPoints" "points" "[LBuildingPoints$Point;", Cond.methodLink RX4 27 yX4_requireWithin, Cond.static yX4_requireWithin]
def wsL_subscribe_r2 : List Cond := [Cond.code yX4_requireWithin cX4_requireWithin 3 none, Cond.classLink RX4 152 "java/lang/IllegalArgumentException", Cond.initialized "java/lang/IllegalArgumentException", Cond.methodLink RX4 35 yX4_requireRoom, Cond.static yX4_requireRoom, Cond.code yX4_requireRoom cX4_requireRoom 2 none, Cond.classLink RX4 54 "java/lang/IllegalStateException", Cond.initialized "java/lang/IllegalStateException", Cond.methodLink RX4 89 yX3_init, Cond.instanceMethod yX3_init, Cond.code yX3_init cX3_init 4 none, Cond.methodLink RX3 1 objectInit, Cond.instanceMethod objectInit, Cond.code objectInit ⟨#[0xb1]⟩ 1 none, Cond.fieldLink RX3 7 "BuildingPoints$Subscription" "point" "LBuildingPoints$Point;", Cond.fieldLink RX3 13 "BuildingPoints$Subscription" "increment" "I", Cond.fieldLink RX3 17 "BuildingPoints$Subscription" "endTime" "I", Cond.fieldLink RX3 20 "BuildingPoints$Point" "present" "I", Cond.fieldLink RX3 25 "BuildingPoints$Subscription" "kept" "I", Cond.fieldLink RX3 28 "BuildingPoints$Subscription" "reportCount" "I", Cond.fieldLink RX3 31 "BuildingPoints$Subscription" "isOpen" "Z"]
def wsL_subscribe : List Cond := .codeWith yL_subscribe cL_subscribe 6 (some .int) [(0, 12, 15, 25), (0, 12, 19, 13), (0, 12, 23, 15)] :: ((wsL_subscribe_r1 ++ wsL_subscribe_r2) ++ wsX40 ++ wsX30 ++ wsX10 ++ (vx_atS RX4 177 "java/lang/IndexOutOfBoundsException" ["java/lang/RuntimeException", "java/lang/Exception"]).filter goodWord ++ (vx_atS RX4 156 "java/lang/IllegalArgumentException" ["java/lang/RuntimeException", "java/lang/Exception"]).filter goodWord ++ (vx_atS RX4 58 "java/lang/IllegalStateException" ["java/lang/RuntimeException", "java/lang/Exception"]).filter goodWord)
def wsL_end : List Cond := .codeWith yL_end cL_end 3 (some .int) [(0, 5, 8, 25), (0, 5, 11, 15)] :: ([.classLink RL 25 "java/lang/IndexOutOfBoundsException", .classLink RL 15 "java/lang/IllegalStateException", .methodLink RL 45 yX4_end, .instanceMethod yX4_end, .selects RX4 yX4_end yX4_end, .initialized RX4, .code yX4_end cX4_end 3 none, .classLink RX4 54 "java/lang/IllegalStateException", .initialized "java/lang/IllegalStateException", .fieldLink RX4 95 "BuildingPoints$Subscription" "isOpen" "Z", .methodLink RX4 91 yX4_subscriptionAt, .instanceMethod yX4_subscriptionAt, .selects RX4 yX4_subscriptionAt yX4_subscriptionAt, .code yX4_subscriptionAt cX4_subscriptionAt 2 (some (.object "BuildingPoints$Subscription")), .classLink RX4 173 "java/lang/IndexOutOfBoundsException", .initialized "java/lang/IndexOutOfBoundsException", .fieldLink RX4 17 "BuildingPoints" "subscriptions" "[LBuildingPoints$Subscription;"] ++ wsX30 ++ wsX40 ++ (vx_atS RX4 58 "java/lang/IllegalStateException" ["java/lang/RuntimeException", "java/lang/Exception"]).filter goodWord ++ (vx_atS RX4 177 "java/lang/IndexOutOfBoundsException" ["java/lang/RuntimeException", "java/lang/Exception"]).filter goodWord)
def wsL_goesOn : List Cond := .codeWith yL_goesOn cL_goesOn 4 (some .int) [(0, 16, 19, 25)] :: ([.classLink RL 25 "java/lang/IndexOutOfBoundsException", .methodLink RL 49 yX4_goesOn, .instanceMethod yX4_goesOn, .selects RX4 yX4_goesOn yX4_goesOn, .initialized RX4, .code yX4_goesOn cX4_goesOn 2 (some .boolean), .fieldLink RX4 95 "BuildingPoints$Subscription" "isOpen" "Z", .methodLink RX4 91 yX4_subscriptionAt, .instanceMethod yX4_subscriptionAt, .selects RX4 yX4_subscriptionAt yX4_subscriptionAt, .code yX4_subscriptionAt cX4_subscriptionAt 2 (some (.object "BuildingPoints$Subscription")), .classLink RX4 173 "java/lang/IndexOutOfBoundsException", .initialized "java/lang/IndexOutOfBoundsException", .fieldLink RX4 17 "BuildingPoints" "subscriptions" "[LBuildingPoints$Subscription;"] ++ wsX30 ++ wsX40 ++ (vx_atS RX4 177 "java/lang/IndexOutOfBoundsException" ["java/lang/RuntimeException", "java/lang/Exception"]).filter goodWord)
def wsL_reports : List Cond := .codeWith yL_reports cL_reports 4 (some .int) [(0, 9, 12, 25)] :: ([.classLink RL 25 "java/lang/IndexOutOfBoundsException", .methodLink RL 53 yX4_reports, .instanceMethod yX4_reports, .selects RX4 yX4_reports yX4_reports, .initialized RX4, .code yX4_reports cX4_reports 2 (some .int), .fieldLink RX4 101 "BuildingPoints$Subscription" "reportCount" "I", .methodLink RX4 91 yX4_subscriptionAt, .instanceMethod yX4_subscriptionAt, .selects RX4 yX4_subscriptionAt yX4_subscriptionAt, .code yX4_subscriptionAt cX4_subscriptionAt 2 (some (.object "BuildingPoints$Subscription")), .classLink RX4 173 "java/lang/IndexOutOfBoundsException", .initialized "java/lang/IndexOutOfBoundsException", .fieldLink RX4 17 "BuildingPoints" "subscriptions" "[LBuildingPoints$Subscription;"] ++ wsX30 ++ wsX40 ++ (vx_atS RX4 177 "java/lang/IndexOutOfBoundsException" ["java/lang/RuntimeException", "java/lang/Exception"]).filter goodWord)
def wsL_reported : List Cond := .codeWith yL_reported cL_reported 4 (some .int) [(0, 9, 12, 25)] :: ([.classLink RL 25 "java/lang/IndexOutOfBoundsException", .methodLink RL 56 yX4_reported, .instanceMethod yX4_reported, .selects RX4 yX4_reported yX4_reported, .initialized RX4, .code yX4_reported cX4_reported 2 (some .int), .fieldLink RX4 104 "BuildingPoints$Subscription" "kept" "I", .methodLink RX4 91 yX4_subscriptionAt, .instanceMethod yX4_subscriptionAt, .selects RX4 yX4_subscriptionAt yX4_subscriptionAt, .code yX4_subscriptionAt cX4_subscriptionAt 2 (some (.object "BuildingPoints$Subscription")), .classLink RX4 173 "java/lang/IndexOutOfBoundsException", .initialized "java/lang/IndexOutOfBoundsException", .fieldLink RX4 17 "BuildingPoints" "subscriptions" "[LBuildingPoints$Subscription;"] ++ wsX30 ++ wsX40 ++ (vx_atS RX4 177 "java/lang/IndexOutOfBoundsException" ["java/lang/RuntimeException", "java/lang/Exception"]).filter goodWord)
def wsL_addSchedule_r1 : List Cond := [Cond.classLink RL 25 "java/lang/IndexOutOfBoundsException", Cond.classLink RL 13 "java/lang/IllegalArgumentException", Cond.classLink RL 15 "java/lang/IllegalStateException", Cond.methodLink RL 59 yX4_addSchedule, Cond.instanceMethod yX4_addSchedule, Cond.selects RX4 yX4_addSchedule yX4_addSchedule, Cond.initialized RX4, Cond.code yX4_addSchedule cX4_addSchedule 4 (some .int), Cond.fieldLink RX4 107 "BuildingPoints" "scheduleCount" "I", Cond.fieldLink RX4 23 "BuildingPoints" "schedules" "[LBuildingPoints$Schedule;", Cond.classLink RX4 21 RX2, Cond.instantiable RX2 5, Cond.initialized RX2, Cond.methodLink RX4 42 yX4_pointAt, Cond.instanceMethod yX4_pointAt, Cond.selects RX4 yX4_pointAt yX4_pointAt, Cond.code yX4_pointAt cX4_pointAt 2 (some (.object "BuildingPoints$Point")), Cond.classLink RX4 173 "java/lang/IndexOutOfBoundsException", Cond.initialized "java/lang/IndexOutOfBoundsException", Cond.fieldLink RX4 11 "BuildingPoints" "points" "[LBuildingPoints$Point;", Cond.methodLink RX4 27 yX4_requireWithin, Cond.static yX4_requireWithin, Cond.code yX4_requireWithin cX4_requireWithin 3 none, Cond.classLink RX4 152 "java/lang/IllegalArgumentException"]
def wsL_addSchedule_r2 : List Cond := [Cond.initialized "java/lang/IllegalArgumentException", Cond.methodLink RX4 35 yX4_requireRoom, Cond.static yX4_requireRoom, Cond.code yX4_requireRoom cX4_requireRoom 2 none, Cond.classLink RX4 54 "java/lang/IllegalStateException", Cond.initialized "java/lang/IllegalStateException", Cond.methodLink RX4 110 yX2_init, Cond.instanceMethod yX2_init, Cond.code yX2_init cX2_init 3 none, Cond.methodLink RX2 3 objectInit, Cond.instanceMethod objectInit, Cond.code objectInit ⟨#[0xb1]⟩ 1 none, Cond.fieldLink RX2 9 "BuildingPoints$Schedule" "point" "LBuildingPoints$Point;", Cond.fieldLink RX2 15 "BuildingPoints$Schedule" "priority" "I", Cond.classLink RX2 19 RX0, Cond.instantiable RX0 4, Cond.initialized RX0, Cond.fieldLink RX2 22 "BuildingPoints$Schedule" "weekdays" "LBuildingPoints$Entries;", Cond.fieldLink RX2 26 "BuildingPoints$Schedule" "singleDays" "LBuildingPoints$Entries;", Cond.constant RX2 29 (-100000), Cond.fieldLink RX2 30 "BuildingPoints$Schedule" "toldLast" "I", Cond.methodLink RX2 21 yX0_init, Cond.instanceMethod yX0_init, Cond.code yX0_init cX0_init 1 none]
def wsL_addSchedule_r3 : List Cond := [Cond.methodLink RX0 3 objectInit, Cond.arrayClass .int, Cond.fieldLink RX0 9 "BuildingPoints$Entries" "days" "[I", Cond.fieldLink RX0 15 "BuildingPoints$Entries" "minutes" "[I", Cond.fieldLink RX0 18 "BuildingPoints$Entries" "told" "[I", Cond.fieldLink RX0 21 "BuildingPoints$Entries" "count" "I"]
def wsL_addSchedule : List Cond := .codeWith yL_addSchedule cL_addSchedule 5 (some .int) [(0, 10, 13, 25), (0, 10, 17, 13), (0, 10, 21, 15)] :: ((wsL_addSchedule_r1 ++ (wsL_addSchedule_r2 ++ wsL_addSchedule_r3)) ++ wsX40 ++ wsX20 ++ wsX00 ++ (vx_atS RX4 177 "java/lang/IndexOutOfBoundsException" ["java/lang/RuntimeException", "java/lang/Exception"]).filter goodWord ++ (vx_atS RX4 156 "java/lang/IllegalArgumentException" ["java/lang/RuntimeException", "java/lang/Exception"]).filter goodWord ++ (vx_atS RX4 58 "java/lang/IllegalStateException" ["java/lang/RuntimeException", "java/lang/Exception"]).filter goodWord)
def wsL_weekly_r1 : List Cond := [Cond.classLink RL 25 "java/lang/IndexOutOfBoundsException", Cond.classLink RL 13 "java/lang/IllegalArgumentException", Cond.classLink RL 15 "java/lang/IllegalStateException", Cond.methodLink RL 62 yX4_weekly, Cond.instanceMethod yX4_weekly, Cond.selects RX4 yX4_weekly yX4_weekly, Cond.initialized RX4, Cond.code yX4_weekly cX4_weekly 6 (some .int), Cond.fieldLink RX4 120 "BuildingPoints$Schedule" "weekdays" "LBuildingPoints$Entries;", Cond.fieldLink RX4 133 "BuildingPoints$Schedule" "toldLast" "I", Cond.methodLink RX4 112 yX4_scheduleAt, Cond.instanceMethod yX4_scheduleAt, Cond.selects RX4 yX4_scheduleAt yX4_scheduleAt, Cond.code yX4_scheduleAt cX4_scheduleAt 2 (some (.object "BuildingPoints$Schedule")), Cond.classLink RX4 173 "java/lang/IndexOutOfBoundsException", Cond.initialized "java/lang/IndexOutOfBoundsException", Cond.fieldLink RX4 23 "BuildingPoints" "schedules" "[LBuildingPoints$Schedule;", Cond.methodLink RX4 27 yX4_requireWithin, Cond.static yX4_requireWithin, Cond.code yX4_requireWithin cX4_requireWithin 3 none, Cond.classLink RX4 152 "java/lang/IllegalArgumentException", Cond.initialized "java/lang/IllegalArgumentException", Cond.methodLink RX4 116 yX4_requireEntry, Cond.static yX4_requireEntry]
def wsL_weekly_r2 : List Cond := [Cond.code yX4_requireEntry cX4_requireEntry 3 none, Cond.fieldLink RX4 166 "BuildingPoints$Schedule" "point" "LBuildingPoints$Point;", Cond.methodLink RX4 46 yX4_requireCommand, Cond.static yX4_requireCommand, Cond.code yX4_requireCommand cX4_requireCommand 2 none, Cond.constant RX4 157 (-100000), Cond.methodLink RX4 158 yX1_canHave, Cond.instanceMethod yX1_canHave, Cond.selects RX1 yX1_canHave yX1_canHave, Cond.initialized RX1, Cond.code yX1_canHave cX1_canHave 2 (some .boolean), Cond.fieldLink RX1 9 "BuildingPoints$Point" "lowest" "I", Cond.fieldLink RX1 15 "BuildingPoints$Point" "highest" "I", Cond.methodLink RX4 170 yX2_entryCount, Cond.instanceMethod yX2_entryCount, Cond.selects RX2 yX2_entryCount yX2_entryCount, Cond.initialized RX2, Cond.code yX2_entryCount cX2_entryCount 1 (some .int), Cond.fieldLink RX2 22 "BuildingPoints$Schedule" "weekdays" "LBuildingPoints$Entries;", Cond.fieldLink RX2 33 "BuildingPoints$Entries" "count" "I", Cond.fieldLink RX2 26 "BuildingPoints$Schedule" "singleDays" "LBuildingPoints$Entries;", Cond.methodLink RX4 35 yX4_requireRoom, Cond.static yX4_requireRoom, Cond.code yX4_requireRoom cX4_requireRoom 2 none]
def wsL_weekly_r3 : List Cond := [Cond.classLink RX4 54 "java/lang/IllegalStateException", Cond.initialized "java/lang/IllegalStateException", Cond.methodLink RX4 124 yX0_add, Cond.instanceMethod yX0_add, Cond.selects RX0 yX0_add yX0_add, Cond.initialized RX0, Cond.code yX0_add cX0_add 4 none, Cond.fieldLink RX0 21 "BuildingPoints$Entries" "count" "I", Cond.fieldLink RX0 9 "BuildingPoints$Entries" "days" "[I", Cond.fieldLink RX0 15 "BuildingPoints$Entries" "minutes" "[I", Cond.fieldLink RX0 18 "BuildingPoints$Entries" "told" "[I", Cond.methodLink RX4 129 yX4_follow, Cond.instanceMethod yX4_follow, Cond.selects RX4 yX4_follow yX4_follow, Cond.code yX4_follow cX4_follow 3 none, Cond.fieldLink RX4 79 "BuildingPoints" "now" "I", Cond.fieldLink RX4 200 "BuildingPoints$Schedule" "priority" "I", Cond.methodLink RX4 140 yX2_toldAt, Cond.instanceMethod yX2_toldAt, Cond.selects RX2 yX2_toldAt yX2_toldAt, Cond.code yX2_toldAt cX2_toldAt 4 (some .int), Cond.methodLink RX2 36 yX0_hasDay, Cond.instanceMethod yX0_hasDay, Cond.selects RX0 yX0_hasDay yX0_hasDay]
def wsL_weekly_r4 : List Cond := [Cond.code yX0_hasDay cX0_hasDay 3 (some .boolean), Cond.methodLink RX2 40 yX0_latest, Cond.instanceMethod yX0_latest, Cond.selects RX0 yX0_latest yX0_latest, Cond.code yX0_latest cX0_latest 6 (some .int), Cond.constant RX0 25 (-100000), Cond.methodLink RX4 61 yX4_put, Cond.instanceMethod yX4_put, Cond.selects RX4 yX4_put yX4_put, Cond.code yX4_put cX4_put 5 none, Cond.fieldLink RX4 68 "BuildingPoints$Point" "commands" "[I", Cond.fieldLink RX4 65 "BuildingPoints$Point" "present" "I", Cond.methodLink RX4 182 yX1_dueValue, Cond.instanceMethod yX1_dueValue, Cond.selects RX1 yX1_dueValue yX1_dueValue, Cond.code yX1_dueValue cX1_dueValue 2 (some .int), Cond.fieldLink RX1 24 "BuildingPoints$Point" "commands" "[I", Cond.fieldLink RX1 18 "BuildingPoints$Point" "original" "I", Cond.methodLink RX1 44 yX1_lowestCommanded, Cond.instanceMethod yX1_lowestCommanded, Cond.selects RX1 yX1_lowestCommanded yX1_lowestCommanded, Cond.code yX1_lowestCommanded cX1_lowestCommanded 2 (some .int), Cond.constant RX1 28 (-100000), Cond.methodLink RX4 185 yX1_change]
def wsL_weekly_r5 : List Cond := [Cond.instanceMethod yX1_change, Cond.selects RX1 yX1_change yX1_change, Cond.code yX1_change cX1_change 3 none, Cond.fieldLink RX1 35 "BuildingPoints$Point" "present" "I", Cond.fieldLink RX1 41 "BuildingPoints$Point" "changeCount" "I", Cond.fieldLink RX1 21 "BuildingPoints$Point" "leastTime" "I", Cond.fieldLink RX1 38 "BuildingPoints$Point" "heldUntil" "I", Cond.methodLink RX4 188 yX4_reportChange, Cond.instanceMethod yX4_reportChange, Cond.selects RX4 yX4_reportChange yX4_reportChange, Cond.code yX4_reportChange cX4_reportChange 6 none, Cond.fieldLink RX4 17 "BuildingPoints" "subscriptions" "[LBuildingPoints$Subscription;", Cond.fieldLink RX4 95 "BuildingPoints$Subscription" "isOpen" "Z", Cond.fieldLink RX4 192 "BuildingPoints$Subscription" "point" "LBuildingPoints$Point;", Cond.fieldLink RX4 146 "BuildingPoints" "allReports" "I", Cond.methodLink RX4 193 yX3_isFarFrom, Cond.instanceMethod yX3_isFarFrom, Cond.selects RX3 yX3_isFarFrom yX3_isFarFrom, Cond.initialized RX3, Cond.code yX3_isFarFrom cX3_isFarFrom 2 (some .boolean), Cond.fieldLink RX3 25 "BuildingPoints$Subscription" "kept" "I", Cond.methodLink RX3 35 Lib.Math.abs.name, Cond.static Lib.Math.abs.name, Cond.initialized "java/lang/Math"]
def wsL_weekly_r6 : List Cond := [Cond.code Lib.Math.abs.name Lib.Math.abs.code 1 (some .int), Cond.fieldLink RX3 13 "BuildingPoints$Subscription" "increment" "I", Cond.methodLink RX4 196 yX3_report, Cond.instanceMethod yX3_report, Cond.selects RX3 yX3_report yX3_report, Cond.code yX3_report cX3_report 2 none, Cond.fieldLink RX3 28 "BuildingPoints$Subscription" "reportCount" "I"]
def wsL_weekly : List Cond := .codeWith yL_weekly cL_weekly 7 (some .int) [(0, 14, 17, 25), (0, 14, 21, 13), (0, 14, 25, 15)] :: ((wsL_weekly_r1 ++ (wsL_weekly_r2 ++ (wsL_weekly_r3 ++ (wsL_weekly_r4 ++ (wsL_weekly_r5 ++ wsL_weekly_r6))))) ++ wsX20 ++ wsX40 ++ wsX10 ++ wsX00 ++ wsX30 ++ (vx_atS RX4 177 "java/lang/IndexOutOfBoundsException" ["java/lang/RuntimeException", "java/lang/Exception"]).filter goodWord ++ (vx_atS RX4 156 "java/lang/IllegalArgumentException" ["java/lang/RuntimeException", "java/lang/Exception"]).filter goodWord ++ (vx_atS RX4 58 "java/lang/IllegalStateException" ["java/lang/RuntimeException", "java/lang/Exception"]).filter goodWord)
def wsL_once_r1 : List Cond := [Cond.classLink RL 25 "java/lang/IndexOutOfBoundsException", Cond.classLink RL 13 "java/lang/IllegalArgumentException", Cond.classLink RL 15 "java/lang/IllegalStateException", Cond.methodLink RL 66 yX4_once, Cond.instanceMethod yX4_once, Cond.selects RX4 yX4_once yX4_once, Cond.initialized RX4, Cond.code yX4_once cX4_once 6 (some .int), Cond.fieldLink RX4 136 "BuildingPoints$Schedule" "singleDays" "LBuildingPoints$Entries;", Cond.fieldLink RX4 133 "BuildingPoints$Schedule" "toldLast" "I", Cond.methodLink RX4 112 yX4_scheduleAt, Cond.instanceMethod yX4_scheduleAt, Cond.selects RX4 yX4_scheduleAt yX4_scheduleAt, Cond.code yX4_scheduleAt cX4_scheduleAt 2 (some (.object "BuildingPoints$Schedule")), Cond.classLink RX4 173 "java/lang/IndexOutOfBoundsException", Cond.initialized "java/lang/IndexOutOfBoundsException", Cond.fieldLink RX4 23 "BuildingPoints" "schedules" "[LBuildingPoints$Schedule;", Cond.methodLink RX4 27 yX4_requireWithin, Cond.static yX4_requireWithin, Cond.code yX4_requireWithin cX4_requireWithin 3 none, Cond.classLink RX4 152 "java/lang/IllegalArgumentException", Cond.initialized "java/lang/IllegalArgumentException", Cond.methodLink RX4 116 yX4_requireEntry, Cond.static yX4_requireEntry]
def wsL_once_r2 : List Cond := [Cond.code yX4_requireEntry cX4_requireEntry 3 none, Cond.fieldLink RX4 166 "BuildingPoints$Schedule" "point" "LBuildingPoints$Point;", Cond.methodLink RX4 46 yX4_requireCommand, Cond.static yX4_requireCommand, Cond.code yX4_requireCommand cX4_requireCommand 2 none, Cond.constant RX4 157 (-100000), Cond.methodLink RX4 158 yX1_canHave, Cond.instanceMethod yX1_canHave, Cond.selects RX1 yX1_canHave yX1_canHave, Cond.initialized RX1, Cond.code yX1_canHave cX1_canHave 2 (some .boolean), Cond.fieldLink RX1 9 "BuildingPoints$Point" "lowest" "I", Cond.fieldLink RX1 15 "BuildingPoints$Point" "highest" "I", Cond.methodLink RX4 170 yX2_entryCount, Cond.instanceMethod yX2_entryCount, Cond.selects RX2 yX2_entryCount yX2_entryCount, Cond.initialized RX2, Cond.code yX2_entryCount cX2_entryCount 1 (some .int), Cond.fieldLink RX2 22 "BuildingPoints$Schedule" "weekdays" "LBuildingPoints$Entries;", Cond.fieldLink RX2 33 "BuildingPoints$Entries" "count" "I", Cond.fieldLink RX2 26 "BuildingPoints$Schedule" "singleDays" "LBuildingPoints$Entries;", Cond.methodLink RX4 35 yX4_requireRoom, Cond.static yX4_requireRoom, Cond.code yX4_requireRoom cX4_requireRoom 2 none]
def wsL_once_r3 : List Cond := [Cond.classLink RX4 54 "java/lang/IllegalStateException", Cond.initialized "java/lang/IllegalStateException", Cond.methodLink RX4 124 yX0_add, Cond.instanceMethod yX0_add, Cond.selects RX0 yX0_add yX0_add, Cond.initialized RX0, Cond.code yX0_add cX0_add 4 none, Cond.fieldLink RX0 21 "BuildingPoints$Entries" "count" "I", Cond.fieldLink RX0 9 "BuildingPoints$Entries" "days" "[I", Cond.fieldLink RX0 15 "BuildingPoints$Entries" "minutes" "[I", Cond.fieldLink RX0 18 "BuildingPoints$Entries" "told" "[I", Cond.methodLink RX4 129 yX4_follow, Cond.instanceMethod yX4_follow, Cond.selects RX4 yX4_follow yX4_follow, Cond.code yX4_follow cX4_follow 3 none, Cond.fieldLink RX4 79 "BuildingPoints" "now" "I", Cond.fieldLink RX4 200 "BuildingPoints$Schedule" "priority" "I", Cond.methodLink RX4 140 yX2_toldAt, Cond.instanceMethod yX2_toldAt, Cond.selects RX2 yX2_toldAt yX2_toldAt, Cond.code yX2_toldAt cX2_toldAt 4 (some .int), Cond.methodLink RX2 36 yX0_hasDay, Cond.instanceMethod yX0_hasDay, Cond.selects RX0 yX0_hasDay yX0_hasDay]
def wsL_once_r4 : List Cond := [Cond.code yX0_hasDay cX0_hasDay 3 (some .boolean), Cond.methodLink RX2 40 yX0_latest, Cond.instanceMethod yX0_latest, Cond.selects RX0 yX0_latest yX0_latest, Cond.code yX0_latest cX0_latest 6 (some .int), Cond.constant RX0 25 (-100000), Cond.methodLink RX4 61 yX4_put, Cond.instanceMethod yX4_put, Cond.selects RX4 yX4_put yX4_put, Cond.code yX4_put cX4_put 5 none, Cond.fieldLink RX4 68 "BuildingPoints$Point" "commands" "[I", Cond.fieldLink RX4 65 "BuildingPoints$Point" "present" "I", Cond.methodLink RX4 182 yX1_dueValue, Cond.instanceMethod yX1_dueValue, Cond.selects RX1 yX1_dueValue yX1_dueValue, Cond.code yX1_dueValue cX1_dueValue 2 (some .int), Cond.fieldLink RX1 24 "BuildingPoints$Point" "commands" "[I", Cond.fieldLink RX1 18 "BuildingPoints$Point" "original" "I", Cond.methodLink RX1 44 yX1_lowestCommanded, Cond.instanceMethod yX1_lowestCommanded, Cond.selects RX1 yX1_lowestCommanded yX1_lowestCommanded, Cond.code yX1_lowestCommanded cX1_lowestCommanded 2 (some .int), Cond.constant RX1 28 (-100000), Cond.methodLink RX4 185 yX1_change]
def wsL_once_r5 : List Cond := [Cond.instanceMethod yX1_change, Cond.selects RX1 yX1_change yX1_change, Cond.code yX1_change cX1_change 3 none, Cond.fieldLink RX1 35 "BuildingPoints$Point" "present" "I", Cond.fieldLink RX1 41 "BuildingPoints$Point" "changeCount" "I", Cond.fieldLink RX1 21 "BuildingPoints$Point" "leastTime" "I", Cond.fieldLink RX1 38 "BuildingPoints$Point" "heldUntil" "I", Cond.methodLink RX4 188 yX4_reportChange, Cond.instanceMethod yX4_reportChange, Cond.selects RX4 yX4_reportChange yX4_reportChange, Cond.code yX4_reportChange cX4_reportChange 6 none, Cond.fieldLink RX4 17 "BuildingPoints" "subscriptions" "[LBuildingPoints$Subscription;", Cond.fieldLink RX4 95 "BuildingPoints$Subscription" "isOpen" "Z", Cond.fieldLink RX4 192 "BuildingPoints$Subscription" "point" "LBuildingPoints$Point;", Cond.fieldLink RX4 146 "BuildingPoints" "allReports" "I", Cond.methodLink RX4 193 yX3_isFarFrom, Cond.instanceMethod yX3_isFarFrom, Cond.selects RX3 yX3_isFarFrom yX3_isFarFrom, Cond.initialized RX3, Cond.code yX3_isFarFrom cX3_isFarFrom 2 (some .boolean), Cond.fieldLink RX3 25 "BuildingPoints$Subscription" "kept" "I", Cond.methodLink RX3 35 Lib.Math.abs.name, Cond.static Lib.Math.abs.name, Cond.initialized "java/lang/Math"]
def wsL_once_r6 : List Cond := [Cond.code Lib.Math.abs.name Lib.Math.abs.code 1 (some .int), Cond.fieldLink RX3 13 "BuildingPoints$Subscription" "increment" "I", Cond.methodLink RX4 196 yX3_report, Cond.instanceMethod yX3_report, Cond.selects RX3 yX3_report yX3_report, Cond.code yX3_report cX3_report 2 none, Cond.fieldLink RX3 28 "BuildingPoints$Subscription" "reportCount" "I"]
def wsL_once : List Cond := .codeWith yL_once cL_once 7 (some .int) [(0, 14, 17, 25), (0, 14, 21, 13), (0, 14, 25, 15)] :: ((wsL_once_r1 ++ (wsL_once_r2 ++ (wsL_once_r3 ++ (wsL_once_r4 ++ (wsL_once_r5 ++ wsL_once_r6))))) ++ wsX20 ++ wsX40 ++ wsX10 ++ wsX00 ++ wsX30 ++ (vx_atS RX4 177 "java/lang/IndexOutOfBoundsException" ["java/lang/RuntimeException", "java/lang/Exception"]).filter goodWord ++ (vx_atS RX4 156 "java/lang/IllegalArgumentException" ["java/lang/RuntimeException", "java/lang/Exception"]).filter goodWord ++ (vx_atS RX4 58 "java/lang/IllegalStateException" ["java/lang/RuntimeException", "java/lang/Exception"]).filter goodWord)
def wsL_tells_r1 : List Cond := [Cond.classLink RL 25 "java/lang/IndexOutOfBoundsException", Cond.classLink RL 13 "java/lang/IllegalArgumentException", Cond.methodLink RL 69 yX4_tells, Cond.instanceMethod yX4_tells, Cond.selects RX4 yX4_tells yX4_tells, Cond.initialized RX4, Cond.code yX4_tells cX4_tells 4 (some .int), Cond.constant RX4 139 (1000000), Cond.methodLink RX4 112 yX4_scheduleAt, Cond.instanceMethod yX4_scheduleAt, Cond.selects RX4 yX4_scheduleAt yX4_scheduleAt, Cond.code yX4_scheduleAt cX4_scheduleAt 2 (some (.object "BuildingPoints$Schedule")), Cond.classLink RX4 173 "java/lang/IndexOutOfBoundsException", Cond.initialized "java/lang/IndexOutOfBoundsException", Cond.fieldLink RX4 23 "BuildingPoints" "schedules" "[LBuildingPoints$Schedule;", Cond.methodLink RX4 27 yX4_requireWithin, Cond.static yX4_requireWithin, Cond.code yX4_requireWithin cX4_requireWithin 3 none, Cond.classLink RX4 152 "java/lang/IllegalArgumentException", Cond.initialized "java/lang/IllegalArgumentException", Cond.methodLink RX4 140 yX2_toldAt, Cond.instanceMethod yX2_toldAt, Cond.selects RX2 yX2_toldAt yX2_toldAt, Cond.initialized RX2]
def wsL_tells_r2 : List Cond := [Cond.code yX2_toldAt cX2_toldAt 4 (some .int), Cond.fieldLink RX2 26 "BuildingPoints$Schedule" "singleDays" "LBuildingPoints$Entries;", Cond.fieldLink RX2 22 "BuildingPoints$Schedule" "weekdays" "LBuildingPoints$Entries;", Cond.methodLink RX2 36 yX0_hasDay, Cond.instanceMethod yX0_hasDay, Cond.selects RX0 yX0_hasDay yX0_hasDay, Cond.initialized RX0, Cond.code yX0_hasDay cX0_hasDay 3 (some .boolean), Cond.fieldLink RX0 21 "BuildingPoints$Entries" "count" "I", Cond.fieldLink RX0 9 "BuildingPoints$Entries" "days" "[I", Cond.methodLink RX2 40 yX0_latest, Cond.instanceMethod yX0_latest, Cond.selects RX0 yX0_latest yX0_latest, Cond.code yX0_latest cX0_latest 6 (some .int), Cond.constant RX0 25 (-100000), Cond.fieldLink RX0 15 "BuildingPoints$Entries" "minutes" "[I", Cond.fieldLink RX0 18 "BuildingPoints$Entries" "told" "[I"]
def wsL_tells : List Cond := .codeWith yL_tells cL_tells 5 (some .int) [(0, 10, 13, 25), (0, 10, 17, 13)] :: ((wsL_tells_r1 ++ wsL_tells_r2) ++ wsX40 ++ wsX20 ++ wsX00 ++ (vx_atS RX4 177 "java/lang/IndexOutOfBoundsException" ["java/lang/RuntimeException", "java/lang/Exception"]).filter goodWord ++ (vx_atS RX4 156 "java/lang/IllegalArgumentException" ["java/lang/RuntimeException", "java/lang/Exception"]).filter goodWord)
def wsL_pass_r1 : List Cond := [Cond.classLink RL 13 "java/lang/IllegalArgumentException", Cond.classLink RL 15 "java/lang/IllegalStateException", Cond.methodLink RL 72 yX4_pass, Cond.instanceMethod yX4_pass, Cond.selects RX4 yX4_pass yX4_pass, Cond.initialized RX4, Cond.code yX4_pass cX4_pass 4 (some .int), Cond.classLink RX4 54 "java/lang/IllegalStateException", Cond.initialized "java/lang/IllegalStateException", Cond.constant RX4 139 (1000000), Cond.fieldLink RX4 79 "BuildingPoints" "now" "I", Cond.fieldLink RX4 146 "BuildingPoints" "allReports" "I", Cond.methodLink RX4 27 yX4_requireWithin, Cond.static yX4_requireWithin, Cond.code yX4_requireWithin cX4_requireWithin 3 none, Cond.classLink RX4 152 "java/lang/IllegalArgumentException", Cond.initialized "java/lang/IllegalArgumentException", Cond.methodLink RX4 149 yX4_passMinute, Cond.instanceMethod yX4_passMinute, Cond.selects RX4 yX4_passMinute yX4_passMinute, Cond.code yX4_passMinute cX4_passMinute 1 none, Cond.methodLink RX4 203 yX4_releaseHeldCommands, Cond.instanceMethod yX4_releaseHeldCommands, Cond.selects RX4 yX4_releaseHeldCommands yX4_releaseHeldCommands]
def wsL_pass_r2 : List Cond := [Cond.code yX4_releaseHeldCommands cX4_releaseHeldCommands 5 none, Cond.fieldLink RX4 11 "BuildingPoints" "points" "[LBuildingPoints$Point;", Cond.fieldLink RX4 76 "BuildingPoints$Point" "heldUntil" "I", Cond.constant RX4 157 (-100000), Cond.methodLink RX4 50 yX1_isHeld, Cond.instanceMethod yX1_isHeld, Cond.selects RX1 yX1_isHeld yX1_isHeld, Cond.initialized RX1, Cond.code yX1_isHeld cX1_isHeld 1 (some .boolean), Cond.fieldLink RX1 38 "BuildingPoints$Point" "heldUntil" "I", Cond.methodLink RX4 61 yX4_put, Cond.instanceMethod yX4_put, Cond.selects RX4 yX4_put yX4_put, Cond.code yX4_put cX4_put 5 none, Cond.fieldLink RX4 68 "BuildingPoints$Point" "commands" "[I", Cond.fieldLink RX4 65 "BuildingPoints$Point" "present" "I", Cond.methodLink RX4 182 yX1_dueValue, Cond.instanceMethod yX1_dueValue, Cond.selects RX1 yX1_dueValue yX1_dueValue, Cond.code yX1_dueValue cX1_dueValue 2 (some .int), Cond.fieldLink RX1 24 "BuildingPoints$Point" "commands" "[I", Cond.fieldLink RX1 18 "BuildingPoints$Point" "original" "I", Cond.methodLink RX1 44 yX1_lowestCommanded, Cond.instanceMethod yX1_lowestCommanded]
def wsL_pass_r3 : List Cond := [Cond.selects RX1 yX1_lowestCommanded yX1_lowestCommanded, Cond.code yX1_lowestCommanded cX1_lowestCommanded 2 (some .int), Cond.constant RX1 28 (-100000), Cond.methodLink RX4 185 yX1_change, Cond.instanceMethod yX1_change, Cond.selects RX1 yX1_change yX1_change, Cond.code yX1_change cX1_change 3 none, Cond.fieldLink RX1 35 "BuildingPoints$Point" "present" "I", Cond.fieldLink RX1 41 "BuildingPoints$Point" "changeCount" "I", Cond.fieldLink RX1 21 "BuildingPoints$Point" "leastTime" "I", Cond.methodLink RX4 188 yX4_reportChange, Cond.instanceMethod yX4_reportChange, Cond.selects RX4 yX4_reportChange yX4_reportChange, Cond.code yX4_reportChange cX4_reportChange 6 none, Cond.fieldLink RX4 17 "BuildingPoints" "subscriptions" "[LBuildingPoints$Subscription;", Cond.fieldLink RX4 95 "BuildingPoints$Subscription" "isOpen" "Z", Cond.fieldLink RX4 192 "BuildingPoints$Subscription" "point" "LBuildingPoints$Point;", Cond.methodLink RX4 193 yX3_isFarFrom, Cond.instanceMethod yX3_isFarFrom, Cond.selects RX3 yX3_isFarFrom yX3_isFarFrom, Cond.initialized RX3, Cond.code yX3_isFarFrom cX3_isFarFrom 2 (some .boolean), Cond.fieldLink RX3 25 "BuildingPoints$Subscription" "kept" "I", Cond.methodLink RX3 35 Lib.Math.abs.name]
def wsL_pass_r4 : List Cond := [Cond.static Lib.Math.abs.name, Cond.initialized "java/lang/Math", Cond.code Lib.Math.abs.name Lib.Math.abs.code 1 (some .int), Cond.fieldLink RX3 13 "BuildingPoints$Subscription" "increment" "I", Cond.methodLink RX4 196 yX3_report, Cond.instanceMethod yX3_report, Cond.selects RX3 yX3_report yX3_report, Cond.code yX3_report cX3_report 2 none, Cond.fieldLink RX3 28 "BuildingPoints$Subscription" "reportCount" "I", Cond.methodLink RX4 206 yX4_endOldSubscriptions, Cond.instanceMethod yX4_endOldSubscriptions, Cond.selects RX4 yX4_endOldSubscriptions yX4_endOldSubscriptions, Cond.code yX4_endOldSubscriptions cX4_endOldSubscriptions 5 none, Cond.fieldLink RX4 212 "BuildingPoints$Subscription" "endTime" "I", Cond.methodLink RX4 209 yX4_followSchedules, Cond.instanceMethod yX4_followSchedules, Cond.selects RX4 yX4_followSchedules yX4_followSchedules, Cond.code yX4_followSchedules cX4_followSchedules 5 none, Cond.fieldLink RX4 23 "BuildingPoints" "schedules" "[LBuildingPoints$Schedule;", Cond.methodLink RX4 129 yX4_follow, Cond.instanceMethod yX4_follow, Cond.selects RX4 yX4_follow yX4_follow, Cond.code yX4_follow cX4_follow 3 none, Cond.fieldLink RX4 133 "BuildingPoints$Schedule" "toldLast" "I"]
def wsL_pass_r5 : List Cond := [Cond.fieldLink RX4 166 "BuildingPoints$Schedule" "point" "LBuildingPoints$Point;", Cond.fieldLink RX4 200 "BuildingPoints$Schedule" "priority" "I", Cond.methodLink RX4 140 yX2_toldAt, Cond.instanceMethod yX2_toldAt, Cond.selects RX2 yX2_toldAt yX2_toldAt, Cond.initialized RX2, Cond.code yX2_toldAt cX2_toldAt 4 (some .int), Cond.fieldLink RX2 26 "BuildingPoints$Schedule" "singleDays" "LBuildingPoints$Entries;", Cond.fieldLink RX2 22 "BuildingPoints$Schedule" "weekdays" "LBuildingPoints$Entries;", Cond.methodLink RX2 36 yX0_hasDay, Cond.instanceMethod yX0_hasDay, Cond.selects RX0 yX0_hasDay yX0_hasDay, Cond.initialized RX0, Cond.code yX0_hasDay cX0_hasDay 3 (some .boolean), Cond.fieldLink RX0 21 "BuildingPoints$Entries" "count" "I", Cond.fieldLink RX0 9 "BuildingPoints$Entries" "days" "[I", Cond.methodLink RX2 40 yX0_latest, Cond.instanceMethod yX0_latest, Cond.selects RX0 yX0_latest yX0_latest, Cond.code yX0_latest cX0_latest 6 (some .int), Cond.constant RX0 25 (-100000), Cond.fieldLink RX0 15 "BuildingPoints$Entries" "minutes" "[I", Cond.fieldLink RX0 18 "BuildingPoints$Entries" "told" "[I"]
def wsL_pass : List Cond := .codeWith yL_pass cL_pass 4 (some .int) [(0, 9, 12, 13), (0, 9, 15, 15)] :: ((wsL_pass_r1 ++ (wsL_pass_r2 ++ (wsL_pass_r3 ++ (wsL_pass_r4 ++ wsL_pass_r5)))) ++ wsX40 ++ wsX10 ++ wsX30 ++ wsX20 ++ wsX00 ++ (vx_atS RX4 58 "java/lang/IllegalStateException" ["java/lang/RuntimeException", "java/lang/Exception"]).filter goodWord ++ (vx_atS RX4 156 "java/lang/IllegalArgumentException" ["java/lang/RuntimeException", "java/lang/Exception"]).filter goodWord)
def wsL_law0_r1 : List Cond := [Cond.classLink RL 8 RX4, Cond.instantiable RX4 8, Cond.initialized RX4, Cond.classLink RL 76 RX5, Cond.instantiable RX5 25, Cond.initialized RX5, Cond.arrayClass .long, Cond.methodLink RL 75 yX4_init, Cond.instanceMethod yX4_init, Cond.code yX4_init cX4_init 1 none, Cond.methodLink RX4 1 objectInit, Cond.instanceMethod objectInit, Cond.code objectInit ⟨#[0xb1]⟩ 1 none, Cond.classLink RX4 9 RX1, Cond.fieldLink RX4 11 "BuildingPoints" "points" "[LBuildingPoints$Point;", Cond.classLink RX4 15 RX3, Cond.fieldLink RX4 17 "BuildingPoints" "subscriptions" "[LBuildingPoints$Subscription;", Cond.classLink RX4 21 RX2, Cond.fieldLink RX4 23 "BuildingPoints" "schedules" "[LBuildingPoints$Schedule;", Cond.methodLink RL 78 yX5_init, Cond.instanceMethod yX5_init, Cond.code yX5_init cX5_init 1 none, Cond.methodLink RX5 1 objectInit, Cond.arrayClass .boolean]
def wsL_law0_r2 : List Cond := [Cond.fieldLink RX5 7 "BuildingPointsModel" "isSwitch" "[Z", Cond.arrayClass .int, Cond.fieldLink RX5 13 "BuildingPointsModel" "first" "[I", Cond.fieldLink RX5 17 "BuildingPointsModel" "least" "[I", Cond.fieldLink RX5 20 "BuildingPointsModel" "until" "[I", Cond.fieldLink RX5 23 "BuildingPointsModel" "changed" "[I", Cond.fieldLink RX5 26 "BuildingPointsModel" "commands" "[I", Cond.fieldLink RX5 29 "BuildingPointsModel" "of" "[I", Cond.fieldLink RX5 32 "BuildingPointsModel" "increment" "[I", Cond.fieldLink RX5 35 "BuildingPointsModel" "over" "[I", Cond.fieldLink RX5 38 "BuildingPointsModel" "ended" "[Z", Cond.fieldLink RX5 41 "BuildingPointsModel" "sent" "[I", Cond.fieldLink RX5 44 "BuildingPointsModel" "kept" "[I", Cond.fieldLink RX5 47 "BuildingPointsModel" "to" "[I", Cond.fieldLink RX5 50 "BuildingPointsModel" "at" "[I", Cond.fieldLink RX5 53 "BuildingPointsModel" "last" "[I", Cond.fieldLink RX5 56 "BuildingPointsModel" "entries" "[I", Cond.fieldLink RX5 59 "BuildingPointsModel" "when" "[I", Cond.fieldLink RX5 62 "BuildingPointsModel" "minute" "[I", Cond.fieldLink RX5 65 "BuildingPointsModel" "tells" "[I", Cond.methodLink RL 79 yL_addMeasure, Cond.static yL_addMeasure, Cond.initialized RL, Cond.codeWith yL_addMeasure cL_addMeasure 4 (some .int) [(0, 9, 12, 13), (0, 9, 15, 15)]]
def wsL_law0_r3 : List Cond := [Cond.classLink RL 13 "java/lang/IllegalArgumentException", Cond.classLink RL 15 "java/lang/IllegalStateException", Cond.methodLink RL 7 yX4_addMeasure, Cond.instanceMethod yX4_addMeasure, Cond.selects RX4 yX4_addMeasure yX4_addMeasure, Cond.code yX4_addMeasure cX4_addMeasure 2 (some .int), Cond.fieldLink RX4 31 "BuildingPoints" "pointCount" "I", Cond.instantiable RX1 8, Cond.initialized RX1, Cond.methodLink RX4 27 yX4_requireWithin, Cond.static yX4_requireWithin, Cond.code yX4_requireWithin cX4_requireWithin 3 none, Cond.classLink RX4 152 "java/lang/IllegalArgumentException", Cond.initialized "java/lang/IllegalArgumentException", Cond.methodLink RX4 35 yX4_requireRoom, Cond.static yX4_requireRoom, Cond.code yX4_requireRoom cX4_requireRoom 2 none, Cond.classLink RX4 54 "java/lang/IllegalStateException", Cond.initialized "java/lang/IllegalStateException", Cond.methodLink RX4 39 yX1_init, Cond.instanceMethod yX1_init, Cond.code yX1_init cX1_init 5 none, Cond.methodLink RX1 3 objectInit, Cond.fieldLink RX1 9 "BuildingPoints$Point" "lowest" "I"]
def wsL_law0_r4 : List Cond := [Cond.fieldLink RX1 15 "BuildingPoints$Point" "highest" "I", Cond.fieldLink RX1 18 "BuildingPoints$Point" "original" "I", Cond.fieldLink RX1 21 "BuildingPoints$Point" "leastTime" "I", Cond.fieldLink RX1 24 "BuildingPoints$Point" "commands" "[I", Cond.constant RX1 28 (-100000), Cond.fieldLink RX1 35 "BuildingPoints$Point" "present" "I", Cond.fieldLink RX1 38 "BuildingPoints$Point" "heldUntil" "I", Cond.fieldLink RX1 41 "BuildingPoints$Point" "changeCount" "I", Cond.methodLink RX1 29 yJ7_fill_53178, Cond.static yJ7_fill_53178, Cond.initialized RJ7, Cond.code yJ7_fill_53178 cJ7_fill_53178 4 none, Cond.methodLink RL 84 yX5_addMeasure, Cond.instanceMethod yX5_addMeasure, Cond.selects RX5 yX5_addMeasure yX5_addMeasure, Cond.code yX5_addMeasure cX5_addMeasure 2 (some .int), Cond.fieldLink RX5 72 "BuildingPointsModel" "points" "I", Cond.methodLink RX5 75 yX5_in, Cond.static yX5_in, Cond.code yX5_in cX5_in 3 (some .boolean), Cond.methodLink RX5 80 yX5_goes, Cond.instanceMethod yX5_goes, Cond.selects RX5 yX5_goes yX5_goes, Cond.code yX5_goes cX5_goes 4 (some .boolean)]
def wsL_law0_r5 : List Cond := [Cond.fieldLink RX5 68 "BuildingPointsModel" "thrown" "I", Cond.methodLink RX5 84 yX5_adds, Cond.instanceMethod yX5_adds, Cond.selects RX5 yX5_adds yX5_adds, Cond.code yX5_adds cX5_adds 5 (some .int), Cond.constant RX5 79 (-100000), Cond.methodLink RL 85 yX5_thrown, Cond.instanceMethod yX5_thrown, Cond.selects RX5 yX5_thrown yX5_thrown, Cond.code yX5_thrown cX5_thrown 1 (some .int), Cond.methodLink RL 89 yL_addSwitch, Cond.static yL_addSwitch, Cond.codeWith yL_addSwitch cL_addSwitch 5 (some .int) [(0, 10, 13, 13), (0, 10, 17, 15)], Cond.methodLink RL 17 yX4_addSwitch, Cond.instanceMethod yX4_addSwitch, Cond.selects RX4 yX4_addSwitch yX4_addSwitch, Cond.code yX4_addSwitch cX4_addSwitch 3 (some .int), Cond.methodLink RL 92 yX5_addSwitch, Cond.instanceMethod yX5_addSwitch, Cond.selects RX5 yX5_addSwitch yX5_addSwitch, Cond.code yX5_addSwitch cX5_addSwitch 3 (some .int), Cond.methodLink RL 93 yL_write, Cond.static yL_write, Cond.codeWith yL_write cL_write 6 (some .int) [(0, 12, 15, 25), (0, 12, 19, 13), (0, 12, 23, 15)]]
def wsL_law0_r6 : List Cond := [Cond.classLink RL 25 "java/lang/IndexOutOfBoundsException", Cond.methodLink RL 21 yX4_write, Cond.instanceMethod yX4_write, Cond.selects RX4 yX4_write yX4_write, Cond.code yX4_write cX4_write 5 (some .int), Cond.fieldLink RX4 65 "BuildingPoints$Point" "present" "I", Cond.methodLink RX4 42 yX4_pointAt, Cond.instanceMethod yX4_pointAt, Cond.selects RX4 yX4_pointAt yX4_pointAt, Cond.code yX4_pointAt cX4_pointAt 2 (some (.object "BuildingPoints$Point")), Cond.classLink RX4 173 "java/lang/IndexOutOfBoundsException", Cond.initialized "java/lang/IndexOutOfBoundsException", Cond.methodLink RX4 46 yX4_requireCommand, Cond.static yX4_requireCommand, Cond.code yX4_requireCommand cX4_requireCommand 2 none, Cond.constant RX4 157 (-100000), Cond.methodLink RX4 158 yX1_canHave, Cond.instanceMethod yX1_canHave, Cond.selects RX1 yX1_canHave yX1_canHave, Cond.code yX1_canHave cX1_canHave 2 (some .boolean), Cond.methodLink RX4 50 yX1_isHeld, Cond.instanceMethod yX1_isHeld, Cond.selects RX1 yX1_isHeld yX1_isHeld, Cond.code yX1_isHeld cX1_isHeld 1 (some .boolean)]
def wsL_law0_r7 : List Cond := [Cond.methodLink RX4 61 yX4_put, Cond.instanceMethod yX4_put, Cond.selects RX4 yX4_put yX4_put, Cond.code yX4_put cX4_put 5 none, Cond.fieldLink RX4 68 "BuildingPoints$Point" "commands" "[I", Cond.fieldLink RX4 79 "BuildingPoints" "now" "I", Cond.methodLink RX4 182 yX1_dueValue, Cond.instanceMethod yX1_dueValue, Cond.selects RX1 yX1_dueValue yX1_dueValue, Cond.code yX1_dueValue cX1_dueValue 2 (some .int), Cond.methodLink RX1 44 yX1_lowestCommanded, Cond.instanceMethod yX1_lowestCommanded, Cond.selects RX1 yX1_lowestCommanded yX1_lowestCommanded, Cond.code yX1_lowestCommanded cX1_lowestCommanded 2 (some .int), Cond.methodLink RX4 185 yX1_change, Cond.instanceMethod yX1_change, Cond.selects RX1 yX1_change yX1_change, Cond.code yX1_change cX1_change 3 none, Cond.methodLink RX4 188 yX4_reportChange, Cond.instanceMethod yX4_reportChange, Cond.selects RX4 yX4_reportChange yX4_reportChange, Cond.code yX4_reportChange cX4_reportChange 6 none, Cond.fieldLink RX4 95 "BuildingPoints$Subscription" "isOpen" "Z", Cond.fieldLink RX4 192 "BuildingPoints$Subscription" "point" "LBuildingPoints$Point;"]
def wsL_law0_r8 : List Cond := [Cond.fieldLink RX4 146 "BuildingPoints" "allReports" "I", Cond.methodLink RX4 193 yX3_isFarFrom, Cond.instanceMethod yX3_isFarFrom, Cond.selects RX3 yX3_isFarFrom yX3_isFarFrom, Cond.initialized RX3, Cond.code yX3_isFarFrom cX3_isFarFrom 2 (some .boolean), Cond.fieldLink RX3 25 "BuildingPoints$Subscription" "kept" "I", Cond.methodLink RX3 35 Lib.Math.abs.name, Cond.static Lib.Math.abs.name, Cond.initialized "java/lang/Math", Cond.code Lib.Math.abs.name Lib.Math.abs.code 1 (some .int), Cond.fieldLink RX3 13 "BuildingPoints$Subscription" "increment" "I", Cond.methodLink RX4 196 yX3_report, Cond.instanceMethod yX3_report, Cond.selects RX3 yX3_report yX3_report, Cond.code yX3_report cX3_report 2 none, Cond.fieldLink RX3 28 "BuildingPoints$Subscription" "reportCount" "I", Cond.methodLink RL 96 yX5_write, Cond.instanceMethod yX5_write, Cond.selects RX5 yX5_write yX5_write, Cond.code yX5_write cX5_write 6 (some .int), Cond.methodLink RX5 108 yX5_isPoint, Cond.instanceMethod yX5_isPoint, Cond.selects RX5 yX5_isPoint yX5_isPoint]
def wsL_law0_r9 : List Cond := [Cond.code yX5_isPoint cX5_isPoint 2 (some .boolean), Cond.methodLink RX5 112 yX5_canHave, Cond.instanceMethod yX5_canHave, Cond.selects RX5 yX5_canHave yX5_canHave, Cond.code yX5_canHave cX5_canHave 3 (some .boolean), Cond.methodLink RX5 116 yX5_sets, Cond.instanceMethod yX5_sets, Cond.selects RX5 yX5_sets yX5_sets, Cond.code yX5_sets cX5_sets 6 none, Cond.fieldLink RX5 101 "BuildingPointsModel" "clock" "I", Cond.methodLink RX5 98 yX5_valueOf, Cond.instanceMethod yX5_valueOf, Cond.selects RX5 yX5_valueOf yX5_valueOf, Cond.code yX5_valueOf cX5_valueOf 3 (some .int), Cond.methodLink RX5 88 yX5_standingOf, Cond.instanceMethod yX5_standingOf, Cond.selects RX5 yX5_standingOf yX5_standingOf, Cond.code yX5_standingOf cX5_standingOf 4 (some .int), Cond.methodLink RX5 104 yX5_informs, Cond.instanceMethod yX5_informs, Cond.selects RX5 yX5_informs yX5_informs, Cond.code yX5_informs cX5_informs 5 none, Cond.fieldLink RX5 92 "BuildingPointsModel" "subscriptions" "I", Cond.fieldLink RX5 95 "BuildingPointsModel" "told" "I"]
def wsL_law0_r10 : List Cond := [Cond.methodLink RL 97 yL_value, Cond.static yL_value, Cond.codeWith yL_value cL_value 4 (some .int) [(0, 9, 12, 25)], Cond.methodLink RL 27 yX4_value, Cond.instanceMethod yX4_value, Cond.selects RX4 yX4_value yX4_value, Cond.code yX4_value cX4_value 2 (some .int), Cond.methodLink RL 99 yX5_value, Cond.instanceMethod yX5_value, Cond.selects RX5 yX5_value yX5_value, Cond.code yX5_value cX5_value 2 (some .int), Cond.methodLink RL 100 yL_command, Cond.static yL_command, Cond.codeWith yL_command cL_command 5 (some .int) [(0, 10, 13, 25), (0, 10, 17, 13)], Cond.methodLink RL 30 yX4_command, Cond.instanceMethod yX4_command, Cond.selects RX4 yX4_command yX4_command, Cond.code yX4_command cX4_command 4 (some .int), Cond.methodLink RL 102 yX5_command, Cond.instanceMethod yX5_command, Cond.selects RX5 yX5_command yX5_command, Cond.code yX5_command cX5_command 3 (some .int), Cond.methodLink RL 103 yL_standing, Cond.static yL_standing]
def wsL_law0_r11 : List Cond := [Cond.codeWith yL_standing cL_standing 4 (some .int) [(0, 9, 12, 25)], Cond.methodLink RL 33 yX4_standing, Cond.instanceMethod yX4_standing, Cond.selects RX4 yX4_standing yX4_standing, Cond.code yX4_standing cX4_standing 2 (some .int), Cond.methodLink RX4 72 yX1_lowestCommanded, Cond.methodLink RL 105 yX5_standing, Cond.instanceMethod yX5_standing, Cond.selects RX5 yX5_standing yX5_standing, Cond.code yX5_standing cX5_standing 2 (some .int), Cond.methodLink RL 106 yL_held, Cond.static yL_held, Cond.codeWith yL_held cL_held 4 (some .int) [(0, 9, 12, 25)], Cond.methodLink RL 36 yX4_held, Cond.instanceMethod yX4_held, Cond.selects RX4 yX4_held yX4_held, Cond.code yX4_held cX4_held 3 (some .int), Cond.fieldLink RX4 76 "BuildingPoints$Point" "heldUntil" "I", Cond.methodLink RL 108 yX5_held, Cond.instanceMethod yX5_held, Cond.selects RX5 yX5_held yX5_held, Cond.code yX5_held cX5_held 2 (some .int), Cond.methodLink RL 109 yL_changes, Cond.static yL_changes]
def wsL_law0_r12 : List Cond := [Cond.codeWith yL_changes cL_changes 4 (some .int) [(0, 9, 12, 25)], Cond.methodLink RL 39 yX4_changes, Cond.instanceMethod yX4_changes, Cond.selects RX4 yX4_changes yX4_changes, Cond.code yX4_changes cX4_changes 2 (some .int), Cond.fieldLink RX4 82 "BuildingPoints$Point" "changeCount" "I", Cond.methodLink RL 111 yX5_changes, Cond.instanceMethod yX5_changes, Cond.selects RX5 yX5_changes yX5_changes, Cond.code yX5_changes cX5_changes 2 (some .int), Cond.methodLink RL 112 yL_subscribe, Cond.static yL_subscribe, Cond.codeWith yL_subscribe cL_subscribe 6 (some .int) [(0, 12, 15, 25), (0, 12, 19, 13), (0, 12, 23, 15)], Cond.methodLink RL 42 yX4_subscribe, Cond.instanceMethod yX4_subscribe, Cond.selects RX4 yX4_subscribe yX4_subscribe, Cond.code yX4_subscribe cX4_subscribe 5 (some .int), Cond.constant RX4 85 (100000), Cond.fieldLink RX4 86 "BuildingPoints" "subscriptionCount" "I", Cond.instantiable RX3 6, Cond.methodLink RX4 89 yX3_init, Cond.instanceMethod yX3_init, Cond.code yX3_init cX3_init 4 none, Cond.methodLink RX3 1 objectInit]
def wsL_law0_r13 : List Cond := [Cond.fieldLink RX3 7 "BuildingPoints$Subscription" "point" "LBuildingPoints$Point;", Cond.fieldLink RX3 17 "BuildingPoints$Subscription" "endTime" "I", Cond.fieldLink RX3 20 "BuildingPoints$Point" "present" "I", Cond.fieldLink RX3 31 "BuildingPoints$Subscription" "isOpen" "Z", Cond.methodLink RL 114 yX5_subscribe, Cond.instanceMethod yX5_subscribe, Cond.selects RX5 yX5_subscribe yX5_subscribe, Cond.code yX5_subscribe cX5_subscribe 5 (some .int), Cond.constant RX5 120 (100000), Cond.methodLink RL 115 yL_end, Cond.static yL_end, Cond.codeWith yL_end cL_end 3 (some .int) [(0, 5, 8, 25), (0, 5, 11, 15)], Cond.methodLink RL 45 yX4_end, Cond.instanceMethod yX4_end, Cond.selects RX4 yX4_end yX4_end, Cond.code yX4_end cX4_end 3 none, Cond.methodLink RX4 91 yX4_subscriptionAt, Cond.instanceMethod yX4_subscriptionAt, Cond.selects RX4 yX4_subscriptionAt yX4_subscriptionAt, Cond.code yX4_subscriptionAt cX4_subscriptionAt 2 (some (.object "BuildingPoints$Subscription")), Cond.methodLink RL 118 yX5_end, Cond.instanceMethod yX5_end, Cond.selects RX5 yX5_end yX5_end, Cond.code yX5_end cX5_end 3 none]
def wsL_law0_r14 : List Cond := [Cond.methodLink RX5 121 yX5_isSubscription, Cond.instanceMethod yX5_isSubscription, Cond.selects RX5 yX5_isSubscription yX5_isSubscription, Cond.code yX5_isSubscription cX5_isSubscription 2 (some .boolean), Cond.methodLink RL 119 yL_goesOn, Cond.static yL_goesOn, Cond.codeWith yL_goesOn cL_goesOn 4 (some .int) [(0, 16, 19, 25)], Cond.methodLink RL 49 yX4_goesOn, Cond.instanceMethod yX4_goesOn, Cond.selects RX4 yX4_goesOn yX4_goesOn, Cond.code yX4_goesOn cX4_goesOn 2 (some .boolean), Cond.methodLink RL 121 yX5_goesOn, Cond.instanceMethod yX5_goesOn, Cond.selects RX5 yX5_goesOn yX5_goesOn, Cond.code yX5_goesOn cX5_goesOn 2 (some .boolean), Cond.methodLink RL 122 yL_reports, Cond.static yL_reports, Cond.codeWith yL_reports cL_reports 4 (some .int) [(0, 9, 12, 25)], Cond.methodLink RL 53 yX4_reports, Cond.instanceMethod yX4_reports, Cond.selects RX4 yX4_reports yX4_reports, Cond.code yX4_reports cX4_reports 2 (some .int), Cond.fieldLink RX4 101 "BuildingPoints$Subscription" "reportCount" "I", Cond.methodLink RL 124 yX5_reports]
def wsL_law0_r15 : List Cond := [Cond.instanceMethod yX5_reports, Cond.selects RX5 yX5_reports yX5_reports, Cond.code yX5_reports cX5_reports 2 (some .int), Cond.methodLink RL 125 yL_reported, Cond.static yL_reported, Cond.codeWith yL_reported cL_reported 4 (some .int) [(0, 9, 12, 25)], Cond.methodLink RL 56 yX4_reported, Cond.instanceMethod yX4_reported, Cond.selects RX4 yX4_reported yX4_reported, Cond.code yX4_reported cX4_reported 2 (some .int), Cond.fieldLink RX4 104 "BuildingPoints$Subscription" "kept" "I", Cond.methodLink RL 127 yX5_reported, Cond.instanceMethod yX5_reported, Cond.selects RX5 yX5_reported yX5_reported, Cond.code yX5_reported cX5_reported 2 (some .int), Cond.methodLink RL 128 yL_addSchedule, Cond.static yL_addSchedule, Cond.codeWith yL_addSchedule cL_addSchedule 5 (some .int) [(0, 10, 13, 25), (0, 10, 17, 13), (0, 10, 21, 15)], Cond.methodLink RL 59 yX4_addSchedule, Cond.instanceMethod yX4_addSchedule, Cond.selects RX4 yX4_addSchedule yX4_addSchedule, Cond.code yX4_addSchedule cX4_addSchedule 4 (some .int), Cond.fieldLink RX4 107 "BuildingPoints" "scheduleCount" "I", Cond.instantiable RX2 5]
def wsL_law0_r16 : List Cond := [Cond.initialized RX2, Cond.methodLink RX4 110 yX2_init, Cond.instanceMethod yX2_init, Cond.code yX2_init cX2_init 3 none, Cond.methodLink RX2 3 objectInit, Cond.fieldLink RX2 9 "BuildingPoints$Schedule" "point" "LBuildingPoints$Point;", Cond.fieldLink RX2 15 "BuildingPoints$Schedule" "priority" "I", Cond.classLink RX2 19 RX0, Cond.instantiable RX0 4, Cond.initialized RX0, Cond.fieldLink RX2 22 "BuildingPoints$Schedule" "weekdays" "LBuildingPoints$Entries;", Cond.fieldLink RX2 26 "BuildingPoints$Schedule" "singleDays" "LBuildingPoints$Entries;", Cond.constant RX2 29 (-100000), Cond.fieldLink RX2 30 "BuildingPoints$Schedule" "toldLast" "I", Cond.methodLink RX2 21 yX0_init, Cond.instanceMethod yX0_init, Cond.code yX0_init cX0_init 1 none, Cond.methodLink RX0 3 objectInit, Cond.fieldLink RX0 9 "BuildingPoints$Entries" "days" "[I", Cond.fieldLink RX0 15 "BuildingPoints$Entries" "minutes" "[I", Cond.fieldLink RX0 18 "BuildingPoints$Entries" "told" "[I", Cond.fieldLink RX0 21 "BuildingPoints$Entries" "count" "I", Cond.methodLink RL 130 yX5_addSchedule, Cond.instanceMethod yX5_addSchedule]
def wsL_law0_r17 : List Cond := [Cond.selects RX5 yX5_addSchedule yX5_addSchedule, Cond.code yX5_addSchedule cX5_addSchedule 3 (some .int), Cond.fieldLink RX5 124 "BuildingPointsModel" "schedules" "I", Cond.methodLink RL 131 yL_weekly, Cond.static yL_weekly, Cond.codeWith yL_weekly cL_weekly 7 (some .int) [(0, 14, 17, 25), (0, 14, 21, 13), (0, 14, 25, 15)], Cond.methodLink RL 62 yX4_weekly, Cond.instanceMethod yX4_weekly, Cond.selects RX4 yX4_weekly yX4_weekly, Cond.code yX4_weekly cX4_weekly 6 (some .int), Cond.fieldLink RX4 120 "BuildingPoints$Schedule" "weekdays" "LBuildingPoints$Entries;", Cond.fieldLink RX4 133 "BuildingPoints$Schedule" "toldLast" "I", Cond.methodLink RX4 112 yX4_scheduleAt, Cond.instanceMethod yX4_scheduleAt, Cond.selects RX4 yX4_scheduleAt yX4_scheduleAt, Cond.code yX4_scheduleAt cX4_scheduleAt 2 (some (.object "BuildingPoints$Schedule")), Cond.methodLink RX4 116 yX4_requireEntry, Cond.static yX4_requireEntry, Cond.code yX4_requireEntry cX4_requireEntry 3 none, Cond.fieldLink RX4 166 "BuildingPoints$Schedule" "point" "LBuildingPoints$Point;", Cond.methodLink RX4 170 yX2_entryCount, Cond.instanceMethod yX2_entryCount, Cond.selects RX2 yX2_entryCount yX2_entryCount, Cond.code yX2_entryCount cX2_entryCount 1 (some .int)]
def wsL_law0_r18 : List Cond := [Cond.fieldLink RX2 33 "BuildingPoints$Entries" "count" "I", Cond.methodLink RX4 124 yX0_add, Cond.instanceMethod yX0_add, Cond.selects RX0 yX0_add yX0_add, Cond.code yX0_add cX0_add 4 none, Cond.methodLink RX4 129 yX4_follow, Cond.instanceMethod yX4_follow, Cond.selects RX4 yX4_follow yX4_follow, Cond.code yX4_follow cX4_follow 3 none, Cond.fieldLink RX4 200 "BuildingPoints$Schedule" "priority" "I", Cond.methodLink RX4 140 yX2_toldAt, Cond.instanceMethod yX2_toldAt, Cond.selects RX2 yX2_toldAt yX2_toldAt, Cond.code yX2_toldAt cX2_toldAt 4 (some .int), Cond.methodLink RX2 36 yX0_hasDay, Cond.instanceMethod yX0_hasDay, Cond.selects RX0 yX0_hasDay yX0_hasDay, Cond.code yX0_hasDay cX0_hasDay 3 (some .boolean), Cond.methodLink RX2 40 yX0_latest, Cond.instanceMethod yX0_latest, Cond.selects RX0 yX0_latest yX0_latest, Cond.code yX0_latest cX0_latest 6 (some .int), Cond.constant RX0 25 (-100000), Cond.methodLink RL 134 yX5_weekly]
def wsL_law0_r19 : List Cond := [Cond.instanceMethod yX5_weekly, Cond.selects RX5 yX5_weekly yX5_weekly, Cond.code yX5_weekly cX5_weekly 7 (some .int), Cond.methodLink RX5 135 yX5_isSchedule, Cond.instanceMethod yX5_isSchedule, Cond.selects RX5 yX5_isSchedule yX5_isSchedule, Cond.code yX5_isSchedule cX5_isSchedule 2 (some .boolean), Cond.methodLink RX5 138 yX5_enters, Cond.instanceMethod yX5_enters, Cond.selects RX5 yX5_enters yX5_enters, Cond.code yX5_enters cX5_enters 6 (some .int), Cond.methodLink RX5 131 yX5_obeys, Cond.instanceMethod yX5_obeys, Cond.selects RX5 yX5_obeys yX5_obeys, Cond.code yX5_obeys cX5_obeys 3 none, Cond.methodLink RX5 127 yX5_toldBy, Cond.instanceMethod yX5_toldBy, Cond.selects RX5 yX5_toldBy yX5_toldBy, Cond.code yX5_toldBy cX5_toldBy 10 (some .int), Cond.methodLink RL 135 yL_once, Cond.static yL_once, Cond.codeWith yL_once cL_once 7 (some .int) [(0, 14, 17, 25), (0, 14, 21, 13), (0, 14, 25, 15)], Cond.methodLink RL 66 yX4_once, Cond.instanceMethod yX4_once]
def wsL_law0_r20 : List Cond := [Cond.selects RX4 yX4_once yX4_once, Cond.code yX4_once cX4_once 6 (some .int), Cond.fieldLink RX4 136 "BuildingPoints$Schedule" "singleDays" "LBuildingPoints$Entries;", Cond.methodLink RL 137 yX5_once, Cond.instanceMethod yX5_once, Cond.selects RX5 yX5_once yX5_once, Cond.code yX5_once cX5_once 7 (some .int), Cond.methodLink RL 138 yL_tells, Cond.static yL_tells, Cond.codeWith yL_tells cL_tells 5 (some .int) [(0, 10, 13, 25), (0, 10, 17, 13)], Cond.methodLink RL 69 yX4_tells, Cond.instanceMethod yX4_tells, Cond.selects RX4 yX4_tells yX4_tells, Cond.code yX4_tells cX4_tells 4 (some .int), Cond.constant RX4 139 (1000000), Cond.methodLink RL 140 yX5_tells, Cond.instanceMethod yX5_tells, Cond.selects RX5 yX5_tells yX5_tells, Cond.code yX5_tells cX5_tells 3 (some .int), Cond.constant RX5 142 (1000000), Cond.methodLink RL 141 yL_pass, Cond.static yL_pass, Cond.codeWith yL_pass cL_pass 4 (some .int) [(0, 9, 12, 13), (0, 9, 15, 15)], Cond.methodLink RL 72 yX4_pass]
def wsL_law0_r21 : List Cond := [Cond.instanceMethod yX4_pass, Cond.selects RX4 yX4_pass yX4_pass, Cond.code yX4_pass cX4_pass 4 (some .int), Cond.methodLink RX4 149 yX4_passMinute, Cond.instanceMethod yX4_passMinute, Cond.selects RX4 yX4_passMinute yX4_passMinute, Cond.code yX4_passMinute cX4_passMinute 1 none, Cond.methodLink RX4 203 yX4_releaseHeldCommands, Cond.instanceMethod yX4_releaseHeldCommands, Cond.selects RX4 yX4_releaseHeldCommands yX4_releaseHeldCommands, Cond.code yX4_releaseHeldCommands cX4_releaseHeldCommands 5 none, Cond.methodLink RX4 206 yX4_endOldSubscriptions, Cond.instanceMethod yX4_endOldSubscriptions, Cond.selects RX4 yX4_endOldSubscriptions yX4_endOldSubscriptions, Cond.code yX4_endOldSubscriptions cX4_endOldSubscriptions 5 none, Cond.fieldLink RX4 212 "BuildingPoints$Subscription" "endTime" "I", Cond.methodLink RX4 209 yX4_followSchedules, Cond.instanceMethod yX4_followSchedules, Cond.selects RX4 yX4_followSchedules yX4_followSchedules, Cond.code yX4_followSchedules cX4_followSchedules 5 none, Cond.methodLink RL 143 yX5_pass, Cond.instanceMethod yX5_pass, Cond.selects RX5 yX5_pass yX5_pass, Cond.code yX5_pass cX5_pass 4 (some .int)]
def wsL_law0_r22 : List Cond := [Cond.methodLink RX5 143 yX5_minutes, Cond.instanceMethod yX5_minutes, Cond.selects RX5 yX5_minutes yX5_minutes, Cond.code yX5_minutes cX5_minutes 2 none, Cond.methodLink RL 144 yX4_clock, Cond.instanceMethod yX4_clock, Cond.selects RX4 yX4_clock yX4_clock, Cond.code yX4_clock cX4_clock 1 (some .int), Cond.methodLink RL 147 yX5_clock, Cond.instanceMethod yX5_clock, Cond.selects RX5 yX5_clock yX5_clock, Cond.code yX5_clock cX5_clock 1 (some .int)]
def wsL_law0 : List Cond := (wsL_law0_r1 ++ (wsL_law0_r2 ++ (wsL_law0_r3 ++ (wsL_law0_r4 ++ (wsL_law0_r5 ++ (wsL_law0_r6 ++ (wsL_law0_r7 ++ (wsL_law0_r8 ++ (wsL_law0_r9 ++ (wsL_law0_r10 ++ (wsL_law0_r11 ++ (wsL_law0_r12 ++ (wsL_law0_r13 ++ (wsL_law0_r14 ++ (wsL_law0_r15 ++ (wsL_law0_r16 ++ (wsL_law0_r17 ++ (wsL_law0_r18 ++ (wsL_law0_r19 ++ (wsL_law0_r20 ++ (wsL_law0_r21 ++ wsL_law0_r22))))))))))))))))))))) ++ wsX40 ++ wsX50 ++ wsX10 ++ wsX30 ++ wsX20 ++ wsX00 ++ ([] : List Cond)
def wsL_law : List Cond := wsL_law0 ++ (vx_atS RX4 156 "java/lang/IllegalArgumentException" ["java/lang/RuntimeException", "java/lang/Exception"]).filter goodWord ++ (vx_atS RX4 58 "java/lang/IllegalStateException" ["java/lang/RuntimeException", "java/lang/Exception"]).filter goodWord ++ (vx_atS RX4 177 "java/lang/IndexOutOfBoundsException" ["java/lang/RuntimeException", "java/lang/Exception"]).filter goodWord
abbrev vwCl : List vw_C := [(RX0, TX0, 4), (RX1, TX1, 8), (RX2, TX2, 5), (RX3, TX3, 6), (RX4, TX4, 8), (RX5, TX5, 25)]
end
section
/-! rows over a labelled world: w f k says what the cell of the label (f, k) holds, ad f k is its address; what lies under B is never touched -/
abbrev Wd : Type := Nat → Nat → Option va_E
abbrev Ad : Type := Nat → Nat → Nat
abbrev Me : Type := Nat → Nat → Nat → Int32
def u2 (w : Wd) (f k : Nat) (e : va_E) : Wd := fun a b => if a = f ∧ b = k then some e else w a b
def a2 (ad : Ad) (f k q : Nat) : Ad := fun a b => if a = f ∧ b = k then q else ad a b
def st3 (σ : Me) (a i j : Nat) (v : Int32) : Me := fun a' i' j' => if a' = a ∧ i' = i ∧ j' = j then v else σ a' i' j'
def ab (B : Nat) : Nat → Prop := fun q => B ≤ q
def hw (D : va_G) (B : Nat) (ad : Ad) (w : Wd) (H : Heap) : Prop :=
  (∀ (f k : Nat) (e : va_E), w f k = some e → va_at D vwCl (ad f k, e) H ∧ B ≤ ad f k) ∧
  (∀ (f k f' k' : Nat) (e e' : va_E), w f k = some e → w f' k' = some e' → ad f k = ad f' k' → f = f' ∧ k = k')
theorem u2_self (w : Wd) (f k : Nat) (e : va_E) : u2 w f k e f k = some e := by simp [u2]
theorem u2_f (w : Wd) {f k f' k' : Nat} (e : va_E) (h : f' ≠ f) : u2 w f k e f' k' = w f' k' := by simp [u2, h]
theorem u2_k (w : Wd) {f k f' k' : Nat} (e : va_E) (h : k' ≠ k) : u2 w f k e f' k' = w f' k' := by simp [u2, h]
theorem hw_one {D : va_G} {B : Nat} {ad : Ad} {w : Wd} {H : Heap} (h : hw D B ad w H) {f k : Nat} {e : va_E} (he : w f k = some e) : va_P D vwCl [(ad f k, e)] H := by
  intro i q hq
  match i, hq with
  | 0, hq => cases hq; exact (h.1 f k e he).1
  | i + 1, hq => simp at hq
theorem hw_two {D : va_G} {B : Nat} {ad : Ad} {w : Wd} {H : Heap} (h : hw D B ad w H) {f k f' k' : Nat} {e e' : va_E} (he : w f k = some e) (he' : w f' k' = some e') : va_P D vwCl [(ad f k, e), (ad f' k', e')] H := by
  intro i q hq
  match i, hq with
  | 0, hq => cases hq; exact (h.1 f k e he).1
  | 1, hq => cases hq; exact (h.1 f' k' e' he').1
  | i + 2, hq => simp at hq
theorem hw_put {D : va_G} {B : Nat} {ad : Ad} {w : Wd} {H H1 : Heap} (h : hw D B ad w H) {f k : Nat} {e0 e : va_E} (he : w f k = some e0) (h1 : va_at D vwCl (ad f k, e) H1) (oq : ∀ q : Nat, q ≠ ad f k → H1[q]? = H[q]?) : hw D B ad (u2 w f k e) H1 := by
  have key : ∀ (a b : Nat) (x : va_E), u2 w f k e a b = some x → (a = f ∧ b = k ∧ x = e) ∨ (¬ (a = f ∧ b = k) ∧ w a b = some x) := by
    intro a b x hx
    unfold u2 at hx
    by_cases hc : a = f ∧ b = k
    · rw [if_pos hc] at hx
      exact Or.inl ⟨hc.1, hc.2, (Option.some.inj hx).symm⟩
    · rw [if_neg hc] at hx
      exact Or.inr ⟨hc, hx⟩
  refine ⟨fun a b x hx => ?_, fun a b a' b' x x' hx hx' hq => ?_⟩
  · rcases key a b x hx with ⟨rfl, rfl, rfl⟩ | ⟨hc, hx⟩
    · exact ⟨h1, (h.1 _ _ _ he).2⟩
    · refine ⟨(h.1 _ _ _ hx).1.kept (oq _ (fun z => hc (h.2 _ _ _ _ _ _ hx he z))), (h.1 _ _ _ hx).2⟩
  · rcases key a b x hx with ⟨e1, e2, -⟩ | ⟨hc, h3⟩ <;> rcases key a' b' x' hx' with ⟨e1', e2', -⟩ | ⟨hc', h3'⟩
    · exact ⟨e1.trans e1'.symm, e2.trans e2'.symm⟩
    · rw [e1, e2] at hq ⊢
      exact h.2 _ _ _ _ _ _ he h3' hq
    · rw [e1', e2'] at hq ⊢
      exact h.2 _ _ _ _ _ _ h3 he hq
    · exact h.2 _ _ _ _ _ _ h3 h3' hq
theorem hw_new {D : va_G} {B : Nat} {ad : Ad} {w : Wd} {H H1 : Heap} (h : hw D B ad w H) {f k : Nat} {e : va_E} (h1 : va_at D vwCl (H.size, e) H1) (hB : B ≤ H.size) (oq : ∀ q : Nat, q < H.size → H1[q]? = H[q]?) (hn : w f k = none) : hw D B (a2 ad f k H.size) (u2 w f k e) H1 := by
  have key : ∀ (a b : Nat) (x : va_E), u2 w f k e a b = some x → (a = f ∧ b = k ∧ x = e ∧ a2 ad f k H.size a b = H.size) ∨ (w a b = some x ∧ a2 ad f k H.size a b = ad a b) := by
    intro a b x hx
    unfold u2 at hx
    unfold a2
    by_cases hc : a = f ∧ b = k
    · rw [if_pos hc] at hx
      rw [if_pos hc]
      exact Or.inl ⟨hc.1, hc.2, (Option.some.inj hx).symm, rfl⟩
    · rw [if_neg hc] at hx
      rw [if_neg hc]
      exact Or.inr ⟨hx, rfl⟩
  have lt : ∀ (a b : Nat) (x : va_E), w a b = some x → ad a b < H.size := fun a b x hx => (h.1 a b x hx).1.lt
  refine ⟨fun a b x hx => ?_, fun a b a' b' x x' hx hx' hq => ?_⟩
  · rcases key a b x hx with ⟨-, -, e1, e2⟩ | ⟨hx, e2⟩
    · rw [e2, e1]; exact ⟨h1, hB⟩
    · rw [e2]; exact ⟨(h.1 _ _ _ hx).1.kept (oq _ (lt _ _ _ hx)), (h.1 _ _ _ hx).2⟩
  · rcases key a b x hx with ⟨e1, e3, -, e2⟩ | ⟨hx, e2⟩ <;> rcases key a' b' x' hx' with ⟨e1', e3', -, e2'⟩ | ⟨hx', e2'⟩ <;> rw [e2, e2'] at hq
    · exact ⟨e1.trans e1'.symm, e3.trans e3'.symm⟩
    · exact absurd hq (Nat.ne_of_gt (lt _ _ _ hx'))
    · exact absurd hq (Nat.ne_of_lt (lt _ _ _ hx))
    · exact h.2 _ _ _ _ _ _ hx hx' hq
theorem hw_eq {D : va_G} {B : Nat} {ad : Ad} {w w' : Wd} {H : Heap} (h : hw D B ad w H) (e : w = w') : hw D B ad w' H := e ▸ h
theorem hw_lt {D : va_G} {B : Nat} {ad : Ad} {w : Wd} {H : Heap} (h : hw D B ad w H) {f k : Nat} {e : va_E} (he : w f k = some e) : ad f k < H.size := (h.1 f k e he).1.lt
theorem ab_put {B a i : Nat} {H0 H H1 : Heap} {locs : List Loc} (h : va_S (ab B) H0 H locs) (z : H1.size = H.size) (o : ∀ q : Nat, q ≠ a → H1[q]? = H[q]?) (ha : B ≤ a) : va_S (ab B) H0 H1 (locs ++ [⟨a, i⟩]) := h.put z o ha
theorem ab_new {B : Nat} {H0 H H1 : Heap} {locs : List Loc} (h : va_S (ab B) H0 H locs) (z : H.size ≤ H1.size) (o : ∀ q : Nat, q < H.size → H1[q]? = H[q]?) : va_S (ab B) H0 H1 locs := ⟨Nat.le_trans h.1 z, fun x h1 h2 => (o x (Nat.lt_of_lt_of_le h1 h.1)).trans (h.2.1 x h1 h2), h.2.2⟩
/-- the classes of the arrays: ints, booleans, longs, points, subscriptions, schedules -/
def tysD (D : va_G) : List (ClassId × FieldType) := [(D.1 100, .int), (D.1 101, .boolean), (D.1 102, .long), (D.1 103, .object RX1), (D.1 104, .object RX3), (D.1 105, .object RX2)]
abbrev eI (D : va_G) (n : Nat) (f : Nat → Int32) : va_E := .inl (D.1 100, n, .inl f)
abbrev eZ (D : va_G) (n : Nat) (f : Nat → Int32) : va_E := .inl (D.1 101, n, .inl f)
abbrev eL (D : va_G) (n : Nat) (f : Nat → Int64) : va_E := .inl (D.1 102, n, .inr (.inl f))
abbrev eR (D : va_G) (t n : Nat) (f : Nat → Option Nat) : va_E := .inl (D.1 t, n, .inr (.inr (.inr (.inr f))))
/-- what every method of the system may take as given of its start -/
def cx (D : va_G) (B : Nat) (U : State) : Prop := va_K D vwCl (tysD D) U ∧ B ≤ U.heap.size ∧ vx_Zq Bundle.tN "UNASSIGNED_STACK" Bundle.steD (ab B) U U.heap ∧ vx_Zq Bundle.tN "SUPPRESSED_SENTINEL" Bundle.listD (ab B) U U.heap
def Pre (D : va_G) (B : Nat) (ad : Ad) (w : Wd) (av : List Value) : Array Value → State → Prop := va_Pc av (fun U => cx D B U ∧ hw D B ad w U.heap)
theorem cx_to {D : va_G} {B : Nat} {s U : State} {H : Heap} {locs : List Loc} (h : cx D B s) (hS : va_S (ab B) s.heap H locs) (hU : U.heap = H) (hvm : s.vm.Alike U.vm) : cx D B U := by
  obtain ⟨h1, h2, h3, h4⟩ := h
  have keep : ∀ a : Nat, a < s.heap.size → ¬ ab B a → U.heap[a]? = s.heap[a]? := fun a q1 q2 => by rw [hU]; exact hS.2.1 a q1 q2
  exact ⟨va_K.moved hvm h1, Nat.le_trans h2 (by rw [hU]; exact hS.1), (h3.moved hvm).kept keep, (h4.moved hvm).kept keep⟩
theorem pre_blind {D : va_G} {B : Nat} {ad : Ad} {w : Wd} {av : List Value} : FrameBlind (Pre D B ad w av) := by
  intro a U g mk h
  obtain ⟨h0, ⟨h1, h2, h3, h4⟩, h5⟩ := h
  have hvm : U.vm.Alike (U.calling g mk a).vm := Vm.Alike.refl U.vm
  exact ⟨h0, ⟨va_K.moved hvm h1, h2, h3.moved hvm, h4.moved hvm⟩, h5⟩
theorem w_preS {D : va_G} {B : Nat} {s : State} {ad : Ad} {w : Wd} {H : Heap} {locs : List Loc} {As : List Value} (hC : cx D B s) (hP : hw D B ad w H) (hS : va_S (ab B) s.heap H locs) : PreS s H (Pre D B ad w As) As :=
  ⟨pre_blind, fun U hU hW => ⟨rfl, cx_to hC hS hU hW.alike, by rw [hU]; exact hP⟩⟩
theorem w_preV {D : va_G} {B : Nat} {s : State} {ad : Ad} {w : Wd} {H : Heap} {locs : List Loc} {As : List Value} {f k ci : Nat} {fs : List Value} {q : vw_C} (hC : cx D B s) (hP : hw D B ad w H) (hS : va_S (ab B) s.heap H locs) (he : w f k = some (.inr (ci, fs))) (hc : vwCl[ci]? = some q) : PreV s H q.1 (ad f k) (Pre D B ad w (.ref (ad f k) :: As)) As :=
  ⟨pre_blind, va_recv hC.1 (hw_one hP he) (q0 := 0) hc rfl, fun U hU hW => ⟨rfl, cx_to hC hS hU hW.alike, by rw [hU]; exact hP⟩⟩
/-- the ends: an int (or boolean), nothing, a reference; the world behind it -/
abbrev Qi (D : va_G) (B : Nat) (post : Int32 → Ad × Wd → Prop) : Array Value → State → Outcome → State → Prop := va_Qi post (fun u t => hw D B u.1 u.2 t.heap) (ab B)
abbrev Qv (D : va_G) (B : Nat) (post : Ad × Wd → Prop) : Array Value → State → Outcome → State → Prop := va_Qv post (fun u t => hw D B u.1 u.2 t.heap) (ab B)
abbrev Qr (D : va_G) (B : Nat) (post : Nat → Ad × Wd → Prop) : Array Value → State → Outcome → State → Prop := va_Qr (fun _ : Ad × Wd => True) (fun u a t => hw D B u.1 u.2 t.heap ∧ post a u) (ab B)
/-- the throws: which class, in which world -/
abbrev Xc (D : va_G) (B : Nat) (post : String → Ad × Wd → Prop) : String → State → State → Prop := vx_X (fun _ : Ad × Wd => True) (fun E u t => hw D B u.1 u.2 t.heap ∧ post E u) (ab B)
theorem Qi_of {D : va_G} {B : Nat} {post : Int32 → Ad × Wd → Prop} {ad : Ad} {w : Wd} {a : Array Value} {s t : State} {H : Heap} {locs : List Loc} {r : Int32} (hp : post r (ad, w)) (hP : hw D B ad w H) (hS : va_S (ab B) s.heap H locs) (ht : t.heap = H) : Qi D B post a s (.returned (some (.int r))) t :=
  ⟨⟨r, (ad, w), rfl, hp, by show hw D B ad w t.heap; rw [ht]; exact hP⟩, hS.F ht⟩
theorem Qv_of {D : va_G} {B : Nat} {post : Ad × Wd → Prop} {ad : Ad} {w : Wd} {a : Array Value} {s t : State} {H : Heap} {locs : List Loc} (hp : post (ad, w)) (hP : hw D B ad w H) (hS : va_S (ab B) s.heap H locs) (ht : t.heap = H) : Qv D B post a s (.returned none) t :=
  ⟨⟨(ad, w), rfl, hp, by show hw D B ad w t.heap; rw [ht]; exact hP⟩, hS.F ht⟩
theorem Qr_of {D : va_G} {B : Nat} {post : Nat → Ad × Wd → Prop} {ad : Ad} {w : Wd} {a : Array Value} {s t : State} {H : Heap} {locs : List Loc} {r : Nat} (hp : post r (ad, w)) (hP : hw D B ad w H) (hS : va_S (ab B) s.heap H locs) (ht : t.heap = H) : Qr D B post a s (.returned (some (.ref r))) t :=
  ⟨⟨(ad, w), r, rfl, trivial, (by show hw D B ad w t.heap; rw [ht]; exact hP), hp⟩, hS.F ht⟩
theorem Xc_of {D : va_G} {B : Nat} {post : String → Ad × Wd → Prop} {ad : Ad} {w : Wd} {s t : State} {H : Heap} {locs : List Loc} {E : String} (hp : post E (ad, w)) (hP : hw D B ad w t.heap) (hS : va_S (ab B) s.heap H locs) (hz : H.size ≤ t.heap.size) (hk : ∀ q : Nat, q < H.size → t.heap[q]? = H[q]?) : Xc D B post E s t :=
  ⟨(ad, w), trivial, ⟨hP, hp⟩, Nat.le_trans hS.1 hz, fun q h1 h2 => (hk q (Nat.lt_of_lt_of_le h1 hS.1)).trans (hS.2.1 q h1 h2)⟩
theorem hw_kept {D : va_G} {B : Nat} {ad : Ad} {w : Wd} {H H1 : Heap} (h : hw D B ad w H) (hk : ∀ q : Nat, q < H.size → H1[q]? = H[q]?) : hw D B ad w H1 :=
  ⟨fun f k e he => ⟨(h.1 f k e he).1.kept (hk _ (hw_lt h he)), (h.1 f k e he).2⟩, h.2⟩
section WR
variable {p : Program} {l : Launch} {e : Env} {R : Room} {s : State} {m : MethodId} {args : Array Value} {below : List Frame} {meth : Method} {c : Code} {H : Heap} {locs : List Loc} {cells slots : Nat} {Q : State → Prop}
variable {cc : ByteArray} {pc : Nat} {ls : Array Slot} {rest : List Value} {D : va_G} {B : Nat} {ad : Ad} {w : Wd} {H0 : Heap}
theorem w_get (hexec : p.tables.exec = Jvm.exec) (hb : c.code = cc) {own C : String} {T : u_T} {N ci index : Nat} {Ts : List Cond} (hts : ∀ w ∈ Ts, w.before args s = true) (hin : ∀ w ∈ u_ws C T N, w ∈ Ts) (hown : s.vm.findClass own = some m.cls)
    (hC : cx D B s) (hP : hw D B ad w H) {f k : Nat} {fs : List Value} (he : w f k = some (.inr (ci, fs))) (hc : vwCl[ci]? = some (C, T, N)) (j : Nat) (hj : j < N) (hlink : (Cond.fieldLink own index (T j).1 (T j).2.1 (T j).2.2.1).before args s = true)
    {v : Value} (hv : fs[j]? = some v) (hdg : decode cc pc = .ok (.getfield index, 3)) (kk : W p l e R s m args below meth c H locs cells slots Q (F0 m (pc + 3) ls (v :: rest))) : W p l e R s m args below meth c H locs cells slots Q (F0 m pc ls (.ref (ad f k) :: rest)) :=
  va_get hexec hb hts hin hown hC.1 (hw_one hP he) 0 rfl hc j hj hlink (fun _ h => h) hv hdg kk
theorem w_put (hexec : p.tables.exec = Jvm.exec) (hb : c.code = cc) {own C : String} {T : u_T} {N ci index : Nat} {Ts : List Cond} (hts : ∀ w ∈ Ts, w.before args s = true) (hin : ∀ w ∈ u_ws C T N, w ∈ Ts) (ty0 : Nat → FieldType) (hty : ∀ k, k < N → parseFieldDescriptor (T k).2.2.1 = some (ty0 k)) (hnm : ∀ a, a < N → ∀ b, b < N → a ≠ b → (T a).2.1 ≠ (T b).2.1) (hown : s.vm.findClass own = some m.cls)
    (hC : cx D B s) (hP : hw D B ad w H) (hS : va_S (ab B) H0 H locs) {f k : Nat} {fs : List Value} (he : w f k = some (.inr (ci, fs))) (hc : vwCl[ci]? = some (C, T, N)) (j : Nat) (hj : j < N) (hlink : (Cond.fieldLink own index (T j).1 (T j).2.1 (T j).2.2.1).before args s = true) (hfin : (T j).2.2.2 = false)
    {v : Value} (hn : narrow (ty0 j) v = v) (hfit : fits (ty0 j) v = true) (hl : j < fs.length) {fs' : List Value} (hf : fs.set j v = fs') (hdg : decode cc pc = .ok (.putfield index, 3))
    (kk : ∀ (H1 : Heap) (locs1 : List Loc), hw D B ad (u2 w f k (.inr (ci, fs'))) H1 → va_S (ab B) H0 H1 locs1 → W p l e R s m args below meth c H1 locs1 cells slots Q (F0 m (pc + 3) ls rest)) : W p l e R s m args below meth c H locs cells slots Q (F0 m pc ls (v :: .ref (ad f k) :: rest)) := by
  subst hf
  have hK := hC.1
  have hap := va_apart (own := own) hts hin ty0 hty hnm hK hc
  obtain ⟨⟨r, h1, cell, q1, q2, q3, q4⟩, hBa⟩ := hP.1 f k _ he
  have hr : r = (C, T, N) := Option.some.inj (h1.symm.trans hc)
  subst hr
  obtain ⟨hSl, hfc, kC, hkC, hkind⟩ := hK.1 ci _ hc
  obtain ⟨cf, kf, fi, fd, hi, hsl⟩ := hSl j hj
  have hlay := hts _ (hin _ (u_in_lay hj))
  unfold u_lay at hlay
  rw [if_neg (by rw [hfin]; decide)] at hlay
  have hst := (u_facts hfc hkC (u_lays hts hin hj) hi).1
  have h6 := u_store hfc hkC hkind hlay hi (hty j hj) hn hfit
  refine W.putK hexec hb (f := fd) ⟨hown, hlink, ⟨_, _, _, hi⟩, hst⟩ (by rw [q2]; exact h6) q1 q3 (by rw [hsl]; exact k2_hasslot (q4 j hj)) rfl rfl hdg fun H' e1 e2 e3 => ?_
  rw [hsl] at e1 ⊢
  exact kk H' _ (hw_put hP he ⟨_, hc, t_OB.to (V := updV (vp_V fs) j v) ⟨_, e1, q2, q3, t_set q4 hap hj v⟩ (fun i _ => vp_updV_set hl v i)⟩ e3) (ab_put hS e2 e3 hBa)
theorem w_putF (hexec : p.tables.exec = Jvm.exec) (hb : c.code = cc) {own C : String} {T : u_T} {N ci index : Nat} {Ts : List Cond} (hts : ∀ w ∈ Ts, w.before args s = true) (hin : ∀ w ∈ u_ws C T N, w ∈ Ts) (ty0 : Nat → FieldType) (hty : ∀ k, k < N → parseFieldDescriptor (T k).2.2.1 = some (ty0 k)) (hnm : ∀ a, a < N → ∀ b, b < N → a ≠ b → (T a).2.1 ≠ (T b).2.1) (hown : s.vm.findClass own = some m.cls)
    (hC : cx D B s) (hP : hw D B ad w H) (hS : va_S (ab B) H0 H locs) {f k : Nat} {fs : List Value} (he : w f k = some (.inr (ci, fs))) (hc : vwCl[ci]? = some (C, T, N)) (j : Nat) (hj : j < N) (hlink : (Cond.fieldLink own index (T j).1 (T j).2.1 (T j).2.2.1).before args s = true) (hfin : (T j).2.2.2 = true) (hin2 : meth.name = "<init>") (hdecl : (T j).1 = own)
    {v : Value} (hn : narrow (ty0 j) v = v) (hfit : fits (ty0 j) v = true) (hl : j < fs.length) {fs' : List Value} (hf : fs.set j v = fs') (hdg : decode cc pc = .ok (.putfield index, 3))
    (kk : ∀ (H1 : Heap) (locs1 : List Loc), hw D B ad (u2 w f k (.inr (ci, fs'))) H1 → va_S (ab B) H0 H1 locs1 → W p l e R s m args below meth c H1 locs1 cells slots Q (F0 m (pc + 3) ls rest)) : W p l e R s m args below meth c H locs cells slots Q (F0 m pc ls (v :: .ref (ad f k) :: rest)) := by
  subst hf
  have hK := hC.1
  have hap := va_apart (own := own) hts hin ty0 hty hnm hK hc
  obtain ⟨⟨r, h1, cell, q1, q2, q3, q4⟩, hBa⟩ := hP.1 f k _ he
  have hr : r = (C, T, N) := Option.some.inj (h1.symm.trans hc)
  subst hr
  obtain ⟨hSl, hfc, kC, hkC, hkind⟩ := hK.1 ci _ hc
  obtain ⟨cf, kf, fi, fd, hi, hsl⟩ := hSl j hj
  have hlay := hts _ (hin _ (u_in_lay hj))
  unfold u_lay at hlay
  rw [if_pos hfin] at hlay
  have hst := (u_facts hfc hkC (u_lays hts hin hj) hi).1
  have hcf : m.cls = cf := by
    obtain ⟨_, _, c', _, _, _, -, -, hf', -, -, -, hown2, -⟩ := Cond.laysFinal_spec hlay
    have e1 : c' = cf := by have := hi.symm.trans hf'; simp at this; exact this.1.symm
    rw [hdecl] at hown2
    rw [← e1]; exact Option.some.inj (hown.symm.trans hown2)
  have h6 := u_fits hfc hkC hkind (Or.inr hlay) hi (hty j hj) hn hfit
  refine W.putFinK hexec hb hown hlink hi hst hcf hin2 (by rw [q2]; exact h6) q1 q3 (by rw [hsl]; exact k2_hasslot (q4 j hj)) rfl rfl hdg fun H' e1 e2 e3 => ?_
  rw [hsl] at e1 ⊢
  exact kk H' _ (hw_put hP he ⟨_, hc, t_OB.to (V := updV (vp_V fs) j v) ⟨_, e1, q2, q3, t_set q4 hap hj v⟩ (fun i _ => vp_updV_set hl v i)⟩ e3) (ab_put hS e2 e3 hBa)
theorem w_iald (hexec : p.tables.exec = Jvm.exec) (hb : c.code = cc) (hC : cx D B s) (hP : hw D B ad w H) {a k n : Nat} {f : Nat → Int32} (he : w a k = some (eI D n f)) {i : Int32} (hin : vp_in i n) (hdg : decode cc pc = .ok (.iaload, 1))
    (kk : W p l e R s m args below meth c H locs cells slots Q (F0 m (pc + 1) ls (.int (f i.toNatClampNeg) :: rest))) : W p l e R s m args below meth c H locs cells slots Q (F0 m pc ls (.int i :: .ref (ad a k) :: rest)) :=
  va_iald hexec hb hC.1 (hw_one hP he) 0 0 rfl rfl hin hdg kk
theorem w_zald (hexec : p.tables.exec = Jvm.exec) (hb : c.code = cc) (hC : cx D B s) (hP : hw D B ad w H) {a k n : Nat} {f : Nat → Int32} (he : w a k = some (eZ D n f)) {i : Int32} (hin : vp_in i n) (hdg : decode cc pc = .ok (.baload, 1))
    (kk : W p l e R s m args below meth c H locs cells slots Q (F0 m (pc + 1) ls (.int (f i.toNatClampNeg) :: rest))) : W p l e R s m args below meth c H locs cells slots Q (F0 m pc ls (.int i :: .ref (ad a k) :: rest)) :=
  va_zald hexec hb hC.1 (hw_one hP he) 0 1 rfl rfl hin hdg kk
theorem w_lald (hexec : p.tables.exec = Jvm.exec) (hb : c.code = cc) (hC : cx D B s) (hP : hw D B ad w H) {a k n : Nat} {f : Nat → Int64} (he : w a k = some (eL D n f)) {i : Int32} (hin : vp_in i n) (hdg : decode cc pc = .ok (.laload, 1))
    (kk : W p l e R s m args below meth c H locs cells slots Q (F0 m (pc + 1) ls (.long (f i.toNatClampNeg) :: rest))) : W p l e R s m args below meth c H locs cells slots Q (F0 m pc ls (.int i :: .ref (ad a k) :: rest)) :=
  va_lald hexec hb hC.1 (hw_one hP he) 0 2 rfl rfl hin hdg kk
theorem w_aald (hexec : p.tables.exec = Jvm.exec) (hb : c.code = cc) (hC : cx D B s) (hP : hw D B ad w H) (t : Nat) {C : String} (ht : (tysD D)[t]? = some (D.1 (100 + t), .object C)) {a k n : Nat} {f : Nat → Option Nat} (he : w a k = some (eR D (100 + t) n f)) {i : Int32} (hin : vp_in i n) (hdg : decode cc pc = .ok (.aaload, 1)) {r : Value} (hr : va_rf (f i.toNatClampNeg) = r)
    (kk : W p l e R s m args below meth c H locs cells slots Q (F0 m (pc + 1) ls (r :: rest))) : W p l e R s m args below meth c H locs cells slots Q (F0 m pc ls (.int i :: .ref (ad a k) :: rest)) := by
  subst hr
  exact va_aldq hexec hb hC.1 (hw_one hP he) 0 t rfl ht hin hdg kk
theorem w_alen (hexec : p.tables.exec = Jvm.exec) (hb : c.code = cc) (hC : cx D B s) (hP : hw D B ad w H) (t : Nat) {ty : FieldType} (ht : (tysD D)[t]? = some (D.1 (100 + t), ty)) {a k : Nat} {x : vp_A} (he : w a k = some (.inl (D.1 (100 + t), x))) {v : Int32} (hv : Int32.ofNat x.1 = v) (hdg : decode cc pc = .ok (.arraylength, 1))
    (kk : W p l e R s m args below meth c H locs cells slots Q (F0 m (pc + 1) ls (.int v :: rest))) : W p l e R s m args below meth c H locs cells slots Q (F0 m pc ls (.ref (ad a k) :: rest)) :=
  va_alen hexec hb hC.1 (hw_one hP he) 0 t rfl ht hv hdg kk
theorem w_iast (hexec : p.tables.exec = Jvm.exec) (hb : c.code = cc) (hC : cx D B s) (hP : hw D B ad w H) (hS : va_S (ab B) H0 H locs) {a k n : Nat} {f : Nat → Int32} (he : w a k = some (eI D n f)) {i x : Int32} (hin : vp_in i n) (hdg : decode cc pc = .ok (.iastore, 1))
    (kk : ∀ (H1 : Heap) (locs1 : List Loc), hw D B ad (u2 w a k (eI D n (upd f i.toNatClampNeg x))) H1 → va_S (ab B) H0 H1 locs1 → W p l e R s m args below meth c H1 locs1 cells slots Q (F0 m (pc + 1) ls rest)) : W p l e R s m args below meth c H locs cells slots Q (F0 m pc ls (.int x :: .int i :: .ref (ad a k) :: rest)) := by
  obtain ⟨hat, hBa⟩ := hP.1 a k _ he
  refine W.iast hexec hb hat ((hC.1.2 0 _ rfl).1 n (fun j => .int (f j))) (fun q => by cases q) (by show ¬ (i < 0 ∨ (arrV _ _ _).slots.size ≤ _); rw [arrV_size]; exact hin) rfl rfl hdg fun H1 e1 z oq => ?_
  refine kk H1 _ (hw_put hP he ?_ oq) (ab_put hS z oq hBa)
  show H1[ad a k]? = some (vp_cell _ _)
  rw [e1, vp_cell_i, vp_cell_i, arrV_store]
  congr 2
  funext q
  by_cases hq : q = i.toNatClampNeg
  · subst hq; simp [updV, upd]
  · simp [updV, upd, hq]
theorem w_zast (hexec : p.tables.exec = Jvm.exec) (hb : c.code = cc) (hC : cx D B s) (hP : hw D B ad w H) (hS : va_S (ab B) H0 H locs) {a k n : Nat} {f : Nat → Int32} (he : w a k = some (eZ D n f)) {i x : Int32} (hin : vp_in i n) (hx01 : x = 0 ∨ x = 1) (hdg : decode cc pc = .ok (.bastore, 1))
    (kk : ∀ (H1 : Heap) (locs1 : List Loc), hw D B ad (u2 w a k (eZ D n (upd f i.toNatClampNeg x))) H1 → va_S (ab B) H0 H1 locs1 → W p l e R s m args below meth c H1 locs1 cells slots Q (F0 m (pc + 1) ls rest)) : W p l e R s m args below meth c H locs cells slots Q (F0 m pc ls (.int x :: .int i :: .ref (ad a k) :: rest)) := by
  obtain ⟨hat, hBa⟩ := hP.1 a k _ he
  have hnar : narrow .boolean (.int x) = .int x := by rcases hx01 with rfl | rfl <;> rfl
  refine W.zast hexec hb hat ((hC.1.2 1 _ rfl).1 n (fun j => .int (f j))) (fun q => by cases q) (by show ¬ (i < 0 ∨ (arrV _ _ _).slots.size ≤ _); rw [arrV_size]; exact hin) rfl rfl hdg fun H1 e1 z oq => ?_
  refine kk H1 _ (hw_put hP he ?_ oq) (ab_put hS z oq hBa)
  show H1[ad a k]? = some (vp_cell _ _)
  rw [e1, hnar, vp_cell_i, vp_cell_i, arrV_store]
  congr 2
  funext q
  by_cases hq : q = i.toNatClampNeg
  · subst hq; simp [updV, upd]
  · simp [updV, upd, hq]
theorem w_last (hexec : p.tables.exec = Jvm.exec) (hb : c.code = cc) (hC : cx D B s) (hP : hw D B ad w H) (hS : va_S (ab B) H0 H locs) {a k n : Nat} {f : Nat → Int64} (he : w a k = some (eL D n f)) {i : Int32} {x : Int64} (hin : vp_in i n) (hdg : decode cc pc = .ok (.lastore, 1))
    (kk : ∀ (H1 : Heap) (locs1 : List Loc), hw D B ad (u2 w a k (eL D n (vp_updL f i.toNatClampNeg x))) H1 → va_S (ab B) H0 H1 locs1 → W p l e R s m args below meth c H1 locs1 cells slots Q (F0 m (pc + 1) ls rest)) : W p l e R s m args below meth c H locs cells slots Q (F0 m pc ls (.long x :: .int i :: .ref (ad a k) :: rest)) := by
  obtain ⟨hat, hBa⟩ := hP.1 a k _ he
  refine W.last hexec hb hat ((hC.1.2 2 _ rfl).1 n (fun j => .long (f j))) (fun q => by cases q) (by show ¬ (i < 0 ∨ (arrV _ _ _).slots.size ≤ _); rw [arrV_size]; exact hin) rfl rfl hdg fun H1 e1 z oq => ?_
  refine kk H1 _ (hw_put hP he ?_ oq) (ab_put hS z oq hBa)
  show H1[ad a k]? = some (vp_cell _ _)
  rw [e1, vp_cell_l, vp_cell_l, arrV_store]
  congr 2
  funext q
  by_cases hq : q = i.toNatClampNeg
  · subst hq; simp [updV, vp_updL]
  · simp [updV, vp_updL, hq]
theorem w_aast (hexec : p.tables.exec = Jvm.exec) (hb : c.code = cc) (hC : cx D B s) (hP : hw D B ad w H) (hS : va_S (ab B) H0 H locs) (t ci : Nat) {r : vw_C} (ht : (tysD D)[t]? = some (D.1 (100 + t), .object r.1)) (hc : vwCl[ci]? = some r) {a k n f' k' : Nat} {f : Nat → Option Nat} {vs : List Value} (he : w a k = some (eR D (100 + t) n f)) (hv : w f' k' = some (.inr (ci, vs))) {i : Int32} (hin : vp_in i n) (hdg : decode cc pc = .ok (.aastore, 1))
    (kk : ∀ (H1 : Heap) (locs1 : List Loc), hw D B ad (u2 w a k (eR D (100 + t) n (va_up f i.toNatClampNeg (some (ad f' k'))))) H1 → va_S (ab B) H0 H1 locs1 → W p l e R s m args below meth c H1 locs1 cells slots Q (F0 m (pc + 1) ls rest)) : W p l e R s m args below meth c H locs cells slots Q (F0 m pc ls (.ref (ad f' k') :: .int i :: .ref (ad a k) :: rest)) := by
  obtain ⟨hat, hBa⟩ := hP.1 a k _ he
  have hlt : i.toNatClampNeg < n := Nat.not_le.mp fun q => hin (Or.inr q)
  have h0 : ¬ i < 0 := fun q => hin (Or.inl q)
  obtain ⟨⟨r', hr', cellV, g1, g2, g3, -⟩, -⟩ := hP.1 f' k' _ hv
  have hcls := (hC.1.1 ci r hc).2
  obtain ⟨kA, comp, k1, k2, k3, -⟩ := (hC.1.2 t _ ht).2
  have hcomp : comp = D.1 ci := Option.some.inj (k3.symm.trans hcls.1)
  subst hcomp
  obtain ⟨kC, hkC, -⟩ := hcls.2
  refine W.aast hexec hb hat (fun q h => by cases h) (fun h => by cases h) k1 k2 rfl hkC ⟨h0, by show _ < (arrV _ _ _).slots.size; rw [arrV_size]; exact hlt⟩ g1 (fun q h => by rw [g3] at h; cases h) (by rw [g2]; exact hkC) (by rw [g2]; exact va_assign hcls) rfl rfl hdg fun H1 e1 z oq => ?_
  refine kk H1 _ (hw_put hP he ?_ oq) (ab_put hS z oq hBa)
  show H1[ad a k]? = some (vp_cell _ _)
  rw [e1, vp_cell_q, vp_cell_q, arrV_store]
  congr 2
  funext q
  by_cases hq : q = i.toNatClampNeg
  · subst hq; simp [updV, va_up, va_rf]
  · simp [updV, va_up, hq]
theorem w_new (hexec : p.tables.exec = Jvm.exec) (hb : c.code = cc) {own C : String} {T : u_T} {N ci index : Nat} {Ts : List Cond} (hts : ∀ w ∈ Ts, w.before args s = true) (hin : ∀ w ∈ u_ws C T N, w ∈ Ts) (ty : Nat → FieldType) (hty : ∀ k, k < N → parseFieldDescriptor (T k).2.2.1 = some (ty k)) (hown : s.vm.findClass own = some m.cls) (hcl : (Cond.classLink own index C).before args s = true) (hinst : (Cond.instantiable C N).before args s = true) (hini : (Cond.initialized C).before args s = true)
    (hC : cx D B s) (hP : hw D B ad w H) (hS : va_S (ab B) s.heap H locs) (hc : vwCl[ci]? = some (C, T, N)) {fs : List Value} (hfs : ∀ j, j < N → defaultValue (ty j) = vp_V fs j) (hcells : cells + 1 ≤ R.cells) (hslots : slots + N ≤ R.slots) (f k : Nat) (hn : w f k = none) (hdg : decode cc pc = .ok (.new index, 3))
    (kk : ∀ (q : Nat) (H1 : Heap), a2 ad f k q f k = q → hw D B (a2 ad f k q) (u2 w f k (.inr (ci, fs))) H1 → va_S (ab B) s.heap H1 locs → W p l e R s m args below meth c H1 locs (cells + 1) (slots + N) Q (F0 m (pc + 3) ls (.ref q :: rest))) : W p l e R s m args below meth c H locs cells slots Q (F0 m pc ls rest) := by
  have hKn := hC.1.1 ci _ hc
  refine W.newcK hexec hb hown hcl hinst hini rfl hdg hcells hslots hKn.2.1 rfl fun H1 kC hkC e1 z1 o1 => ?_
  refine kk H.size H1 (by simp [a2]) (hw_new hP ⟨_, hc, (u_born ty hts hin hKn hkC e1 hty).to hfs⟩ (Nat.le_trans hC.2.1 hS.1) o1 hn) (ab_new hS (by omega) o1)
theorem w_newa (hexec : p.tables.exec = Jvm.exec) (hb : c.code = cc) {atype : ArrayType} (harr : (Cond.arrayClass (newarray.typeOf atype)).before args s = true) (t : Nat) (ht : (tysD D)[t]? = some (D.1 (100 + t), newarray.typeOf atype)) (hre : ∀ C, newarray.typeOf atype ≠ .object C) (hC : cx D B s) (hP : hw D B ad w H) (hS : va_S (ab B) s.heap H locs)
    {n : Int32} {N' : Nat} {a0 : vp_A} (ha : ∀ cA : ClassId, vp_cell cA a0 = arrV cA N' (fun _ => defaultValue (newarray.typeOf atype))) (hn : ¬ n < 0) (hN : n.toNatClampNeg = N') (hbytes : N' * componentBytes (newarray.typeOf atype) ≤ 536870912) (hcells : cells + 1 ≤ R.cells) (hslots : slots + N' ≤ R.slots) (f k : Nat) (hno : w f k = none) (hdg : decode cc pc = .ok (.newarray atype, 2))
    (kk : ∀ (q : Nat) (H1 : Heap), a2 ad f k q f k = q → hw D B (a2 ad f k q) (u2 w f k (.inl (D.1 (100 + t), a0))) H1 → va_S (ab B) s.heap H1 locs → W p l e R s m args below meth c H1 locs (cells + 1) (slots + N') Q (F0 m (pc + 2) ls (.ref q :: rest))) : W p l e R s m args below meth c H locs cells slots Q (F0 m pc ls (.int n :: rest)) := by
  refine va_newaK hexec hb harr rfl hdg rfl hn hN hbytes hcells hslots rfl fun H1 cA e1 z1 o1 hAr hNm => ?_
  have hcA : cA = D.1 (100 + t) := by
    have h2 := (hC.1.2 t _ ht).2
    cases atype <;> exact Option.some.inj (hNm.symm.trans h2)
  subst hcA
  refine kk H.size H1 (by simp [a2]) (hw_new hP ?_ (Nat.le_trans hC.2.1 hS.1) o1 hno) (ab_new hS (by omega) o1)
  show H1[H.size]? = some (vp_cell _ _)
  rw [ha]
  exact e1
theorem w_newq (hexec : p.tables.exec = Jvm.exec) (hb : c.code = cc) {own C : String} {index : Nat} (hown : s.vm.findClass own = some m.cls) (hclink : (Cond.classLink own index C).before args s = true) (hover : (Cond.arrayOver (.object C)).before args s = true) (t : Nat) (ht : (tysD D)[t]? = some (D.1 (100 + t), .object C)) (hC : cx D B s) (hP : hw D B ad w H) (hS : va_S (ab B) s.heap H locs)
    {n : Int32} {N' : Nat} (hn : ¬ n < 0) (hN : n.toNatClampNeg = N') (hbytes : N' * 4 ≤ 536870912) (hcells : cells + 1 ≤ R.cells) (hslots : slots + N' ≤ R.slots) (f k : Nat) (hno : w f k = none) (hdg : decode cc pc = .ok (.anewarray index, 3))
    (kk : ∀ (q : Nat) (H1 : Heap), a2 ad f k q f k = q → hw D B (a2 ad f k q) (u2 w f k (eR D (100 + t) N' (fun _ => none))) H1 → va_S (ab B) s.heap H1 locs → W p l e R s m args below meth c H1 locs (cells + 1) (slots + N') Q (F0 m (pc + 3) ls (.ref q :: rest))) : W p l e R s m args below meth c H locs cells slots Q (F0 m pc ls (.int n :: rest)) := by
  subst hN
  refine W.anew hexec hb hown hclink hover rfl hdg rfl hn hbytes hcells hslots fun cA kA comp f1 f2 f3 f4 => ?_
  have hcA : cA = D.1 (100 + t) := by
    obtain ⟨kA', comp', -, -, -, h2⟩ := (hC.1.2 t _ ht).2
    exact Option.some.inj (f1.symm.trans h2)
  subst hcA
  generalize hH1 : H.push ({ cls := D.1 (100 + t), slots := Array.replicate n.toNatClampNeg .null, vm := .none } : Cell) = H1
  have z1 : H1.size = H.size + 1 := by rw [← hH1, Array.size_push]
  have e1 : H1[H.size]? = some (arrV (D.1 (100 + t)) n.toNatClampNeg (fun _ => .null)) := by rw [← hH1, Array.getElem?_push_size, ← arrV_new]
  have o1 : ∀ q : Nat, q < H.size → H1[q]? = H[q]? := fun q hq => by rw [← hH1, Array.getElem?_push, if_neg (Nat.ne_of_lt hq)]
  refine kk H.size H1 (by simp [a2]) (hw_new hP ?_ (Nat.le_trans hC.2.1 hS.1) o1 hno) (ab_new hS (by omega) o1)
  show H1[H.size]? = some (vp_cell _ _)
  rw [vp_cell_q]
  exact e1
theorem w_calli {post : Int32 → Ad × Wd → Prop} {st0 : List Value} {a : Array Value} {mc ms : Nat} (hr : va_Run p l e R s m args below meth c H locs cells slots mc ms (F0 m pc ls st0) rest (Qi D B post a) (ab B)) (hS : va_S (ab B) H0 H locs)
    (kk : ∀ (r : Int32) (ad1 : Ad) (w1 : Wd) (H1 : Heap) (locs1 : List Loc), post r (ad1, w1) → hw D B ad1 w1 H1 → va_S (ab B) H0 H1 locs1 → W p l e R s m args below meth c H1 locs1 (cells + mc) (slots + ms) Q (F0 m (pc + 3) ls (.int r :: rest))) : W p l e R s m args below meth c H locs cells slots Q (F0 m pc ls st0) :=
  va_calli hr hS (fun _ _ h => h) (fun _ h => h) (fun r u t H1 locs1 ht _ hp hB _ _ hS1 => kk r u.1 u.2 H1 locs1 hp (ht ▸ hB) hS1)
theorem w_callv {post : Ad × Wd → Prop} {st0 : List Value} {a : Array Value} {mc ms : Nat} (hr : va_Run p l e R s m args below meth c H locs cells slots mc ms (F0 m pc ls st0) rest (Qv D B post a) (ab B)) (hS : va_S (ab B) H0 H locs)
    (kk : ∀ (ad1 : Ad) (w1 : Wd) (H1 : Heap) (locs1 : List Loc), post (ad1, w1) → hw D B ad1 w1 H1 → va_S (ab B) H0 H1 locs1 → W p l e R s m args below meth c H1 locs1 (cells + mc) (slots + ms) Q (F0 m (pc + 3) ls rest)) : W p l e R s m args below meth c H locs cells slots Q (F0 m pc ls st0) :=
  va_callv hr hS (fun _ _ h => h) (fun _ h => h) (fun u t H1 locs1 ht _ hp hB _ _ hS1 => kk u.1 u.2 H1 locs1 hp (ht ▸ hB) hS1)
theorem w_callr {post : Nat → Ad × Wd → Prop} {st0 : List Value} {a : Array Value} {mc ms : Nat} (hr : va_Run p l e R s m args below meth c H locs cells slots mc ms (F0 m pc ls st0) rest (Qr D B post a) (ab B)) (hS : va_S (ab B) H0 H locs)
    (kk : ∀ (r : Nat) (ad1 : Ad) (w1 : Wd) (H1 : Heap) (locs1 : List Loc), post r (ad1, w1) → hw D B ad1 w1 H1 → va_S (ab B) H0 H1 locs1 → W p l e R s m args below meth c H1 locs1 (cells + mc) (slots + ms) Q (F0 m (pc + 3) ls (.ref r :: rest))) : W p l e R s m args below meth c H locs cells slots Q (F0 m pc ls st0) :=
  va_callr hr hS (fun _ _ h => h) (fun _ h => h) (fun u r t H1 locs1 ht _ _ hB _ _ hS1 => kk r u.1 u.2 H1 locs1 hB.2 (ht ▸ hB.1) hS1)
/-- calls that may throw: behind a throw, the world that it leaves -/
theorem y_calli {post : Int32 → Ad × Wd → Prop} {px : String → Ad × Wd → Prop} {st0 : List Value} {a : Array Value} {mc ms : Nat} (hr : vx_Run p l e R s m args below meth c H locs cells slots mc ms (F0 m pc ls st0) rest (Qi D B post a) (Xc D B px) (ab B)) (hS : va_S (ab B) H0 H locs)
    (kx : ∀ (E : String) (ce : Cell) (q9 : Addr) (ad1 : Ad) (w1 : Wd) (H1 : Heap) (locs1 : List Loc), px E (ad1, w1) → hw D B ad1 w1 H1 → va_S (ab B) H0 H1 locs1 → H1[q9]? = some ce → ce.vm = .none → s.vm.findClass E = some ce.cls → vx_W p l e R s m args below meth c H1 locs1 (cells + mc) (slots + ms) Q (F0 m pc ls rest) q9)
    (kk : ∀ (r : Int32) (ad1 : Ad) (w1 : Wd) (H1 : Heap) (locs1 : List Loc), post r (ad1, w1) → hw D B ad1 w1 H1 → va_S (ab B) H0 H1 locs1 → W p l e R s m args below meth c H1 locs1 (cells + mc) (slots + ms) Q (F0 m (pc + 3) ls (.int r :: rest))) : W p l e R s m args below meth c H locs cells slots Q (F0 m pc ls st0) :=
  vx_calli hr hS (fun _ _ h => h) (fun _ h => h) (fun _ _ h => h) (fun E ce q9 u t H1 locs1 ht _ _ hB _ _ hS1 h1 h2 h3 => kx E ce q9 u.1 u.2 H1 locs1 hB.2 (ht ▸ hB.1) hS1 h1 h2 h3) (fun r u t H1 locs1 ht _ hp hB _ _ hS1 => kk r u.1 u.2 H1 locs1 hp (ht ▸ hB) hS1)
theorem y_callv {post : Ad × Wd → Prop} {px : String → Ad × Wd → Prop} {st0 : List Value} {a : Array Value} {mc ms : Nat} (hr : vx_Run p l e R s m args below meth c H locs cells slots mc ms (F0 m pc ls st0) rest (Qv D B post a) (Xc D B px) (ab B)) (hS : va_S (ab B) H0 H locs)
    (kx : ∀ (E : String) (ce : Cell) (q9 : Addr) (ad1 : Ad) (w1 : Wd) (H1 : Heap) (locs1 : List Loc), px E (ad1, w1) → hw D B ad1 w1 H1 → va_S (ab B) H0 H1 locs1 → H1[q9]? = some ce → ce.vm = .none → s.vm.findClass E = some ce.cls → vx_W p l e R s m args below meth c H1 locs1 (cells + mc) (slots + ms) Q (F0 m pc ls rest) q9)
    (kk : ∀ (ad1 : Ad) (w1 : Wd) (H1 : Heap) (locs1 : List Loc), post (ad1, w1) → hw D B ad1 w1 H1 → va_S (ab B) H0 H1 locs1 → W p l e R s m args below meth c H1 locs1 (cells + mc) (slots + ms) Q (F0 m (pc + 3) ls rest)) : W p l e R s m args below meth c H locs cells slots Q (F0 m pc ls st0) :=
  vx_callv hr hS (fun _ _ h => h) (fun _ h => h) (fun _ _ h => h) (fun E ce q9 u t H1 locs1 ht _ _ hB _ _ hS1 h1 h2 h3 => kx E ce q9 u.1 u.2 H1 locs1 hB.2 (ht ▸ hB.1) hS1 h1 h2 h3) (fun u t H1 locs1 ht _ hp hB _ _ hS1 => kk u.1 u.2 H1 locs1 hp (ht ▸ hB) hS1)
theorem y_callr {post : Nat → Ad × Wd → Prop} {px : String → Ad × Wd → Prop} {st0 : List Value} {a : Array Value} {mc ms : Nat} (hr : vx_Run p l e R s m args below meth c H locs cells slots mc ms (F0 m pc ls st0) rest (Qr D B post a) (Xc D B px) (ab B)) (hS : va_S (ab B) H0 H locs)
    (kx : ∀ (E : String) (ce : Cell) (q9 : Addr) (ad1 : Ad) (w1 : Wd) (H1 : Heap) (locs1 : List Loc), px E (ad1, w1) → hw D B ad1 w1 H1 → va_S (ab B) H0 H1 locs1 → H1[q9]? = some ce → ce.vm = .none → s.vm.findClass E = some ce.cls → vx_W p l e R s m args below meth c H1 locs1 (cells + mc) (slots + ms) Q (F0 m pc ls rest) q9)
    (kk : ∀ (r : Nat) (ad1 : Ad) (w1 : Wd) (H1 : Heap) (locs1 : List Loc), post r (ad1, w1) → hw D B ad1 w1 H1 → va_S (ab B) H0 H1 locs1 → W p l e R s m args below meth c H1 locs1 (cells + mc) (slots + ms) Q (F0 m (pc + 3) ls (.ref r :: rest))) : W p l e R s m args below meth c H locs cells slots Q (F0 m pc ls st0) :=
  by
  intro T hT X
  rcases hr T hT X with ⟨v, st₀, t, T', L, h0, X', hL, e1, e2, ⟨⟨u, r, hv, -, hb⟩, hF⟩, st⟩ | ⟨q, st₀, t, T', L, E, ce, h0, X', hL, e1, e2, ⟨u, -, hb, hF⟩, hce, hcv, hcl, st⟩
  · cases hv
    obtain ⟨-, -, k3⟩ := vx_keep h0 e1 hS (fun _ _ h => h) (fun _ h => h) hL hF
    obtain ⟨t2, a1, b1⟩ := kk r u.1 u.2 T'.heap (locs ++ L) hb.2 (by rw [e1]; exact hb.1) k3 T' rfl X'
    exact ⟨t2, st t2 a1, b1⟩
  · obtain ⟨-, -, k3⟩ := vx_keep h0 e1 hS (fun _ _ h => h) (fun _ h => h) hL hF
    obtain ⟨t2, a1, b1⟩ := kx E ce q u.1 u.2 T'.heap (locs ++ L) hb.2 (by rw [e1]; exact hb.1) k3 (by rw [e1]; exact hce) hcv hcl T' rfl X'
    exact ⟨t2, st.trans a1, b1⟩
end WR
end
section
/-! what a state of the system is: memories by attribute, object and place; the cells as functions of them.
attributes: 1 isSwitch 2 first 3 least 4 until 5 changed 6 commands (by priority) 7 present; 8 of 9 increment 10 over 11 ended 12 sent 13 kept; 14 to 15 at 16 last 17 entries 18 when 19 minute 20 tells; 21 count 22 days 23 minutes 24 told (of the class's lists of entries: 2c, 2c+1); 25 clock 26 told -/
abbrev GC : Type := Nat × Nat × Nat
def loF (x : Int32) : Int32 := if x = 1 then 0 else -1000
def hiF (x : Int32) : Int32 := if x = 1 then 1 else 1000
abbrev eEn (ad : Ad) (σ : Me) (k : Nat) : va_E := .inr (0, [.ref (ad 9 k), .ref (ad 10 k), .ref (ad 11 k), .int (σ 21 k 0)])
abbrev ePt (ad : Ad) (σ : Me) (k : Nat) : va_E := .inr (1, [.int (loF (σ 1 k 0)), .int (hiF (σ 1 k 0)), .int (σ 2 k 0), .int (σ 3 k 0), .ref (ad 8 k), .int (σ 7 k 0), .int (σ 4 k 0), .int (σ 5 k 0)])
abbrev eSc (ad : Ad) (σ : Me) (k : Nat) : va_E := .inr (2, [.ref (ad 1 (σ 14 k 0).toNatClampNeg), .int (σ 15 k 0), .ref (ad 0 (2 * k)), .ref (ad 0 (2 * k + 1)), .int (σ 16 k 0)])
abbrev eSu (ad : Ad) (σ : Me) (k : Nat) : va_E := .inr (3, [.ref (ad 1 (σ 8 k 0).toNatClampNeg), .int (σ 9 k 0), .int (σ 10 k 0), .int (σ 13 k 0), .int (σ 12 k 0), .int (1 - σ 11 k 0)])
abbrev eBP (ad : Ad) (g : GC) (σ : Me) : va_E := .inr (4, [.ref (ad 7 0), .ref (ad 7 1), .ref (ad 7 2), .int (nI g.1), .int (nI g.2.1), .int (nI g.2.2), .int (σ 25 0 0), .int (σ 26 0 0)])
abbrev eMo (ad : Ad) (h : GC) (τ : Me) (th : Int32) : va_E := .inr (5, [.int (τ 25 0 0), .int (nI h.1), .int (nI h.2.1), .int (nI h.2.2), .int (τ 26 0 0), .ref (ad 12 0), .ref (ad 12 1), .ref (ad 12 2), .ref (ad 12 3), .ref (ad 12 4), .ref (ad 12 5), .ref (ad 12 6), .ref (ad 12 7), .ref (ad 12 8), .ref (ad 12 9), .ref (ad 12 10), .ref (ad 12 11), .ref (ad 12 12), .ref (ad 12 13), .ref (ad 12 14), .ref (ad 12 15), .ref (ad 12 16), .ref (ad 12 17), .ref (ad 12 18), .int th])
abbrev eOu (D : va_G) (o : Int64) : va_E := eL D 1 (fun j => if j = 0 then o else 0)
abbrev fP (ad : Ad) (f n : Nat) : Nat → Option Nat := fun j => if j < n then some (ad f j) else none
def mAr (D : va_G) (τ : Me) (k : Nat) : Option va_E :=
  match k with
  | 0 => some (eZ D 16 (fun q => τ 1 q 0))
  | 1 => some (eI D 16 (fun q => τ 2 q 0))
  | 2 => some (eI D 16 (fun q => τ 3 q 0))
  | 3 => some (eI D 16 (fun q => τ 4 q 0))
  | 4 => some (eI D 16 (fun q => τ 5 q 0))
  | 5 => some (eI D 256 (fun q => τ 6 (q / 16) (q % 16 + 1)))
  | 6 => some (eI D 30 (fun q => τ 8 q 0))
  | 7 => some (eI D 30 (fun q => τ 9 q 0))
  | 8 => some (eI D 30 (fun q => τ 10 q 0))
  | 9 => some (eZ D 30 (fun q => τ 11 q 0))
  | 10 => some (eI D 30 (fun q => τ 12 q 0))
  | 11 => some (eI D 30 (fun q => τ 13 q 0))
  | 12 => some (eI D 4 (fun q => τ 14 q 0))
  | 13 => some (eI D 4 (fun q => τ 15 q 0))
  | 14 => some (eI D 4 (fun q => τ 16 q 0))
  | 15 => some (eI D 4 (fun q => τ 17 q 0))
  | 16 => some (eI D 80 (fun q => τ 18 (q / 20) (q % 20)))
  | 17 => some (eI D 80 (fun q => τ 19 (q / 20) (q % 20)))
  | 18 => some (eI D 80 (fun q => τ 20 (q / 20) (q % 20)))
  | _ => none
def cW (D : va_G) (ad : Ad) (S : GC × Me) (T : GC × Me × Int32) (o : Int64) : Wd := fun f k =>
  match f with
  | 0 => if k < 2 * S.1.2.2 then some (eEn ad S.2 k) else none
  | 1 => if k < S.1.1 then some (ePt ad S.2 k) else none
  | 2 => if k < S.1.2.2 then some (eSc ad S.2 k) else none
  | 3 => if k < S.1.2.1 then some (eSu ad S.2 k) else none
  | 4 => if k = 0 then some (eBP ad S.1 S.2) else none
  | 5 => if k = 0 then some (eMo ad T.1 T.2.1 T.2.2) else none
  | 6 => if k = 0 then some (eOu D o) else none
  | 7 => if k = 0 then some (eR D 103 16 (fP ad 1 S.1.1)) else if k = 1 then some (eR D 104 30 (fP ad 3 S.1.2.1)) else if k = 2 then some (eR D 105 4 (fP ad 2 S.1.2.2)) else none
  | 8 => if k < S.1.1 then some (eI D 17 (S.2 6 k)) else none
  | 9 => if k < 2 * S.1.2.2 then some (eI D 20 (S.2 22 k)) else none
  | 10 => if k < 2 * S.1.2.2 then some (eI D 20 (S.2 23 k)) else none
  | 11 => if k < 2 * S.1.2.2 then some (eI D 20 (S.2 24 k)) else none
  | 12 => mAr D T.2.1 k
  | _ => none
theorem st3_n {σ : Me} {a i j a1 : Nat} {v : Int32} (h : a1 ≠ a) : st3 σ a i j v a1 = σ a1 := by funext i1 j1; simp [st3, h]
theorem st3_i {σ : Me} {a i j a1 i1 : Nat} {v : Int32} (h : i1 ≠ i) : st3 σ a i j v a1 i1 = σ a1 i1 := by funext j1; simp [st3, h]
theorem st3_s {σ : Me} {a i j : Nat} {v : Int32} : st3 σ a i j v a i = upd (σ a i) j v := by funext j1; simp [st3, upd]
theorem st3_v {σ : Me} {a i j : Nat} {v : Int32} : st3 σ a i j v a i j = v := by simp [st3]
theorem st3_j {σ : Me} {a i j a1 i1 j1 : Nat} {v : Int32} (h : j1 ≠ j) : st3 σ a i j v a1 i1 j1 = σ a1 i1 j1 := by simp [st3, h]
section CW
variable {D : va_G} {ad : Ad} {g h : GC} {σ τ : Me} {S : GC × Me} {T : GC × Me × Int32} {th : Int32} {o : Int64} {k : Nat}
theorem cW_0 (hk : k < 2 * g.2.2) : cW D ad (g, σ) T o 0 k = some (eEn ad σ k) := by show (if k < 2 * g.2.2 then _ else _) = _; rw [if_pos hk]
theorem cW_1 (hk : k < g.1) : cW D ad (g, σ) T o 1 k = some (ePt ad σ k) := by show (if k < g.1 then _ else _) = _; rw [if_pos hk]
theorem cW_2 (hk : k < g.2.2) : cW D ad (g, σ) T o 2 k = some (eSc ad σ k) := by show (if k < g.2.2 then _ else _) = _; rw [if_pos hk]
theorem cW_3 (hk : k < g.2.1) : cW D ad (g, σ) T o 3 k = some (eSu ad σ k) := by show (if k < g.2.1 then _ else _) = _; rw [if_pos hk]
theorem cW_8 (hk : k < g.1) : cW D ad (g, σ) T o 8 k = some (eI D 17 (σ 6 k)) := by show (if k < g.1 then _ else _) = _; rw [if_pos hk]
theorem cW_9 (hk : k < 2 * g.2.2) : cW D ad (g, σ) T o 9 k = some (eI D 20 (σ 22 k)) := by show (if k < 2 * g.2.2 then _ else _) = _; rw [if_pos hk]
theorem cW_10 (hk : k < 2 * g.2.2) : cW D ad (g, σ) T o 10 k = some (eI D 20 (σ 23 k)) := by show (if k < 2 * g.2.2 then _ else _) = _; rw [if_pos hk]
theorem cW_11 (hk : k < 2 * g.2.2) : cW D ad (g, σ) T o 11 k = some (eI D 20 (σ 24 k)) := by show (if k < 2 * g.2.2 then _ else _) = _; rw [if_pos hk]
theorem cW_4 : cW D ad (g, σ) T o 4 0 = some (eBP ad g σ) := rfl
theorem cW_5 : cW D ad S (h, τ, th) o 5 0 = some (eMo ad h τ th) := rfl
theorem cW_6 : cW D ad S T o 6 0 = some (eOu D o) := rfl
theorem cW_70 : cW D ad (g, σ) T o 7 0 = some (eR D 103 16 (fP ad 1 g.1)) := rfl
theorem cW_71 : cW D ad (g, σ) T o 7 1 = some (eR D 104 30 (fP ad 3 g.2.1)) := rfl
theorem cW_72 : cW D ad (g, σ) T o 7 2 = some (eR D 105 4 (fP ad 2 g.2.2)) := rfl
theorem cW_12_0 : cW D ad S (h, τ, th) o 12 0 = some (eZ D 16 (fun q => τ 1 q 0)) := rfl
theorem cW_12_1 : cW D ad S (h, τ, th) o 12 1 = some (eI D 16 (fun q => τ 2 q 0)) := rfl
theorem cW_12_2 : cW D ad S (h, τ, th) o 12 2 = some (eI D 16 (fun q => τ 3 q 0)) := rfl
theorem cW_12_3 : cW D ad S (h, τ, th) o 12 3 = some (eI D 16 (fun q => τ 4 q 0)) := rfl
theorem cW_12_4 : cW D ad S (h, τ, th) o 12 4 = some (eI D 16 (fun q => τ 5 q 0)) := rfl
theorem cW_12_5 : cW D ad S (h, τ, th) o 12 5 = some (eI D 256 (fun q => τ 6 (q / 16) (q % 16 + 1))) := rfl
theorem cW_12_6 : cW D ad S (h, τ, th) o 12 6 = some (eI D 30 (fun q => τ 8 q 0)) := rfl
theorem cW_12_7 : cW D ad S (h, τ, th) o 12 7 = some (eI D 30 (fun q => τ 9 q 0)) := rfl
theorem cW_12_8 : cW D ad S (h, τ, th) o 12 8 = some (eI D 30 (fun q => τ 10 q 0)) := rfl
theorem cW_12_9 : cW D ad S (h, τ, th) o 12 9 = some (eZ D 30 (fun q => τ 11 q 0)) := rfl
theorem cW_12_10 : cW D ad S (h, τ, th) o 12 10 = some (eI D 30 (fun q => τ 12 q 0)) := rfl
theorem cW_12_11 : cW D ad S (h, τ, th) o 12 11 = some (eI D 30 (fun q => τ 13 q 0)) := rfl
theorem cW_12_12 : cW D ad S (h, τ, th) o 12 12 = some (eI D 4 (fun q => τ 14 q 0)) := rfl
theorem cW_12_13 : cW D ad S (h, τ, th) o 12 13 = some (eI D 4 (fun q => τ 15 q 0)) := rfl
theorem cW_12_14 : cW D ad S (h, τ, th) o 12 14 = some (eI D 4 (fun q => τ 16 q 0)) := rfl
theorem cW_12_15 : cW D ad S (h, τ, th) o 12 15 = some (eI D 4 (fun q => τ 17 q 0)) := rfl
theorem cW_12_16 : cW D ad S (h, τ, th) o 12 16 = some (eI D 80 (fun q => τ 18 (q / 20) (q % 20))) := rfl
theorem cW_12_17 : cW D ad S (h, τ, th) o 12 17 = some (eI D 80 (fun q => τ 19 (q / 20) (q % 20))) := rfl
theorem cW_12_18 : cW D ad S (h, τ, th) o 12 18 = some (eI D 80 (fun q => τ 20 (q / 20) (q % 20))) := rfl
theorem pE3 (hk : k < 2 * g.2.2) (v : Int32) : u2 (cW D ad (g, σ) T o) 0 k (.inr (0, [.ref (ad 9 k), .ref (ad 10 k), .ref (ad 11 k), .int v])) = cW D ad (g, st3 σ 21 k 0 v) T o := by
  funext f1 k1
  unfold u2
  split
  · rename_i h1
    obtain ⟨rfl, rfl⟩ := h1
    simp only [cW, if_pos hk]
    simp [eEn, ePt, eSc, eSu, st3_n, st3_v]
  · rename_i h1
    match f1, h1 with
    | 0, h1 => have hk1 : k1 ≠ k := fun z => h1 ⟨rfl, z⟩; simp [cW, eEn, ePt, eSc, eSu, eBP, eMo, st3_n, st3_i hk1]
    | 1, h1 => simp [cW, eEn, ePt, eSc, eSu, eBP, eMo, st3_n, st3_v]
    | 2, h1 => simp [cW, eEn, ePt, eSc, eSu, eBP, eMo, st3_n, st3_v]
    | 3, h1 => simp [cW, eEn, ePt, eSc, eSu, eBP, eMo, st3_n, st3_v]
    | 4, h1 => simp [cW, eEn, ePt, eSc, eSu, eBP, eMo, st3_n, st3_v]
    | 5, h1 => rfl
    | 6, h1 => rfl
    | 7, h1 => rfl
    | 8, h1 => simp [cW, eEn, ePt, eSc, eSu, eBP, eMo, st3_n, st3_v]
    | 9, h1 => simp [cW, eEn, ePt, eSc, eSu, eBP, eMo, st3_n, st3_v]
    | 10, h1 => simp [cW, eEn, ePt, eSc, eSu, eBP, eMo, st3_n, st3_v]
    | 11, h1 => simp [cW, eEn, ePt, eSc, eSu, eBP, eMo, st3_n, st3_v]
    | 12, h1 => rfl
    | n + 13, h1 => rfl
theorem pP5 (hk : k < g.1) (v : Int32) : u2 (cW D ad (g, σ) T o) 1 k (.inr (1, [.int (loF (σ 1 k 0)), .int (hiF (σ 1 k 0)), .int (σ 2 k 0), .int (σ 3 k 0), .ref (ad 8 k), .int v, .int (σ 4 k 0), .int (σ 5 k 0)])) = cW D ad (g, st3 σ 7 k 0 v) T o := by
  funext f1 k1
  unfold u2
  split
  · rename_i h1
    obtain ⟨rfl, rfl⟩ := h1
    simp only [cW, if_pos hk]
    simp [eEn, ePt, eSc, eSu, st3_n, st3_v]
  · rename_i h1
    match f1, h1 with
    | 0, h1 => simp [cW, eEn, ePt, eSc, eSu, eBP, eMo, st3_n, st3_v]
    | 1, h1 => have hk1 : k1 ≠ k := fun z => h1 ⟨rfl, z⟩; simp [cW, eEn, ePt, eSc, eSu, eBP, eMo, st3_n, st3_i hk1]
    | 2, h1 => simp [cW, eEn, ePt, eSc, eSu, eBP, eMo, st3_n, st3_v]
    | 3, h1 => simp [cW, eEn, ePt, eSc, eSu, eBP, eMo, st3_n, st3_v]
    | 4, h1 => simp [cW, eEn, ePt, eSc, eSu, eBP, eMo, st3_n, st3_v]
    | 5, h1 => rfl
    | 6, h1 => rfl
    | 7, h1 => rfl
    | 8, h1 => simp [cW, eEn, ePt, eSc, eSu, eBP, eMo, st3_n, st3_v]
    | 9, h1 => simp [cW, eEn, ePt, eSc, eSu, eBP, eMo, st3_n, st3_v]
    | 10, h1 => simp [cW, eEn, ePt, eSc, eSu, eBP, eMo, st3_n, st3_v]
    | 11, h1 => simp [cW, eEn, ePt, eSc, eSu, eBP, eMo, st3_n, st3_v]
    | 12, h1 => rfl
    | n + 13, h1 => rfl
theorem pP6 (hk : k < g.1) (v : Int32) : u2 (cW D ad (g, σ) T o) 1 k (.inr (1, [.int (loF (σ 1 k 0)), .int (hiF (σ 1 k 0)), .int (σ 2 k 0), .int (σ 3 k 0), .ref (ad 8 k), .int (σ 7 k 0), .int v, .int (σ 5 k 0)])) = cW D ad (g, st3 σ 4 k 0 v) T o := by
  funext f1 k1
  unfold u2
  split
  · rename_i h1
    obtain ⟨rfl, rfl⟩ := h1
    simp only [cW, if_pos hk]
    simp [eEn, ePt, eSc, eSu, st3_n, st3_v]
  · rename_i h1
    match f1, h1 with
    | 0, h1 => simp [cW, eEn, ePt, eSc, eSu, eBP, eMo, st3_n, st3_v]
    | 1, h1 => have hk1 : k1 ≠ k := fun z => h1 ⟨rfl, z⟩; simp [cW, eEn, ePt, eSc, eSu, eBP, eMo, st3_n, st3_i hk1]
    | 2, h1 => simp [cW, eEn, ePt, eSc, eSu, eBP, eMo, st3_n, st3_v]
    | 3, h1 => simp [cW, eEn, ePt, eSc, eSu, eBP, eMo, st3_n, st3_v]
    | 4, h1 => simp [cW, eEn, ePt, eSc, eSu, eBP, eMo, st3_n, st3_v]
    | 5, h1 => rfl
    | 6, h1 => rfl
    | 7, h1 => rfl
    | 8, h1 => simp [cW, eEn, ePt, eSc, eSu, eBP, eMo, st3_n, st3_v]
    | 9, h1 => simp [cW, eEn, ePt, eSc, eSu, eBP, eMo, st3_n, st3_v]
    | 10, h1 => simp [cW, eEn, ePt, eSc, eSu, eBP, eMo, st3_n, st3_v]
    | 11, h1 => simp [cW, eEn, ePt, eSc, eSu, eBP, eMo, st3_n, st3_v]
    | 12, h1 => rfl
    | n + 13, h1 => rfl
theorem pP7 (hk : k < g.1) (v : Int32) : u2 (cW D ad (g, σ) T o) 1 k (.inr (1, [.int (loF (σ 1 k 0)), .int (hiF (σ 1 k 0)), .int (σ 2 k 0), .int (σ 3 k 0), .ref (ad 8 k), .int (σ 7 k 0), .int (σ 4 k 0), .int v])) = cW D ad (g, st3 σ 5 k 0 v) T o := by
  funext f1 k1
  unfold u2
  split
  · rename_i h1
    obtain ⟨rfl, rfl⟩ := h1
    simp only [cW, if_pos hk]
    simp [eEn, ePt, eSc, eSu, st3_n, st3_v]
  · rename_i h1
    match f1, h1 with
    | 0, h1 => simp [cW, eEn, ePt, eSc, eSu, eBP, eMo, st3_n, st3_v]
    | 1, h1 => have hk1 : k1 ≠ k := fun z => h1 ⟨rfl, z⟩; simp [cW, eEn, ePt, eSc, eSu, eBP, eMo, st3_n, st3_i hk1]
    | 2, h1 => simp [cW, eEn, ePt, eSc, eSu, eBP, eMo, st3_n, st3_v]
    | 3, h1 => simp [cW, eEn, ePt, eSc, eSu, eBP, eMo, st3_n, st3_v]
    | 4, h1 => simp [cW, eEn, ePt, eSc, eSu, eBP, eMo, st3_n, st3_v]
    | 5, h1 => rfl
    | 6, h1 => rfl
    | 7, h1 => rfl
    | 8, h1 => simp [cW, eEn, ePt, eSc, eSu, eBP, eMo, st3_n, st3_v]
    | 9, h1 => simp [cW, eEn, ePt, eSc, eSu, eBP, eMo, st3_n, st3_v]
    | 10, h1 => simp [cW, eEn, ePt, eSc, eSu, eBP, eMo, st3_n, st3_v]
    | 11, h1 => simp [cW, eEn, ePt, eSc, eSu, eBP, eMo, st3_n, st3_v]
    | 12, h1 => rfl
    | n + 13, h1 => rfl
theorem pC4 (hk : k < g.2.2) (v : Int32) : u2 (cW D ad (g, σ) T o) 2 k (.inr (2, [.ref (ad 1 (σ 14 k 0).toNatClampNeg), .int (σ 15 k 0), .ref (ad 0 (2 * k)), .ref (ad 0 (2 * k + 1)), .int v])) = cW D ad (g, st3 σ 16 k 0 v) T o := by
  funext f1 k1
  unfold u2
  split
  · rename_i h1
    obtain ⟨rfl, rfl⟩ := h1
    simp only [cW, if_pos hk]
    simp [eEn, ePt, eSc, eSu, st3_n, st3_v]
  · rename_i h1
    match f1, h1 with
    | 0, h1 => simp [cW, eEn, ePt, eSc, eSu, eBP, eMo, st3_n, st3_v]
    | 1, h1 => simp [cW, eEn, ePt, eSc, eSu, eBP, eMo, st3_n, st3_v]
    | 2, h1 => have hk1 : k1 ≠ k := fun z => h1 ⟨rfl, z⟩; simp [cW, eEn, ePt, eSc, eSu, eBP, eMo, st3_n, st3_i hk1]
    | 3, h1 => simp [cW, eEn, ePt, eSc, eSu, eBP, eMo, st3_n, st3_v]
    | 4, h1 => simp [cW, eEn, ePt, eSc, eSu, eBP, eMo, st3_n, st3_v]
    | 5, h1 => rfl
    | 6, h1 => rfl
    | 7, h1 => rfl
    | 8, h1 => simp [cW, eEn, ePt, eSc, eSu, eBP, eMo, st3_n, st3_v]
    | 9, h1 => simp [cW, eEn, ePt, eSc, eSu, eBP, eMo, st3_n, st3_v]
    | 10, h1 => simp [cW, eEn, ePt, eSc, eSu, eBP, eMo, st3_n, st3_v]
    | 11, h1 => simp [cW, eEn, ePt, eSc, eSu, eBP, eMo, st3_n, st3_v]
    | 12, h1 => rfl
    | n + 13, h1 => rfl
theorem pS3 (hk : k < g.2.1) (v : Int32) : u2 (cW D ad (g, σ) T o) 3 k (.inr (3, [.ref (ad 1 (σ 8 k 0).toNatClampNeg), .int (σ 9 k 0), .int (σ 10 k 0), .int v, .int (σ 12 k 0), .int (1 - σ 11 k 0)])) = cW D ad (g, st3 σ 13 k 0 v) T o := by
  funext f1 k1
  unfold u2
  split
  · rename_i h1
    obtain ⟨rfl, rfl⟩ := h1
    simp only [cW, if_pos hk]
    simp [eEn, ePt, eSc, eSu, st3_n, st3_v]
  · rename_i h1
    match f1, h1 with
    | 0, h1 => simp [cW, eEn, ePt, eSc, eSu, eBP, eMo, st3_n, st3_v]
    | 1, h1 => simp [cW, eEn, ePt, eSc, eSu, eBP, eMo, st3_n, st3_v]
    | 2, h1 => simp [cW, eEn, ePt, eSc, eSu, eBP, eMo, st3_n, st3_v]
    | 3, h1 => have hk1 : k1 ≠ k := fun z => h1 ⟨rfl, z⟩; simp [cW, eEn, ePt, eSc, eSu, eBP, eMo, st3_n, st3_i hk1]
    | 4, h1 => simp [cW, eEn, ePt, eSc, eSu, eBP, eMo, st3_n, st3_v]
    | 5, h1 => rfl
    | 6, h1 => rfl
    | 7, h1 => rfl
    | 8, h1 => simp [cW, eEn, ePt, eSc, eSu, eBP, eMo, st3_n, st3_v]
    | 9, h1 => simp [cW, eEn, ePt, eSc, eSu, eBP, eMo, st3_n, st3_v]
    | 10, h1 => simp [cW, eEn, ePt, eSc, eSu, eBP, eMo, st3_n, st3_v]
    | 11, h1 => simp [cW, eEn, ePt, eSc, eSu, eBP, eMo, st3_n, st3_v]
    | 12, h1 => rfl
    | n + 13, h1 => rfl
theorem pS4 (hk : k < g.2.1) (v : Int32) : u2 (cW D ad (g, σ) T o) 3 k (.inr (3, [.ref (ad 1 (σ 8 k 0).toNatClampNeg), .int (σ 9 k 0), .int (σ 10 k 0), .int (σ 13 k 0), .int v, .int (1 - σ 11 k 0)])) = cW D ad (g, st3 σ 12 k 0 v) T o := by
  funext f1 k1
  unfold u2
  split
  · rename_i h1
    obtain ⟨rfl, rfl⟩ := h1
    simp only [cW, if_pos hk]
    simp [eEn, ePt, eSc, eSu, st3_n, st3_v]
  · rename_i h1
    match f1, h1 with
    | 0, h1 => simp [cW, eEn, ePt, eSc, eSu, eBP, eMo, st3_n, st3_v]
    | 1, h1 => simp [cW, eEn, ePt, eSc, eSu, eBP, eMo, st3_n, st3_v]
    | 2, h1 => simp [cW, eEn, ePt, eSc, eSu, eBP, eMo, st3_n, st3_v]
    | 3, h1 => have hk1 : k1 ≠ k := fun z => h1 ⟨rfl, z⟩; simp [cW, eEn, ePt, eSc, eSu, eBP, eMo, st3_n, st3_i hk1]
    | 4, h1 => simp [cW, eEn, ePt, eSc, eSu, eBP, eMo, st3_n, st3_v]
    | 5, h1 => rfl
    | 6, h1 => rfl
    | 7, h1 => rfl
    | 8, h1 => simp [cW, eEn, ePt, eSc, eSu, eBP, eMo, st3_n, st3_v]
    | 9, h1 => simp [cW, eEn, ePt, eSc, eSu, eBP, eMo, st3_n, st3_v]
    | 10, h1 => simp [cW, eEn, ePt, eSc, eSu, eBP, eMo, st3_n, st3_v]
    | 11, h1 => simp [cW, eEn, ePt, eSc, eSu, eBP, eMo, st3_n, st3_v]
    | 12, h1 => rfl
    | n + 13, h1 => rfl
theorem pS5 (hk : k < g.2.1) (v : Int32) : u2 (cW D ad (g, σ) T o) 3 k (.inr (3, [.ref (ad 1 (σ 8 k 0).toNatClampNeg), .int (σ 9 k 0), .int (σ 10 k 0), .int (σ 13 k 0), .int (σ 12 k 0), .int (1 - v)])) = cW D ad (g, st3 σ 11 k 0 v) T o := by
  funext f1 k1
  unfold u2
  split
  · rename_i h1
    obtain ⟨rfl, rfl⟩ := h1
    simp only [cW, if_pos hk]
    simp [eEn, ePt, eSc, eSu, st3_n, st3_v]
  · rename_i h1
    match f1, h1 with
    | 0, h1 => simp [cW, eEn, ePt, eSc, eSu, eBP, eMo, st3_n, st3_v]
    | 1, h1 => simp [cW, eEn, ePt, eSc, eSu, eBP, eMo, st3_n, st3_v]
    | 2, h1 => simp [cW, eEn, ePt, eSc, eSu, eBP, eMo, st3_n, st3_v]
    | 3, h1 => have hk1 : k1 ≠ k := fun z => h1 ⟨rfl, z⟩; simp [cW, eEn, ePt, eSc, eSu, eBP, eMo, st3_n, st3_i hk1]
    | 4, h1 => simp [cW, eEn, ePt, eSc, eSu, eBP, eMo, st3_n, st3_v]
    | 5, h1 => rfl
    | 6, h1 => rfl
    | 7, h1 => rfl
    | 8, h1 => simp [cW, eEn, ePt, eSc, eSu, eBP, eMo, st3_n, st3_v]
    | 9, h1 => simp [cW, eEn, ePt, eSc, eSu, eBP, eMo, st3_n, st3_v]
    | 10, h1 => simp [cW, eEn, ePt, eSc, eSu, eBP, eMo, st3_n, st3_v]
    | 11, h1 => simp [cW, eEn, ePt, eSc, eSu, eBP, eMo, st3_n, st3_v]
    | 12, h1 => rfl
    | n + 13, h1 => rfl
theorem pB6 (v : Int32) : u2 (cW D ad (g, σ) T o) 4 0 (.inr (4, [.ref (ad 7 0), .ref (ad 7 1), .ref (ad 7 2), .int (nI g.1), .int (nI g.2.1), .int (nI g.2.2), .int v, .int (σ 26 0 0)])) = cW D ad (g, st3 σ 25 0 0 v) T o := by
  funext f1 k1
  unfold u2
  split
  · rename_i h1
    obtain ⟨rfl, rfl⟩ := h1
    simp [cW, eEn, ePt, eSc, eSu, eBP, eMo, st3_n, st3_v]
  · rename_i h1
    match f1, h1 with
    | 0, h1 => simp [cW, eEn, ePt, eSc, eSu, eBP, eMo, st3_n, st3_v]
    | 1, h1 => simp [cW, eEn, ePt, eSc, eSu, eBP, eMo, st3_n, st3_v]
    | 2, h1 => simp [cW, eEn, ePt, eSc, eSu, eBP, eMo, st3_n, st3_v]
    | 3, h1 => simp [cW, eEn, ePt, eSc, eSu, eBP, eMo, st3_n, st3_v]
    | 4, h1 => have hk1 : k1 ≠ 0 := fun z => h1 ⟨rfl, z⟩; simp only [cW, if_neg hk1]
    | 5, h1 => rfl
    | 6, h1 => rfl
    | 7, h1 => rfl
    | 8, h1 => simp [cW, eEn, ePt, eSc, eSu, eBP, eMo, st3_n, st3_v]
    | 9, h1 => simp [cW, eEn, ePt, eSc, eSu, eBP, eMo, st3_n, st3_v]
    | 10, h1 => simp [cW, eEn, ePt, eSc, eSu, eBP, eMo, st3_n, st3_v]
    | 11, h1 => simp [cW, eEn, ePt, eSc, eSu, eBP, eMo, st3_n, st3_v]
    | 12, h1 => rfl
    | n + 13, h1 => rfl
theorem pB7 (v : Int32) : u2 (cW D ad (g, σ) T o) 4 0 (.inr (4, [.ref (ad 7 0), .ref (ad 7 1), .ref (ad 7 2), .int (nI g.1), .int (nI g.2.1), .int (nI g.2.2), .int (σ 25 0 0), .int v])) = cW D ad (g, st3 σ 26 0 0 v) T o := by
  funext f1 k1
  unfold u2
  split
  · rename_i h1
    obtain ⟨rfl, rfl⟩ := h1
    simp [cW, eEn, ePt, eSc, eSu, eBP, eMo, st3_n, st3_v]
  · rename_i h1
    match f1, h1 with
    | 0, h1 => simp [cW, eEn, ePt, eSc, eSu, eBP, eMo, st3_n, st3_v]
    | 1, h1 => simp [cW, eEn, ePt, eSc, eSu, eBP, eMo, st3_n, st3_v]
    | 2, h1 => simp [cW, eEn, ePt, eSc, eSu, eBP, eMo, st3_n, st3_v]
    | 3, h1 => simp [cW, eEn, ePt, eSc, eSu, eBP, eMo, st3_n, st3_v]
    | 4, h1 => have hk1 : k1 ≠ 0 := fun z => h1 ⟨rfl, z⟩; simp only [cW, if_neg hk1]
    | 5, h1 => rfl
    | 6, h1 => rfl
    | 7, h1 => rfl
    | 8, h1 => simp [cW, eEn, ePt, eSc, eSu, eBP, eMo, st3_n, st3_v]
    | 9, h1 => simp [cW, eEn, ePt, eSc, eSu, eBP, eMo, st3_n, st3_v]
    | 10, h1 => simp [cW, eEn, ePt, eSc, eSu, eBP, eMo, st3_n, st3_v]
    | 11, h1 => simp [cW, eEn, ePt, eSc, eSu, eBP, eMo, st3_n, st3_v]
    | 12, h1 => rfl
    | n + 13, h1 => rfl
theorem pK8 (hk : k < g.1) (j : Nat) (v : Int32) : u2 (cW D ad (g, σ) T o) 8 k (eI D 17 (upd (σ 6 k) j v)) = cW D ad (g, st3 σ 6 k j v) T o := by
  funext f1 k1
  unfold u2
  split
  · rename_i h1
    obtain ⟨rfl, rfl⟩ := h1
    simp only [cW, if_pos hk]
    rw [st3_s]
  · rename_i h1
    match f1, h1 with
    | 0, h1 => simp [cW, eEn, ePt, eSc, eSu, eBP, eMo, st3_n, st3_v]
    | 1, h1 => simp [cW, eEn, ePt, eSc, eSu, eBP, eMo, st3_n, st3_v]
    | 2, h1 => simp [cW, eEn, ePt, eSc, eSu, eBP, eMo, st3_n, st3_v]
    | 3, h1 => simp [cW, eEn, ePt, eSc, eSu, eBP, eMo, st3_n, st3_v]
    | 4, h1 => simp [cW, eEn, ePt, eSc, eSu, eBP, eMo, st3_n, st3_v]
    | 5, h1 => rfl
    | 6, h1 => rfl
    | 7, h1 => rfl
    | 8, h1 => have hk1 : k1 ≠ k := fun z => h1 ⟨rfl, z⟩; simp [cW, eEn, ePt, eSc, eSu, eBP, eMo, st3_n, st3_i hk1]
    | 9, h1 => simp [cW, eEn, ePt, eSc, eSu, eBP, eMo, st3_n, st3_v]
    | 10, h1 => simp [cW, eEn, ePt, eSc, eSu, eBP, eMo, st3_n, st3_v]
    | 11, h1 => simp [cW, eEn, ePt, eSc, eSu, eBP, eMo, st3_n, st3_v]
    | 12, h1 => rfl
    | n + 13, h1 => rfl
theorem pK9 (hk : k < 2 * g.2.2) (j : Nat) (v : Int32) : u2 (cW D ad (g, σ) T o) 9 k (eI D 20 (upd (σ 22 k) j v)) = cW D ad (g, st3 σ 22 k j v) T o := by
  funext f1 k1
  unfold u2
  split
  · rename_i h1
    obtain ⟨rfl, rfl⟩ := h1
    simp only [cW, if_pos hk]
    rw [st3_s]
  · rename_i h1
    match f1, h1 with
    | 0, h1 => simp [cW, eEn, ePt, eSc, eSu, eBP, eMo, st3_n, st3_v]
    | 1, h1 => simp [cW, eEn, ePt, eSc, eSu, eBP, eMo, st3_n, st3_v]
    | 2, h1 => simp [cW, eEn, ePt, eSc, eSu, eBP, eMo, st3_n, st3_v]
    | 3, h1 => simp [cW, eEn, ePt, eSc, eSu, eBP, eMo, st3_n, st3_v]
    | 4, h1 => simp [cW, eEn, ePt, eSc, eSu, eBP, eMo, st3_n, st3_v]
    | 5, h1 => rfl
    | 6, h1 => rfl
    | 7, h1 => rfl
    | 8, h1 => simp [cW, eEn, ePt, eSc, eSu, eBP, eMo, st3_n, st3_v]
    | 9, h1 => have hk1 : k1 ≠ k := fun z => h1 ⟨rfl, z⟩; simp [cW, eEn, ePt, eSc, eSu, eBP, eMo, st3_n, st3_i hk1]
    | 10, h1 => simp [cW, eEn, ePt, eSc, eSu, eBP, eMo, st3_n, st3_v]
    | 11, h1 => simp [cW, eEn, ePt, eSc, eSu, eBP, eMo, st3_n, st3_v]
    | 12, h1 => rfl
    | n + 13, h1 => rfl
theorem pK10 (hk : k < 2 * g.2.2) (j : Nat) (v : Int32) : u2 (cW D ad (g, σ) T o) 10 k (eI D 20 (upd (σ 23 k) j v)) = cW D ad (g, st3 σ 23 k j v) T o := by
  funext f1 k1
  unfold u2
  split
  · rename_i h1
    obtain ⟨rfl, rfl⟩ := h1
    simp only [cW, if_pos hk]
    rw [st3_s]
  · rename_i h1
    match f1, h1 with
    | 0, h1 => simp [cW, eEn, ePt, eSc, eSu, eBP, eMo, st3_n, st3_v]
    | 1, h1 => simp [cW, eEn, ePt, eSc, eSu, eBP, eMo, st3_n, st3_v]
    | 2, h1 => simp [cW, eEn, ePt, eSc, eSu, eBP, eMo, st3_n, st3_v]
    | 3, h1 => simp [cW, eEn, ePt, eSc, eSu, eBP, eMo, st3_n, st3_v]
    | 4, h1 => simp [cW, eEn, ePt, eSc, eSu, eBP, eMo, st3_n, st3_v]
    | 5, h1 => rfl
    | 6, h1 => rfl
    | 7, h1 => rfl
    | 8, h1 => simp [cW, eEn, ePt, eSc, eSu, eBP, eMo, st3_n, st3_v]
    | 9, h1 => simp [cW, eEn, ePt, eSc, eSu, eBP, eMo, st3_n, st3_v]
    | 10, h1 => have hk1 : k1 ≠ k := fun z => h1 ⟨rfl, z⟩; simp [cW, eEn, ePt, eSc, eSu, eBP, eMo, st3_n, st3_i hk1]
    | 11, h1 => simp [cW, eEn, ePt, eSc, eSu, eBP, eMo, st3_n, st3_v]
    | 12, h1 => rfl
    | n + 13, h1 => rfl
theorem pK11 (hk : k < 2 * g.2.2) (j : Nat) (v : Int32) : u2 (cW D ad (g, σ) T o) 11 k (eI D 20 (upd (σ 24 k) j v)) = cW D ad (g, st3 σ 24 k j v) T o := by
  funext f1 k1
  unfold u2
  split
  · rename_i h1
    obtain ⟨rfl, rfl⟩ := h1
    simp only [cW, if_pos hk]
    rw [st3_s]
  · rename_i h1
    match f1, h1 with
    | 0, h1 => simp [cW, eEn, ePt, eSc, eSu, eBP, eMo, st3_n, st3_v]
    | 1, h1 => simp [cW, eEn, ePt, eSc, eSu, eBP, eMo, st3_n, st3_v]
    | 2, h1 => simp [cW, eEn, ePt, eSc, eSu, eBP, eMo, st3_n, st3_v]
    | 3, h1 => simp [cW, eEn, ePt, eSc, eSu, eBP, eMo, st3_n, st3_v]
    | 4, h1 => simp [cW, eEn, ePt, eSc, eSu, eBP, eMo, st3_n, st3_v]
    | 5, h1 => rfl
    | 6, h1 => rfl
    | 7, h1 => rfl
    | 8, h1 => simp [cW, eEn, ePt, eSc, eSu, eBP, eMo, st3_n, st3_v]
    | 9, h1 => simp [cW, eEn, ePt, eSc, eSu, eBP, eMo, st3_n, st3_v]
    | 10, h1 => simp [cW, eEn, ePt, eSc, eSu, eBP, eMo, st3_n, st3_v]
    | 11, h1 => have hk1 : k1 ≠ k := fun z => h1 ⟨rfl, z⟩; simp [cW, eEn, ePt, eSc, eSu, eBP, eMo, st3_n, st3_i hk1]
    | 12, h1 => rfl
    | n + 13, h1 => rfl
theorem pM0 (v : Int32) : u2 (cW D ad S (h, τ, th) o) 5 0 (.inr (5, [.int v, .int (nI h.1), .int (nI h.2.1), .int (nI h.2.2), .int (τ 26 0 0), .ref (ad 12 0), .ref (ad 12 1), .ref (ad 12 2), .ref (ad 12 3), .ref (ad 12 4), .ref (ad 12 5), .ref (ad 12 6), .ref (ad 12 7), .ref (ad 12 8), .ref (ad 12 9), .ref (ad 12 10), .ref (ad 12 11), .ref (ad 12 12), .ref (ad 12 13), .ref (ad 12 14), .ref (ad 12 15), .ref (ad 12 16), .ref (ad 12 17), .ref (ad 12 18), .int th])) = cW D ad S (h, st3 τ 25 0 0 v, th) o := by
  funext f1 k1
  unfold u2
  split
  · rename_i h1
    obtain ⟨rfl, rfl⟩ := h1
    simp [cW, eMo, st3_n, st3_v]
  · rename_i h1
    match f1, h1 with
    | 0, h1 => rfl
    | 1, h1 => rfl
    | 2, h1 => rfl
    | 3, h1 => rfl
    | 4, h1 => rfl
    | 5, h1 => have hk1 : k1 ≠ 0 := fun z => h1 ⟨rfl, z⟩; simp [cW, hk1]
    | 6, h1 => rfl
    | 7, h1 => rfl
    | 8, h1 => rfl
    | 9, h1 => rfl
    | 10, h1 => rfl
    | 11, h1 => rfl
    | 12, h1 =>
      show mAr D _ k1 = mAr D _ k1
      match k1 with
      | 0 => simp [mAr, st3_n]
      | 1 => simp [mAr, st3_n]
      | 2 => simp [mAr, st3_n]
      | 3 => simp [mAr, st3_n]
      | 4 => simp [mAr, st3_n]
      | 5 => simp [mAr, st3_n]
      | 6 => simp [mAr, st3_n]
      | 7 => simp [mAr, st3_n]
      | 8 => simp [mAr, st3_n]
      | 9 => simp [mAr, st3_n]
      | 10 => simp [mAr, st3_n]
      | 11 => simp [mAr, st3_n]
      | 12 => simp [mAr, st3_n]
      | 13 => simp [mAr, st3_n]
      | 14 => simp [mAr, st3_n]
      | 15 => simp [mAr, st3_n]
      | 16 => simp [mAr, st3_n]
      | 17 => simp [mAr, st3_n]
      | 18 => simp [mAr, st3_n]
      | n + 19 => rfl
    | n + 13, h1 => rfl
theorem pM4 (v : Int32) : u2 (cW D ad S (h, τ, th) o) 5 0 (.inr (5, [.int (τ 25 0 0), .int (nI h.1), .int (nI h.2.1), .int (nI h.2.2), .int v, .ref (ad 12 0), .ref (ad 12 1), .ref (ad 12 2), .ref (ad 12 3), .ref (ad 12 4), .ref (ad 12 5), .ref (ad 12 6), .ref (ad 12 7), .ref (ad 12 8), .ref (ad 12 9), .ref (ad 12 10), .ref (ad 12 11), .ref (ad 12 12), .ref (ad 12 13), .ref (ad 12 14), .ref (ad 12 15), .ref (ad 12 16), .ref (ad 12 17), .ref (ad 12 18), .int th])) = cW D ad S (h, st3 τ 26 0 0 v, th) o := by
  funext f1 k1
  unfold u2
  split
  · rename_i h1
    obtain ⟨rfl, rfl⟩ := h1
    simp [cW, eMo, st3_n, st3_v]
  · rename_i h1
    match f1, h1 with
    | 0, h1 => rfl
    | 1, h1 => rfl
    | 2, h1 => rfl
    | 3, h1 => rfl
    | 4, h1 => rfl
    | 5, h1 => have hk1 : k1 ≠ 0 := fun z => h1 ⟨rfl, z⟩; simp [cW, hk1]
    | 6, h1 => rfl
    | 7, h1 => rfl
    | 8, h1 => rfl
    | 9, h1 => rfl
    | 10, h1 => rfl
    | 11, h1 => rfl
    | 12, h1 =>
      show mAr D _ k1 = mAr D _ k1
      match k1 with
      | 0 => simp [mAr, st3_n]
      | 1 => simp [mAr, st3_n]
      | 2 => simp [mAr, st3_n]
      | 3 => simp [mAr, st3_n]
      | 4 => simp [mAr, st3_n]
      | 5 => simp [mAr, st3_n]
      | 6 => simp [mAr, st3_n]
      | 7 => simp [mAr, st3_n]
      | 8 => simp [mAr, st3_n]
      | 9 => simp [mAr, st3_n]
      | 10 => simp [mAr, st3_n]
      | 11 => simp [mAr, st3_n]
      | 12 => simp [mAr, st3_n]
      | 13 => simp [mAr, st3_n]
      | 14 => simp [mAr, st3_n]
      | 15 => simp [mAr, st3_n]
      | 16 => simp [mAr, st3_n]
      | 17 => simp [mAr, st3_n]
      | 18 => simp [mAr, st3_n]
      | n + 19 => rfl
    | n + 13, h1 => rfl
theorem pM24 (v : Int32) : u2 (cW D ad S (h, τ, th) o) 5 0 (.inr (5, [.int (τ 25 0 0), .int (nI h.1), .int (nI h.2.1), .int (nI h.2.2), .int (τ 26 0 0), .ref (ad 12 0), .ref (ad 12 1), .ref (ad 12 2), .ref (ad 12 3), .ref (ad 12 4), .ref (ad 12 5), .ref (ad 12 6), .ref (ad 12 7), .ref (ad 12 8), .ref (ad 12 9), .ref (ad 12 10), .ref (ad 12 11), .ref (ad 12 12), .ref (ad 12 13), .ref (ad 12 14), .ref (ad 12 15), .ref (ad 12 16), .ref (ad 12 17), .ref (ad 12 18), .int v])) = cW D ad S (h, τ, v) o := by
  funext f1 k1
  unfold u2
  split
  · rename_i h1
    obtain ⟨rfl, rfl⟩ := h1
    simp [cW, eMo, st3_n, st3_v]
  · rename_i h1
    match f1, h1 with
    | 0, h1 => rfl
    | 1, h1 => rfl
    | 2, h1 => rfl
    | 3, h1 => rfl
    | 4, h1 => rfl
    | 5, h1 => have hk1 : k1 ≠ 0 := fun z => h1 ⟨rfl, z⟩; simp [cW, hk1]
    | 6, h1 => rfl
    | 7, h1 => rfl
    | 8, h1 => rfl
    | 9, h1 => rfl
    | 10, h1 => rfl
    | 11, h1 => rfl
    | 12, h1 => rfl
    | n + 13, h1 => rfl
theorem pM1 (v : Nat) : u2 (cW D ad S (h, τ, th) o) 5 0 (.inr (5, [.int (τ 25 0 0), .int (nI v), .int (nI h.2.1), .int (nI h.2.2), .int (τ 26 0 0), .ref (ad 12 0), .ref (ad 12 1), .ref (ad 12 2), .ref (ad 12 3), .ref (ad 12 4), .ref (ad 12 5), .ref (ad 12 6), .ref (ad 12 7), .ref (ad 12 8), .ref (ad 12 9), .ref (ad 12 10), .ref (ad 12 11), .ref (ad 12 12), .ref (ad 12 13), .ref (ad 12 14), .ref (ad 12 15), .ref (ad 12 16), .ref (ad 12 17), .ref (ad 12 18), .int th])) = cW D ad S ((v, h.2), τ, th) o := by
  funext f1 k1
  unfold u2
  split
  · rename_i h1
    obtain ⟨rfl, rfl⟩ := h1
    simp [cW, eMo, st3_n, st3_v]
  · rename_i h1
    match f1, h1 with
    | 0, h1 => rfl
    | 1, h1 => rfl
    | 2, h1 => rfl
    | 3, h1 => rfl
    | 4, h1 => rfl
    | 5, h1 => have hk1 : k1 ≠ 0 := fun z => h1 ⟨rfl, z⟩; simp [cW, hk1]
    | 6, h1 => rfl
    | 7, h1 => rfl
    | 8, h1 => rfl
    | 9, h1 => rfl
    | 10, h1 => rfl
    | 11, h1 => rfl
    | 12, h1 => rfl
    | n + 13, h1 => rfl
theorem pM2 (v : Nat) : u2 (cW D ad S (h, τ, th) o) 5 0 (.inr (5, [.int (τ 25 0 0), .int (nI h.1), .int (nI v), .int (nI h.2.2), .int (τ 26 0 0), .ref (ad 12 0), .ref (ad 12 1), .ref (ad 12 2), .ref (ad 12 3), .ref (ad 12 4), .ref (ad 12 5), .ref (ad 12 6), .ref (ad 12 7), .ref (ad 12 8), .ref (ad 12 9), .ref (ad 12 10), .ref (ad 12 11), .ref (ad 12 12), .ref (ad 12 13), .ref (ad 12 14), .ref (ad 12 15), .ref (ad 12 16), .ref (ad 12 17), .ref (ad 12 18), .int th])) = cW D ad S ((h.1, v, h.2.2), τ, th) o := by
  funext f1 k1
  unfold u2
  split
  · rename_i h1
    obtain ⟨rfl, rfl⟩ := h1
    simp [cW, eMo, st3_n, st3_v]
  · rename_i h1
    match f1, h1 with
    | 0, h1 => rfl
    | 1, h1 => rfl
    | 2, h1 => rfl
    | 3, h1 => rfl
    | 4, h1 => rfl
    | 5, h1 => have hk1 : k1 ≠ 0 := fun z => h1 ⟨rfl, z⟩; simp [cW, hk1]
    | 6, h1 => rfl
    | 7, h1 => rfl
    | 8, h1 => rfl
    | 9, h1 => rfl
    | 10, h1 => rfl
    | 11, h1 => rfl
    | 12, h1 => rfl
    | n + 13, h1 => rfl
theorem pM3 (v : Nat) : u2 (cW D ad S (h, τ, th) o) 5 0 (.inr (5, [.int (τ 25 0 0), .int (nI h.1), .int (nI h.2.1), .int (nI v), .int (τ 26 0 0), .ref (ad 12 0), .ref (ad 12 1), .ref (ad 12 2), .ref (ad 12 3), .ref (ad 12 4), .ref (ad 12 5), .ref (ad 12 6), .ref (ad 12 7), .ref (ad 12 8), .ref (ad 12 9), .ref (ad 12 10), .ref (ad 12 11), .ref (ad 12 12), .ref (ad 12 13), .ref (ad 12 14), .ref (ad 12 15), .ref (ad 12 16), .ref (ad 12 17), .ref (ad 12 18), .int th])) = cW D ad S ((h.1, h.2.1, v), τ, th) o := by
  funext f1 k1
  unfold u2
  split
  · rename_i h1
    obtain ⟨rfl, rfl⟩ := h1
    simp [cW, eMo, st3_n, st3_v]
  · rename_i h1
    match f1, h1 with
    | 0, h1 => rfl
    | 1, h1 => rfl
    | 2, h1 => rfl
    | 3, h1 => rfl
    | 4, h1 => rfl
    | 5, h1 => have hk1 : k1 ≠ 0 := fun z => h1 ⟨rfl, z⟩; simp [cW, hk1]
    | 6, h1 => rfl
    | 7, h1 => rfl
    | 8, h1 => rfl
    | 9, h1 => rfl
    | 10, h1 => rfl
    | 11, h1 => rfl
    | 12, h1 => rfl
    | n + 13, h1 => rfl
theorem pA0 (p : Nat) (v : Int32) : u2 (cW D ad S (h, τ, th) o) 12 0 (eZ D 16 (upd (fun q => τ 1 q 0) p v)) = cW D ad S (h, st3 τ 1 p 0 v, th) o := by
  funext f1 k1
  unfold u2
  split
  · rename_i h1
    obtain ⟨rfl, rfl⟩ := h1
    show some _ = some _
    congr 4
    funext q1
    simp [upd, st3]
  · rename_i h1
    match f1, h1 with
    | 0, h1 => rfl
    | 1, h1 => rfl
    | 2, h1 => rfl
    | 3, h1 => rfl
    | 4, h1 => rfl
    | 5, h1 => simp [cW, eEn, ePt, eSc, eSu, eBP, eMo, st3_n, st3_v]
    | 6, h1 => rfl
    | 7, h1 => rfl
    | 8, h1 => rfl
    | 9, h1 => rfl
    | 10, h1 => rfl
    | 11, h1 => rfl
    | 12, h1 =>
      show mAr D _ k1 = mAr D _ k1
      match k1, h1 with
      | 0, h1 => exact absurd ⟨rfl, rfl⟩ h1
      | 1, h1 => simp [mAr, st3_n]
      | 2, h1 => simp [mAr, st3_n]
      | 3, h1 => simp [mAr, st3_n]
      | 4, h1 => simp [mAr, st3_n]
      | 5, h1 => simp [mAr, st3_n]
      | 6, h1 => simp [mAr, st3_n]
      | 7, h1 => simp [mAr, st3_n]
      | 8, h1 => simp [mAr, st3_n]
      | 9, h1 => simp [mAr, st3_n]
      | 10, h1 => simp [mAr, st3_n]
      | 11, h1 => simp [mAr, st3_n]
      | 12, h1 => simp [mAr, st3_n]
      | 13, h1 => simp [mAr, st3_n]
      | 14, h1 => simp [mAr, st3_n]
      | 15, h1 => simp [mAr, st3_n]
      | 16, h1 => simp [mAr, st3_n]
      | 17, h1 => simp [mAr, st3_n]
      | 18, h1 => simp [mAr, st3_n]
      | n + 19, h1 => rfl
    | n + 13, h1 => rfl
theorem pA1 (p : Nat) (v : Int32) : u2 (cW D ad S (h, τ, th) o) 12 1 (eI D 16 (upd (fun q => τ 2 q 0) p v)) = cW D ad S (h, st3 τ 2 p 0 v, th) o := by
  funext f1 k1
  unfold u2
  split
  · rename_i h1
    obtain ⟨rfl, rfl⟩ := h1
    show some _ = some _
    congr 4
    funext q1
    simp [upd, st3]
  · rename_i h1
    match f1, h1 with
    | 0, h1 => rfl
    | 1, h1 => rfl
    | 2, h1 => rfl
    | 3, h1 => rfl
    | 4, h1 => rfl
    | 5, h1 => simp [cW, eEn, ePt, eSc, eSu, eBP, eMo, st3_n, st3_v]
    | 6, h1 => rfl
    | 7, h1 => rfl
    | 8, h1 => rfl
    | 9, h1 => rfl
    | 10, h1 => rfl
    | 11, h1 => rfl
    | 12, h1 =>
      show mAr D _ k1 = mAr D _ k1
      match k1, h1 with
      | 0, h1 => simp [mAr, st3_n]
      | 1, h1 => exact absurd ⟨rfl, rfl⟩ h1
      | 2, h1 => simp [mAr, st3_n]
      | 3, h1 => simp [mAr, st3_n]
      | 4, h1 => simp [mAr, st3_n]
      | 5, h1 => simp [mAr, st3_n]
      | 6, h1 => simp [mAr, st3_n]
      | 7, h1 => simp [mAr, st3_n]
      | 8, h1 => simp [mAr, st3_n]
      | 9, h1 => simp [mAr, st3_n]
      | 10, h1 => simp [mAr, st3_n]
      | 11, h1 => simp [mAr, st3_n]
      | 12, h1 => simp [mAr, st3_n]
      | 13, h1 => simp [mAr, st3_n]
      | 14, h1 => simp [mAr, st3_n]
      | 15, h1 => simp [mAr, st3_n]
      | 16, h1 => simp [mAr, st3_n]
      | 17, h1 => simp [mAr, st3_n]
      | 18, h1 => simp [mAr, st3_n]
      | n + 19, h1 => rfl
    | n + 13, h1 => rfl
theorem pA2 (p : Nat) (v : Int32) : u2 (cW D ad S (h, τ, th) o) 12 2 (eI D 16 (upd (fun q => τ 3 q 0) p v)) = cW D ad S (h, st3 τ 3 p 0 v, th) o := by
  funext f1 k1
  unfold u2
  split
  · rename_i h1
    obtain ⟨rfl, rfl⟩ := h1
    show some _ = some _
    congr 4
    funext q1
    simp [upd, st3]
  · rename_i h1
    match f1, h1 with
    | 0, h1 => rfl
    | 1, h1 => rfl
    | 2, h1 => rfl
    | 3, h1 => rfl
    | 4, h1 => rfl
    | 5, h1 => simp [cW, eEn, ePt, eSc, eSu, eBP, eMo, st3_n, st3_v]
    | 6, h1 => rfl
    | 7, h1 => rfl
    | 8, h1 => rfl
    | 9, h1 => rfl
    | 10, h1 => rfl
    | 11, h1 => rfl
    | 12, h1 =>
      show mAr D _ k1 = mAr D _ k1
      match k1, h1 with
      | 0, h1 => simp [mAr, st3_n]
      | 1, h1 => simp [mAr, st3_n]
      | 2, h1 => exact absurd ⟨rfl, rfl⟩ h1
      | 3, h1 => simp [mAr, st3_n]
      | 4, h1 => simp [mAr, st3_n]
      | 5, h1 => simp [mAr, st3_n]
      | 6, h1 => simp [mAr, st3_n]
      | 7, h1 => simp [mAr, st3_n]
      | 8, h1 => simp [mAr, st3_n]
      | 9, h1 => simp [mAr, st3_n]
      | 10, h1 => simp [mAr, st3_n]
      | 11, h1 => simp [mAr, st3_n]
      | 12, h1 => simp [mAr, st3_n]
      | 13, h1 => simp [mAr, st3_n]
      | 14, h1 => simp [mAr, st3_n]
      | 15, h1 => simp [mAr, st3_n]
      | 16, h1 => simp [mAr, st3_n]
      | 17, h1 => simp [mAr, st3_n]
      | 18, h1 => simp [mAr, st3_n]
      | n + 19, h1 => rfl
    | n + 13, h1 => rfl
theorem pA3 (p : Nat) (v : Int32) : u2 (cW D ad S (h, τ, th) o) 12 3 (eI D 16 (upd (fun q => τ 4 q 0) p v)) = cW D ad S (h, st3 τ 4 p 0 v, th) o := by
  funext f1 k1
  unfold u2
  split
  · rename_i h1
    obtain ⟨rfl, rfl⟩ := h1
    show some _ = some _
    congr 4
    funext q1
    simp [upd, st3]
  · rename_i h1
    match f1, h1 with
    | 0, h1 => rfl
    | 1, h1 => rfl
    | 2, h1 => rfl
    | 3, h1 => rfl
    | 4, h1 => rfl
    | 5, h1 => simp [cW, eEn, ePt, eSc, eSu, eBP, eMo, st3_n, st3_v]
    | 6, h1 => rfl
    | 7, h1 => rfl
    | 8, h1 => rfl
    | 9, h1 => rfl
    | 10, h1 => rfl
    | 11, h1 => rfl
    | 12, h1 =>
      show mAr D _ k1 = mAr D _ k1
      match k1, h1 with
      | 0, h1 => simp [mAr, st3_n]
      | 1, h1 => simp [mAr, st3_n]
      | 2, h1 => simp [mAr, st3_n]
      | 3, h1 => exact absurd ⟨rfl, rfl⟩ h1
      | 4, h1 => simp [mAr, st3_n]
      | 5, h1 => simp [mAr, st3_n]
      | 6, h1 => simp [mAr, st3_n]
      | 7, h1 => simp [mAr, st3_n]
      | 8, h1 => simp [mAr, st3_n]
      | 9, h1 => simp [mAr, st3_n]
      | 10, h1 => simp [mAr, st3_n]
      | 11, h1 => simp [mAr, st3_n]
      | 12, h1 => simp [mAr, st3_n]
      | 13, h1 => simp [mAr, st3_n]
      | 14, h1 => simp [mAr, st3_n]
      | 15, h1 => simp [mAr, st3_n]
      | 16, h1 => simp [mAr, st3_n]
      | 17, h1 => simp [mAr, st3_n]
      | 18, h1 => simp [mAr, st3_n]
      | n + 19, h1 => rfl
    | n + 13, h1 => rfl
theorem pA4 (p : Nat) (v : Int32) : u2 (cW D ad S (h, τ, th) o) 12 4 (eI D 16 (upd (fun q => τ 5 q 0) p v)) = cW D ad S (h, st3 τ 5 p 0 v, th) o := by
  funext f1 k1
  unfold u2
  split
  · rename_i h1
    obtain ⟨rfl, rfl⟩ := h1
    show some _ = some _
    congr 4
    funext q1
    simp [upd, st3]
  · rename_i h1
    match f1, h1 with
    | 0, h1 => rfl
    | 1, h1 => rfl
    | 2, h1 => rfl
    | 3, h1 => rfl
    | 4, h1 => rfl
    | 5, h1 => simp [cW, eEn, ePt, eSc, eSu, eBP, eMo, st3_n, st3_v]
    | 6, h1 => rfl
    | 7, h1 => rfl
    | 8, h1 => rfl
    | 9, h1 => rfl
    | 10, h1 => rfl
    | 11, h1 => rfl
    | 12, h1 =>
      show mAr D _ k1 = mAr D _ k1
      match k1, h1 with
      | 0, h1 => simp [mAr, st3_n]
      | 1, h1 => simp [mAr, st3_n]
      | 2, h1 => simp [mAr, st3_n]
      | 3, h1 => simp [mAr, st3_n]
      | 4, h1 => exact absurd ⟨rfl, rfl⟩ h1
      | 5, h1 => simp [mAr, st3_n]
      | 6, h1 => simp [mAr, st3_n]
      | 7, h1 => simp [mAr, st3_n]
      | 8, h1 => simp [mAr, st3_n]
      | 9, h1 => simp [mAr, st3_n]
      | 10, h1 => simp [mAr, st3_n]
      | 11, h1 => simp [mAr, st3_n]
      | 12, h1 => simp [mAr, st3_n]
      | 13, h1 => simp [mAr, st3_n]
      | 14, h1 => simp [mAr, st3_n]
      | 15, h1 => simp [mAr, st3_n]
      | 16, h1 => simp [mAr, st3_n]
      | 17, h1 => simp [mAr, st3_n]
      | 18, h1 => simp [mAr, st3_n]
      | n + 19, h1 => rfl
    | n + 13, h1 => rfl
theorem pA5 {p j : Nat} (hj : j < 16) (v : Int32) : u2 (cW D ad S (h, τ, th) o) 12 5 (eI D 256 (upd (fun q => τ 6 (q / 16) (q % 16 + 1)) (16 * p + j) v)) = cW D ad S (h, st3 τ 6 p (j + 1) v, th) o := by
  funext f1 k1
  unfold u2
  split
  · rename_i h1
    obtain ⟨rfl, rfl⟩ := h1
    show some _ = some _
    congr 4
    funext q1
    have e : q1 = 16 * p + j ↔ (q1 / 16 = p ∧ q1 % 16 + 1 = j + 1) := by omega
    simp [upd, st3, e]
  · rename_i h1
    match f1, h1 with
    | 0, h1 => rfl
    | 1, h1 => rfl
    | 2, h1 => rfl
    | 3, h1 => rfl
    | 4, h1 => rfl
    | 5, h1 => simp [cW, eEn, ePt, eSc, eSu, eBP, eMo, st3_n, st3_v]
    | 6, h1 => rfl
    | 7, h1 => rfl
    | 8, h1 => rfl
    | 9, h1 => rfl
    | 10, h1 => rfl
    | 11, h1 => rfl
    | 12, h1 =>
      show mAr D _ k1 = mAr D _ k1
      match k1, h1 with
      | 0, h1 => simp [mAr, st3_n]
      | 1, h1 => simp [mAr, st3_n]
      | 2, h1 => simp [mAr, st3_n]
      | 3, h1 => simp [mAr, st3_n]
      | 4, h1 => simp [mAr, st3_n]
      | 5, h1 => exact absurd ⟨rfl, rfl⟩ h1
      | 6, h1 => simp [mAr, st3_n]
      | 7, h1 => simp [mAr, st3_n]
      | 8, h1 => simp [mAr, st3_n]
      | 9, h1 => simp [mAr, st3_n]
      | 10, h1 => simp [mAr, st3_n]
      | 11, h1 => simp [mAr, st3_n]
      | 12, h1 => simp [mAr, st3_n]
      | 13, h1 => simp [mAr, st3_n]
      | 14, h1 => simp [mAr, st3_n]
      | 15, h1 => simp [mAr, st3_n]
      | 16, h1 => simp [mAr, st3_n]
      | 17, h1 => simp [mAr, st3_n]
      | 18, h1 => simp [mAr, st3_n]
      | n + 19, h1 => rfl
    | n + 13, h1 => rfl
theorem pA6 (p : Nat) (v : Int32) : u2 (cW D ad S (h, τ, th) o) 12 6 (eI D 30 (upd (fun q => τ 8 q 0) p v)) = cW D ad S (h, st3 τ 8 p 0 v, th) o := by
  funext f1 k1
  unfold u2
  split
  · rename_i h1
    obtain ⟨rfl, rfl⟩ := h1
    show some _ = some _
    congr 4
    funext q1
    simp [upd, st3]
  · rename_i h1
    match f1, h1 with
    | 0, h1 => rfl
    | 1, h1 => rfl
    | 2, h1 => rfl
    | 3, h1 => rfl
    | 4, h1 => rfl
    | 5, h1 => simp [cW, eEn, ePt, eSc, eSu, eBP, eMo, st3_n, st3_v]
    | 6, h1 => rfl
    | 7, h1 => rfl
    | 8, h1 => rfl
    | 9, h1 => rfl
    | 10, h1 => rfl
    | 11, h1 => rfl
    | 12, h1 =>
      show mAr D _ k1 = mAr D _ k1
      match k1, h1 with
      | 0, h1 => simp [mAr, st3_n]
      | 1, h1 => simp [mAr, st3_n]
      | 2, h1 => simp [mAr, st3_n]
      | 3, h1 => simp [mAr, st3_n]
      | 4, h1 => simp [mAr, st3_n]
      | 5, h1 => simp [mAr, st3_n]
      | 6, h1 => exact absurd ⟨rfl, rfl⟩ h1
      | 7, h1 => simp [mAr, st3_n]
      | 8, h1 => simp [mAr, st3_n]
      | 9, h1 => simp [mAr, st3_n]
      | 10, h1 => simp [mAr, st3_n]
      | 11, h1 => simp [mAr, st3_n]
      | 12, h1 => simp [mAr, st3_n]
      | 13, h1 => simp [mAr, st3_n]
      | 14, h1 => simp [mAr, st3_n]
      | 15, h1 => simp [mAr, st3_n]
      | 16, h1 => simp [mAr, st3_n]
      | 17, h1 => simp [mAr, st3_n]
      | 18, h1 => simp [mAr, st3_n]
      | n + 19, h1 => rfl
    | n + 13, h1 => rfl
theorem pA7 (p : Nat) (v : Int32) : u2 (cW D ad S (h, τ, th) o) 12 7 (eI D 30 (upd (fun q => τ 9 q 0) p v)) = cW D ad S (h, st3 τ 9 p 0 v, th) o := by
  funext f1 k1
  unfold u2
  split
  · rename_i h1
    obtain ⟨rfl, rfl⟩ := h1
    show some _ = some _
    congr 4
    funext q1
    simp [upd, st3]
  · rename_i h1
    match f1, h1 with
    | 0, h1 => rfl
    | 1, h1 => rfl
    | 2, h1 => rfl
    | 3, h1 => rfl
    | 4, h1 => rfl
    | 5, h1 => simp [cW, eEn, ePt, eSc, eSu, eBP, eMo, st3_n, st3_v]
    | 6, h1 => rfl
    | 7, h1 => rfl
    | 8, h1 => rfl
    | 9, h1 => rfl
    | 10, h1 => rfl
    | 11, h1 => rfl
    | 12, h1 =>
      show mAr D _ k1 = mAr D _ k1
      match k1, h1 with
      | 0, h1 => simp [mAr, st3_n]
      | 1, h1 => simp [mAr, st3_n]
      | 2, h1 => simp [mAr, st3_n]
      | 3, h1 => simp [mAr, st3_n]
      | 4, h1 => simp [mAr, st3_n]
      | 5, h1 => simp [mAr, st3_n]
      | 6, h1 => simp [mAr, st3_n]
      | 7, h1 => exact absurd ⟨rfl, rfl⟩ h1
      | 8, h1 => simp [mAr, st3_n]
      | 9, h1 => simp [mAr, st3_n]
      | 10, h1 => simp [mAr, st3_n]
      | 11, h1 => simp [mAr, st3_n]
      | 12, h1 => simp [mAr, st3_n]
      | 13, h1 => simp [mAr, st3_n]
      | 14, h1 => simp [mAr, st3_n]
      | 15, h1 => simp [mAr, st3_n]
      | 16, h1 => simp [mAr, st3_n]
      | 17, h1 => simp [mAr, st3_n]
      | 18, h1 => simp [mAr, st3_n]
      | n + 19, h1 => rfl
    | n + 13, h1 => rfl
theorem pA8 (p : Nat) (v : Int32) : u2 (cW D ad S (h, τ, th) o) 12 8 (eI D 30 (upd (fun q => τ 10 q 0) p v)) = cW D ad S (h, st3 τ 10 p 0 v, th) o := by
  funext f1 k1
  unfold u2
  split
  · rename_i h1
    obtain ⟨rfl, rfl⟩ := h1
    show some _ = some _
    congr 4
    funext q1
    simp [upd, st3]
  · rename_i h1
    match f1, h1 with
    | 0, h1 => rfl
    | 1, h1 => rfl
    | 2, h1 => rfl
    | 3, h1 => rfl
    | 4, h1 => rfl
    | 5, h1 => simp [cW, eEn, ePt, eSc, eSu, eBP, eMo, st3_n, st3_v]
    | 6, h1 => rfl
    | 7, h1 => rfl
    | 8, h1 => rfl
    | 9, h1 => rfl
    | 10, h1 => rfl
    | 11, h1 => rfl
    | 12, h1 =>
      show mAr D _ k1 = mAr D _ k1
      match k1, h1 with
      | 0, h1 => simp [mAr, st3_n]
      | 1, h1 => simp [mAr, st3_n]
      | 2, h1 => simp [mAr, st3_n]
      | 3, h1 => simp [mAr, st3_n]
      | 4, h1 => simp [mAr, st3_n]
      | 5, h1 => simp [mAr, st3_n]
      | 6, h1 => simp [mAr, st3_n]
      | 7, h1 => simp [mAr, st3_n]
      | 8, h1 => exact absurd ⟨rfl, rfl⟩ h1
      | 9, h1 => simp [mAr, st3_n]
      | 10, h1 => simp [mAr, st3_n]
      | 11, h1 => simp [mAr, st3_n]
      | 12, h1 => simp [mAr, st3_n]
      | 13, h1 => simp [mAr, st3_n]
      | 14, h1 => simp [mAr, st3_n]
      | 15, h1 => simp [mAr, st3_n]
      | 16, h1 => simp [mAr, st3_n]
      | 17, h1 => simp [mAr, st3_n]
      | 18, h1 => simp [mAr, st3_n]
      | n + 19, h1 => rfl
    | n + 13, h1 => rfl
theorem pA9 (p : Nat) (v : Int32) : u2 (cW D ad S (h, τ, th) o) 12 9 (eZ D 30 (upd (fun q => τ 11 q 0) p v)) = cW D ad S (h, st3 τ 11 p 0 v, th) o := by
  funext f1 k1
  unfold u2
  split
  · rename_i h1
    obtain ⟨rfl, rfl⟩ := h1
    show some _ = some _
    congr 4
    funext q1
    simp [upd, st3]
  · rename_i h1
    match f1, h1 with
    | 0, h1 => rfl
    | 1, h1 => rfl
    | 2, h1 => rfl
    | 3, h1 => rfl
    | 4, h1 => rfl
    | 5, h1 => simp [cW, eEn, ePt, eSc, eSu, eBP, eMo, st3_n, st3_v]
    | 6, h1 => rfl
    | 7, h1 => rfl
    | 8, h1 => rfl
    | 9, h1 => rfl
    | 10, h1 => rfl
    | 11, h1 => rfl
    | 12, h1 =>
      show mAr D _ k1 = mAr D _ k1
      match k1, h1 with
      | 0, h1 => simp [mAr, st3_n]
      | 1, h1 => simp [mAr, st3_n]
      | 2, h1 => simp [mAr, st3_n]
      | 3, h1 => simp [mAr, st3_n]
      | 4, h1 => simp [mAr, st3_n]
      | 5, h1 => simp [mAr, st3_n]
      | 6, h1 => simp [mAr, st3_n]
      | 7, h1 => simp [mAr, st3_n]
      | 8, h1 => simp [mAr, st3_n]
      | 9, h1 => exact absurd ⟨rfl, rfl⟩ h1
      | 10, h1 => simp [mAr, st3_n]
      | 11, h1 => simp [mAr, st3_n]
      | 12, h1 => simp [mAr, st3_n]
      | 13, h1 => simp [mAr, st3_n]
      | 14, h1 => simp [mAr, st3_n]
      | 15, h1 => simp [mAr, st3_n]
      | 16, h1 => simp [mAr, st3_n]
      | 17, h1 => simp [mAr, st3_n]
      | 18, h1 => simp [mAr, st3_n]
      | n + 19, h1 => rfl
    | n + 13, h1 => rfl
theorem pA10 (p : Nat) (v : Int32) : u2 (cW D ad S (h, τ, th) o) 12 10 (eI D 30 (upd (fun q => τ 12 q 0) p v)) = cW D ad S (h, st3 τ 12 p 0 v, th) o := by
  funext f1 k1
  unfold u2
  split
  · rename_i h1
    obtain ⟨rfl, rfl⟩ := h1
    show some _ = some _
    congr 4
    funext q1
    simp [upd, st3]
  · rename_i h1
    match f1, h1 with
    | 0, h1 => rfl
    | 1, h1 => rfl
    | 2, h1 => rfl
    | 3, h1 => rfl
    | 4, h1 => rfl
    | 5, h1 => simp [cW, eEn, ePt, eSc, eSu, eBP, eMo, st3_n, st3_v]
    | 6, h1 => rfl
    | 7, h1 => rfl
    | 8, h1 => rfl
    | 9, h1 => rfl
    | 10, h1 => rfl
    | 11, h1 => rfl
    | 12, h1 =>
      show mAr D _ k1 = mAr D _ k1
      match k1, h1 with
      | 0, h1 => simp [mAr, st3_n]
      | 1, h1 => simp [mAr, st3_n]
      | 2, h1 => simp [mAr, st3_n]
      | 3, h1 => simp [mAr, st3_n]
      | 4, h1 => simp [mAr, st3_n]
      | 5, h1 => simp [mAr, st3_n]
      | 6, h1 => simp [mAr, st3_n]
      | 7, h1 => simp [mAr, st3_n]
      | 8, h1 => simp [mAr, st3_n]
      | 9, h1 => simp [mAr, st3_n]
      | 10, h1 => exact absurd ⟨rfl, rfl⟩ h1
      | 11, h1 => simp [mAr, st3_n]
      | 12, h1 => simp [mAr, st3_n]
      | 13, h1 => simp [mAr, st3_n]
      | 14, h1 => simp [mAr, st3_n]
      | 15, h1 => simp [mAr, st3_n]
      | 16, h1 => simp [mAr, st3_n]
      | 17, h1 => simp [mAr, st3_n]
      | 18, h1 => simp [mAr, st3_n]
      | n + 19, h1 => rfl
    | n + 13, h1 => rfl
theorem pA11 (p : Nat) (v : Int32) : u2 (cW D ad S (h, τ, th) o) 12 11 (eI D 30 (upd (fun q => τ 13 q 0) p v)) = cW D ad S (h, st3 τ 13 p 0 v, th) o := by
  funext f1 k1
  unfold u2
  split
  · rename_i h1
    obtain ⟨rfl, rfl⟩ := h1
    show some _ = some _
    congr 4
    funext q1
    simp [upd, st3]
  · rename_i h1
    match f1, h1 with
    | 0, h1 => rfl
    | 1, h1 => rfl
    | 2, h1 => rfl
    | 3, h1 => rfl
    | 4, h1 => rfl
    | 5, h1 => simp [cW, eEn, ePt, eSc, eSu, eBP, eMo, st3_n, st3_v]
    | 6, h1 => rfl
    | 7, h1 => rfl
    | 8, h1 => rfl
    | 9, h1 => rfl
    | 10, h1 => rfl
    | 11, h1 => rfl
    | 12, h1 =>
      show mAr D _ k1 = mAr D _ k1
      match k1, h1 with
      | 0, h1 => simp [mAr, st3_n]
      | 1, h1 => simp [mAr, st3_n]
      | 2, h1 => simp [mAr, st3_n]
      | 3, h1 => simp [mAr, st3_n]
      | 4, h1 => simp [mAr, st3_n]
      | 5, h1 => simp [mAr, st3_n]
      | 6, h1 => simp [mAr, st3_n]
      | 7, h1 => simp [mAr, st3_n]
      | 8, h1 => simp [mAr, st3_n]
      | 9, h1 => simp [mAr, st3_n]
      | 10, h1 => simp [mAr, st3_n]
      | 11, h1 => exact absurd ⟨rfl, rfl⟩ h1
      | 12, h1 => simp [mAr, st3_n]
      | 13, h1 => simp [mAr, st3_n]
      | 14, h1 => simp [mAr, st3_n]
      | 15, h1 => simp [mAr, st3_n]
      | 16, h1 => simp [mAr, st3_n]
      | 17, h1 => simp [mAr, st3_n]
      | 18, h1 => simp [mAr, st3_n]
      | n + 19, h1 => rfl
    | n + 13, h1 => rfl
theorem pA12 (p : Nat) (v : Int32) : u2 (cW D ad S (h, τ, th) o) 12 12 (eI D 4 (upd (fun q => τ 14 q 0) p v)) = cW D ad S (h, st3 τ 14 p 0 v, th) o := by
  funext f1 k1
  unfold u2
  split
  · rename_i h1
    obtain ⟨rfl, rfl⟩ := h1
    show some _ = some _
    congr 4
    funext q1
    simp [upd, st3]
  · rename_i h1
    match f1, h1 with
    | 0, h1 => rfl
    | 1, h1 => rfl
    | 2, h1 => rfl
    | 3, h1 => rfl
    | 4, h1 => rfl
    | 5, h1 => simp [cW, eEn, ePt, eSc, eSu, eBP, eMo, st3_n, st3_v]
    | 6, h1 => rfl
    | 7, h1 => rfl
    | 8, h1 => rfl
    | 9, h1 => rfl
    | 10, h1 => rfl
    | 11, h1 => rfl
    | 12, h1 =>
      show mAr D _ k1 = mAr D _ k1
      match k1, h1 with
      | 0, h1 => simp [mAr, st3_n]
      | 1, h1 => simp [mAr, st3_n]
      | 2, h1 => simp [mAr, st3_n]
      | 3, h1 => simp [mAr, st3_n]
      | 4, h1 => simp [mAr, st3_n]
      | 5, h1 => simp [mAr, st3_n]
      | 6, h1 => simp [mAr, st3_n]
      | 7, h1 => simp [mAr, st3_n]
      | 8, h1 => simp [mAr, st3_n]
      | 9, h1 => simp [mAr, st3_n]
      | 10, h1 => simp [mAr, st3_n]
      | 11, h1 => simp [mAr, st3_n]
      | 12, h1 => exact absurd ⟨rfl, rfl⟩ h1
      | 13, h1 => simp [mAr, st3_n]
      | 14, h1 => simp [mAr, st3_n]
      | 15, h1 => simp [mAr, st3_n]
      | 16, h1 => simp [mAr, st3_n]
      | 17, h1 => simp [mAr, st3_n]
      | 18, h1 => simp [mAr, st3_n]
      | n + 19, h1 => rfl
    | n + 13, h1 => rfl
theorem pA13 (p : Nat) (v : Int32) : u2 (cW D ad S (h, τ, th) o) 12 13 (eI D 4 (upd (fun q => τ 15 q 0) p v)) = cW D ad S (h, st3 τ 15 p 0 v, th) o := by
  funext f1 k1
  unfold u2
  split
  · rename_i h1
    obtain ⟨rfl, rfl⟩ := h1
    show some _ = some _
    congr 4
    funext q1
    simp [upd, st3]
  · rename_i h1
    match f1, h1 with
    | 0, h1 => rfl
    | 1, h1 => rfl
    | 2, h1 => rfl
    | 3, h1 => rfl
    | 4, h1 => rfl
    | 5, h1 => simp [cW, eEn, ePt, eSc, eSu, eBP, eMo, st3_n, st3_v]
    | 6, h1 => rfl
    | 7, h1 => rfl
    | 8, h1 => rfl
    | 9, h1 => rfl
    | 10, h1 => rfl
    | 11, h1 => rfl
    | 12, h1 =>
      show mAr D _ k1 = mAr D _ k1
      match k1, h1 with
      | 0, h1 => simp [mAr, st3_n]
      | 1, h1 => simp [mAr, st3_n]
      | 2, h1 => simp [mAr, st3_n]
      | 3, h1 => simp [mAr, st3_n]
      | 4, h1 => simp [mAr, st3_n]
      | 5, h1 => simp [mAr, st3_n]
      | 6, h1 => simp [mAr, st3_n]
      | 7, h1 => simp [mAr, st3_n]
      | 8, h1 => simp [mAr, st3_n]
      | 9, h1 => simp [mAr, st3_n]
      | 10, h1 => simp [mAr, st3_n]
      | 11, h1 => simp [mAr, st3_n]
      | 12, h1 => simp [mAr, st3_n]
      | 13, h1 => exact absurd ⟨rfl, rfl⟩ h1
      | 14, h1 => simp [mAr, st3_n]
      | 15, h1 => simp [mAr, st3_n]
      | 16, h1 => simp [mAr, st3_n]
      | 17, h1 => simp [mAr, st3_n]
      | 18, h1 => simp [mAr, st3_n]
      | n + 19, h1 => rfl
    | n + 13, h1 => rfl
theorem pA14 (p : Nat) (v : Int32) : u2 (cW D ad S (h, τ, th) o) 12 14 (eI D 4 (upd (fun q => τ 16 q 0) p v)) = cW D ad S (h, st3 τ 16 p 0 v, th) o := by
  funext f1 k1
  unfold u2
  split
  · rename_i h1
    obtain ⟨rfl, rfl⟩ := h1
    show some _ = some _
    congr 4
    funext q1
    simp [upd, st3]
  · rename_i h1
    match f1, h1 with
    | 0, h1 => rfl
    | 1, h1 => rfl
    | 2, h1 => rfl
    | 3, h1 => rfl
    | 4, h1 => rfl
    | 5, h1 => simp [cW, eEn, ePt, eSc, eSu, eBP, eMo, st3_n, st3_v]
    | 6, h1 => rfl
    | 7, h1 => rfl
    | 8, h1 => rfl
    | 9, h1 => rfl
    | 10, h1 => rfl
    | 11, h1 => rfl
    | 12, h1 =>
      show mAr D _ k1 = mAr D _ k1
      match k1, h1 with
      | 0, h1 => simp [mAr, st3_n]
      | 1, h1 => simp [mAr, st3_n]
      | 2, h1 => simp [mAr, st3_n]
      | 3, h1 => simp [mAr, st3_n]
      | 4, h1 => simp [mAr, st3_n]
      | 5, h1 => simp [mAr, st3_n]
      | 6, h1 => simp [mAr, st3_n]
      | 7, h1 => simp [mAr, st3_n]
      | 8, h1 => simp [mAr, st3_n]
      | 9, h1 => simp [mAr, st3_n]
      | 10, h1 => simp [mAr, st3_n]
      | 11, h1 => simp [mAr, st3_n]
      | 12, h1 => simp [mAr, st3_n]
      | 13, h1 => simp [mAr, st3_n]
      | 14, h1 => exact absurd ⟨rfl, rfl⟩ h1
      | 15, h1 => simp [mAr, st3_n]
      | 16, h1 => simp [mAr, st3_n]
      | 17, h1 => simp [mAr, st3_n]
      | 18, h1 => simp [mAr, st3_n]
      | n + 19, h1 => rfl
    | n + 13, h1 => rfl
theorem pA15 (p : Nat) (v : Int32) : u2 (cW D ad S (h, τ, th) o) 12 15 (eI D 4 (upd (fun q => τ 17 q 0) p v)) = cW D ad S (h, st3 τ 17 p 0 v, th) o := by
  funext f1 k1
  unfold u2
  split
  · rename_i h1
    obtain ⟨rfl, rfl⟩ := h1
    show some _ = some _
    congr 4
    funext q1
    simp [upd, st3]
  · rename_i h1
    match f1, h1 with
    | 0, h1 => rfl
    | 1, h1 => rfl
    | 2, h1 => rfl
    | 3, h1 => rfl
    | 4, h1 => rfl
    | 5, h1 => simp [cW, eEn, ePt, eSc, eSu, eBP, eMo, st3_n, st3_v]
    | 6, h1 => rfl
    | 7, h1 => rfl
    | 8, h1 => rfl
    | 9, h1 => rfl
    | 10, h1 => rfl
    | 11, h1 => rfl
    | 12, h1 =>
      show mAr D _ k1 = mAr D _ k1
      match k1, h1 with
      | 0, h1 => simp [mAr, st3_n]
      | 1, h1 => simp [mAr, st3_n]
      | 2, h1 => simp [mAr, st3_n]
      | 3, h1 => simp [mAr, st3_n]
      | 4, h1 => simp [mAr, st3_n]
      | 5, h1 => simp [mAr, st3_n]
      | 6, h1 => simp [mAr, st3_n]
      | 7, h1 => simp [mAr, st3_n]
      | 8, h1 => simp [mAr, st3_n]
      | 9, h1 => simp [mAr, st3_n]
      | 10, h1 => simp [mAr, st3_n]
      | 11, h1 => simp [mAr, st3_n]
      | 12, h1 => simp [mAr, st3_n]
      | 13, h1 => simp [mAr, st3_n]
      | 14, h1 => simp [mAr, st3_n]
      | 15, h1 => exact absurd ⟨rfl, rfl⟩ h1
      | 16, h1 => simp [mAr, st3_n]
      | 17, h1 => simp [mAr, st3_n]
      | 18, h1 => simp [mAr, st3_n]
      | n + 19, h1 => rfl
    | n + 13, h1 => rfl
theorem pA16 {p j : Nat} (hj : j < 20) (v : Int32) : u2 (cW D ad S (h, τ, th) o) 12 16 (eI D 80 (upd (fun q => τ 18 (q / 20) (q % 20)) (20 * p + j) v)) = cW D ad S (h, st3 τ 18 p j v, th) o := by
  funext f1 k1
  unfold u2
  split
  · rename_i h1
    obtain ⟨rfl, rfl⟩ := h1
    show some _ = some _
    congr 4
    funext q1
    have e : q1 = 20 * p + j ↔ (q1 / 20 = p ∧ q1 % 20 = j) := by omega
    simp [upd, st3, e]
  · rename_i h1
    match f1, h1 with
    | 0, h1 => rfl
    | 1, h1 => rfl
    | 2, h1 => rfl
    | 3, h1 => rfl
    | 4, h1 => rfl
    | 5, h1 => simp [cW, eEn, ePt, eSc, eSu, eBP, eMo, st3_n, st3_v]
    | 6, h1 => rfl
    | 7, h1 => rfl
    | 8, h1 => rfl
    | 9, h1 => rfl
    | 10, h1 => rfl
    | 11, h1 => rfl
    | 12, h1 =>
      show mAr D _ k1 = mAr D _ k1
      match k1, h1 with
      | 0, h1 => simp [mAr, st3_n]
      | 1, h1 => simp [mAr, st3_n]
      | 2, h1 => simp [mAr, st3_n]
      | 3, h1 => simp [mAr, st3_n]
      | 4, h1 => simp [mAr, st3_n]
      | 5, h1 => simp [mAr, st3_n]
      | 6, h1 => simp [mAr, st3_n]
      | 7, h1 => simp [mAr, st3_n]
      | 8, h1 => simp [mAr, st3_n]
      | 9, h1 => simp [mAr, st3_n]
      | 10, h1 => simp [mAr, st3_n]
      | 11, h1 => simp [mAr, st3_n]
      | 12, h1 => simp [mAr, st3_n]
      | 13, h1 => simp [mAr, st3_n]
      | 14, h1 => simp [mAr, st3_n]
      | 15, h1 => simp [mAr, st3_n]
      | 16, h1 => exact absurd ⟨rfl, rfl⟩ h1
      | 17, h1 => simp [mAr, st3_n]
      | 18, h1 => simp [mAr, st3_n]
      | n + 19, h1 => rfl
    | n + 13, h1 => rfl
theorem pA17 {p j : Nat} (hj : j < 20) (v : Int32) : u2 (cW D ad S (h, τ, th) o) 12 17 (eI D 80 (upd (fun q => τ 19 (q / 20) (q % 20)) (20 * p + j) v)) = cW D ad S (h, st3 τ 19 p j v, th) o := by
  funext f1 k1
  unfold u2
  split
  · rename_i h1
    obtain ⟨rfl, rfl⟩ := h1
    show some _ = some _
    congr 4
    funext q1
    have e : q1 = 20 * p + j ↔ (q1 / 20 = p ∧ q1 % 20 = j) := by omega
    simp [upd, st3, e]
  · rename_i h1
    match f1, h1 with
    | 0, h1 => rfl
    | 1, h1 => rfl
    | 2, h1 => rfl
    | 3, h1 => rfl
    | 4, h1 => rfl
    | 5, h1 => simp [cW, eEn, ePt, eSc, eSu, eBP, eMo, st3_n, st3_v]
    | 6, h1 => rfl
    | 7, h1 => rfl
    | 8, h1 => rfl
    | 9, h1 => rfl
    | 10, h1 => rfl
    | 11, h1 => rfl
    | 12, h1 =>
      show mAr D _ k1 = mAr D _ k1
      match k1, h1 with
      | 0, h1 => simp [mAr, st3_n]
      | 1, h1 => simp [mAr, st3_n]
      | 2, h1 => simp [mAr, st3_n]
      | 3, h1 => simp [mAr, st3_n]
      | 4, h1 => simp [mAr, st3_n]
      | 5, h1 => simp [mAr, st3_n]
      | 6, h1 => simp [mAr, st3_n]
      | 7, h1 => simp [mAr, st3_n]
      | 8, h1 => simp [mAr, st3_n]
      | 9, h1 => simp [mAr, st3_n]
      | 10, h1 => simp [mAr, st3_n]
      | 11, h1 => simp [mAr, st3_n]
      | 12, h1 => simp [mAr, st3_n]
      | 13, h1 => simp [mAr, st3_n]
      | 14, h1 => simp [mAr, st3_n]
      | 15, h1 => simp [mAr, st3_n]
      | 16, h1 => simp [mAr, st3_n]
      | 17, h1 => exact absurd ⟨rfl, rfl⟩ h1
      | 18, h1 => simp [mAr, st3_n]
      | n + 19, h1 => rfl
    | n + 13, h1 => rfl
theorem pA18 {p j : Nat} (hj : j < 20) (v : Int32) : u2 (cW D ad S (h, τ, th) o) 12 18 (eI D 80 (upd (fun q => τ 20 (q / 20) (q % 20)) (20 * p + j) v)) = cW D ad S (h, st3 τ 20 p j v, th) o := by
  funext f1 k1
  unfold u2
  split
  · rename_i h1
    obtain ⟨rfl, rfl⟩ := h1
    show some _ = some _
    congr 4
    funext q1
    have e : q1 = 20 * p + j ↔ (q1 / 20 = p ∧ q1 % 20 = j) := by omega
    simp [upd, st3, e]
  · rename_i h1
    match f1, h1 with
    | 0, h1 => rfl
    | 1, h1 => rfl
    | 2, h1 => rfl
    | 3, h1 => rfl
    | 4, h1 => rfl
    | 5, h1 => simp [cW, eEn, ePt, eSc, eSu, eBP, eMo, st3_n, st3_v]
    | 6, h1 => rfl
    | 7, h1 => rfl
    | 8, h1 => rfl
    | 9, h1 => rfl
    | 10, h1 => rfl
    | 11, h1 => rfl
    | 12, h1 =>
      show mAr D _ k1 = mAr D _ k1
      match k1, h1 with
      | 0, h1 => simp [mAr, st3_n]
      | 1, h1 => simp [mAr, st3_n]
      | 2, h1 => simp [mAr, st3_n]
      | 3, h1 => simp [mAr, st3_n]
      | 4, h1 => simp [mAr, st3_n]
      | 5, h1 => simp [mAr, st3_n]
      | 6, h1 => simp [mAr, st3_n]
      | 7, h1 => simp [mAr, st3_n]
      | 8, h1 => simp [mAr, st3_n]
      | 9, h1 => simp [mAr, st3_n]
      | 10, h1 => simp [mAr, st3_n]
      | 11, h1 => simp [mAr, st3_n]
      | 12, h1 => simp [mAr, st3_n]
      | 13, h1 => simp [mAr, st3_n]
      | 14, h1 => simp [mAr, st3_n]
      | 15, h1 => simp [mAr, st3_n]
      | 16, h1 => simp [mAr, st3_n]
      | 17, h1 => simp [mAr, st3_n]
      | 18, h1 => exact absurd ⟨rfl, rfl⟩ h1
      | n + 19, h1 => rfl
    | n + 13, h1 => rfl
theorem pO (v : Int64) : u2 (cW D ad S T o) 6 0 (eL D 1 (vp_updL (fun j => if j = 0 then o else 0) 0 v)) = cW D ad S T v := by
  funext f1 k1
  unfold u2
  split
  · rename_i h1
    obtain ⟨rfl, rfl⟩ := h1
    have e : vp_updL (fun j => if j = 0 then o else 0) 0 v = fun j => if j = 0 then v else 0 := by
      funext q1
      by_cases hq : q1 = 0 <;> simp [vp_updL, hq]
    rw [e]
    rfl
  · rename_i h1
    match f1, h1 with
    | 0, h1 => rfl
    | 1, h1 => rfl
    | 2, h1 => rfl
    | 3, h1 => rfl
    | 4, h1 => rfl
    | 5, h1 => rfl
    | 6, h1 => have hk1 : k1 ≠ 0 := fun z => h1 ⟨rfl, z⟩; simp [cW, hk1]
    | 7, h1 => rfl
    | 8, h1 => rfl
    | 9, h1 => rfl
    | 10, h1 => rfl
    | 11, h1 => rfl
    | 12, h1 => rfl
    | n + 13, h1 => rfl
end CW
end
