section
-- ===== PART A: goes FIRST, ahead of the names: the tables' words, and 'selects' of the private methods out of them =====
/-- a private method of a class that the tables say can be made, by its rows of tables_1 -/
def lw_okq (q : MethodName × Nat) : Prop := (q.1.cls ≠ "java/lang/invoke/MethodHandle" ∧ q.1.cls ≠ "java/lang/invoke/VarHandle") ∧ Cond.instantiable q.1.cls q.2 ∈ tables_1 ∧ Cond.privateMethod q.1 ∈ tables_1 ∧ Cond.instanceMethod q.1 ∈ tables_1
theorem lw_p0 : lw_okq (⟨"Quarrelboard$Judge", "openAll", "(I)V"⟩, 6) := ⟨⟨by decide +kernel, by decide +kernel⟩, List.mem_of_getElem? (i := 73) (by decide +kernel), List.mem_of_getElem? (i := 161) (by decide +kernel), List.mem_of_getElem? (i := 162) (by decide +kernel)⟩
theorem lw_p1 : lw_okq (⟨"Quarrelboard$Judge", "decideAndQueue", "(I)V"⟩, 6) := ⟨⟨by decide +kernel, by decide +kernel⟩, List.mem_of_getElem? (i := 73) (by decide +kernel), List.mem_of_getElem? (i := 166) (by decide +kernel), List.mem_of_getElem? (i := 167) (by decide +kernel)⟩
theorem lw_p2 : lw_okq (⟨"Quarrelboard$Judge", "decide", "(I)Z"⟩, 6) := ⟨⟨by decide +kernel, by decide +kernel⟩, List.mem_of_getElem? (i := 73) (by decide +kernel), List.mem_of_getElem? (i := 170) (by decide +kernel), List.mem_of_getElem? (i := 171) (by decide +kernel)⟩
theorem lw_p3 : lw_okq (⟨"Quarrelboard$Judge", "goOnFrom", "(I)V"⟩, 6) := ⟨⟨by decide +kernel, by decide +kernel⟩, List.mem_of_getElem? (i := 73) (by decide +kernel), List.mem_of_getElem? (i := 183) (by decide +kernel), List.mem_of_getElem? (i := 184) (by decide +kernel)⟩
theorem lw_p4 : lw_okq (⟨"Quarrelboard", "checkSource", "(I)V"⟩, 5) := ⟨⟨by decide +kernel, by decide +kernel⟩, List.mem_of_getElem? (i := 14) (by decide +kernel), List.mem_of_getElem? (i := 221) (by decide +kernel), List.mem_of_getElem? (i := 222) (by decide +kernel)⟩
theorem lw_p5 : lw_okq (⟨"java/lang/Throwable", "fillInStackTrace", "(I)Ljava/lang/Throwable;"⟩, 6) := ⟨⟨by decide +kernel, by decide +kernel⟩, List.mem_of_getElem? (i := 263) (by decide +kernel), List.mem_of_getElem? (i := 261) (by decide +kernel), List.mem_of_getElem? (i := 262) (by decide +kernel)⟩
theorem lw_p6 : lw_okq (⟨"Quarrelboard", "checkFact", "(I)V"⟩, 5) := ⟨⟨by decide +kernel, by decide +kernel⟩, List.mem_of_getElem? (i := 14) (by decide +kernel), List.mem_of_getElem? (i := 331) (by decide +kernel), List.mem_of_getElem? (i := 332) (by decide +kernel)⟩
theorem lw_p7 : lw_okq (⟨"Quarrelboard", "checkTwoClaims", "(II)V"⟩, 5) := ⟨⟨by decide +kernel, by decide +kernel⟩, List.mem_of_getElem? (i := 14) (by decide +kernel), List.mem_of_getElem? (i := 389) (by decide +kernel), List.mem_of_getElem? (i := 390) (by decide +kernel)⟩
theorem lw_p8 : lw_okq (⟨"Quarrelboard", "checkClaim", "(I)V"⟩, 5) := ⟨⟨by decide +kernel, by decide +kernel⟩, List.mem_of_getElem? (i := 14) (by decide +kernel), List.mem_of_getElem? (i := 393) (by decide +kernel), List.mem_of_getElem? (i := 394) (by decide +kernel)⟩
theorem lw_p9 : lw_okq (⟨"Quarrelboard", "checkPlayer", "(I)V"⟩, 5) := ⟨⟨by decide +kernel, by decide +kernel⟩, List.mem_of_getElem? (i := 14) (by decide +kernel), List.mem_of_getElem? (i := 432) (by decide +kernel), List.mem_of_getElem? (i := 433) (by decide +kernel)⟩
theorem lw_p10 : lw_okq (⟨"Quarrelboard", "scoreIf", "(II)I"⟩, 5) := ⟨⟨by decide +kernel, by decide +kernel⟩, List.mem_of_getElem? (i := 14) (by decide +kernel), List.mem_of_getElem? (i := 470) (by decide +kernel), List.mem_of_getElem? (i := 471) (by decide +kernel)⟩
theorem lw_p11 : lw_okq (⟨"QuarrelboardModel", "goes", "(I)Z"⟩, 15) := ⟨⟨by decide +kernel, by decide +kernel⟩, List.mem_of_getElem? (i := 498) (by decide +kernel), List.mem_of_getElem? (i := 565) (by decide +kernel), List.mem_of_getElem? (i := 566) (by decide +kernel)⟩
theorem lw_p12 : lw_okq (⟨"QuarrelboardModel", "isFact", "(I)Z"⟩, 15) := ⟨⟨by decide +kernel, by decide +kernel⟩, List.mem_of_getElem? (i := 498) (by decide +kernel), List.mem_of_getElem? (i := 577) (by decide +kernel), List.mem_of_getElem? (i := 578) (by decide +kernel)⟩
theorem lw_p13 : lw_okq (⟨"QuarrelboardModel", "stands", "(I)Z"⟩, 15) := ⟨⟨by decide +kernel, by decide +kernel⟩, List.mem_of_getElem? (i := 498) (by decide +kernel), List.mem_of_getElem? (i := 585) (by decide +kernel), List.mem_of_getElem? (i := 586) (by decide +kernel)⟩
theorem lw_p14 : lw_okq (⟨"QuarrelboardModel", "next", "()V"⟩, 15) := ⟨⟨by decide +kernel, by decide +kernel⟩, List.mem_of_getElem? (i := 498) (by decide +kernel), List.mem_of_getElem? (i := 597) (by decide +kernel), List.mem_of_getElem? (i := 598) (by decide +kernel)⟩
theorem lw_p15 : lw_okq (⟨"QuarrelboardModel", "areTwo", "(II)Z"⟩, 15) := ⟨⟨by decide +kernel, by decide +kernel⟩, List.mem_of_getElem? (i := 498) (by decide +kernel), List.mem_of_getElem? (i := 609) (by decide +kernel), List.mem_of_getElem? (i := 610) (by decide +kernel)⟩
def lw_privs_1 : List (MethodName × Nat) := [(⟨"Quarrelboard$Judge", "openAll", "(I)V"⟩, 6), (⟨"Quarrelboard$Judge", "decideAndQueue", "(I)V"⟩, 6), (⟨"Quarrelboard$Judge", "decide", "(I)Z"⟩, 6), (⟨"Quarrelboard$Judge", "goOnFrom", "(I)V"⟩, 6), (⟨"Quarrelboard", "checkSource", "(I)V"⟩, 5), (⟨"java/lang/Throwable", "fillInStackTrace", "(I)Ljava/lang/Throwable;"⟩, 6), (⟨"Quarrelboard", "checkFact", "(I)V"⟩, 5), (⟨"Quarrelboard", "checkTwoClaims", "(II)V"⟩, 5), (⟨"Quarrelboard", "checkClaim", "(I)V"⟩, 5), (⟨"Quarrelboard", "checkPlayer", "(I)V"⟩, 5), (⟨"Quarrelboard", "scoreIf", "(II)I"⟩, 5), (⟨"QuarrelboardModel", "goes", "(I)Z"⟩, 15), (⟨"QuarrelboardModel", "isFact", "(I)Z"⟩, 15), (⟨"QuarrelboardModel", "stands", "(I)Z"⟩, 15), (⟨"QuarrelboardModel", "next", "()V"⟩, 15), (⟨"QuarrelboardModel", "areTwo", "(II)Z"⟩, 15)]
theorem lw_r1 : ∀ q ∈ lw_privs_1, lw_okq q := List.forall_mem_cons.mpr ⟨lw_p0, List.forall_mem_cons.mpr ⟨lw_p1, List.forall_mem_cons.mpr ⟨lw_p2, List.forall_mem_cons.mpr ⟨lw_p3, List.forall_mem_cons.mpr ⟨lw_p4, List.forall_mem_cons.mpr ⟨lw_p5, List.forall_mem_cons.mpr ⟨lw_p6, List.forall_mem_cons.mpr ⟨lw_p7, List.forall_mem_cons.mpr ⟨lw_p8, List.forall_mem_cons.mpr ⟨lw_p9, List.forall_mem_cons.mpr ⟨lw_p10, List.forall_mem_cons.mpr ⟨lw_p11, List.forall_mem_cons.mpr ⟨lw_p12, List.forall_mem_cons.mpr ⟨lw_p13, List.forall_mem_cons.mpr ⟨lw_p14, List.forall_mem_cons.mpr ⟨lw_p15, fun _ h => absurd h List.not_mem_nil⟩⟩⟩⟩⟩⟩⟩⟩⟩⟩⟩⟩⟩⟩⟩⟩
theorem lw_p16 : lw_okq (⟨"QuarrelboardModel", "isClaim", "(I)Z"⟩, 15) := ⟨⟨by decide +kernel, by decide +kernel⟩, List.mem_of_getElem? (i := 498) (by decide +kernel), List.mem_of_getElem? (i := 613) (by decide +kernel), List.mem_of_getElem? (i := 614) (by decide +kernel)⟩
theorem lw_p17 : lw_okq (⟨"QuarrelboardModel", "asks", "(I)Z"⟩, 15) := ⟨⟨by decide +kernel, by decide +kernel⟩, List.mem_of_getElem? (i := 498) (by decide +kernel), List.mem_of_getElem? (i := 629) (by decide +kernel), List.mem_of_getElem? (i := 630) (by decide +kernel)⟩
theorem lw_p18 : lw_okq (⟨"QuarrelboardModel", "asksPlayer", "(I)Z"⟩, 15) := ⟨⟨by decide +kernel, by decide +kernel⟩, List.mem_of_getElem? (i := 498) (by decide +kernel), List.mem_of_getElem? (i := 641) (by decide +kernel), List.mem_of_getElem? (i := 642) (by decide +kernel)⟩
theorem lw_p19 : lw_okq (⟨"QuarrelboardModel", "stateNow", "(I)I"⟩, 15) := ⟨⟨by decide +kernel, by decide +kernel⟩, List.mem_of_getElem? (i := 498) (by decide +kernel), List.mem_of_getElem? (i := 652) (by decide +kernel), List.mem_of_getElem? (i := 653) (by decide +kernel)⟩
theorem lw_p20 : lw_okq (⟨"QuarrelboardModel", "standing", "(I)I"⟩, 15) := ⟨⟨by decide +kernel, by decide +kernel⟩, List.mem_of_getElem? (i := 498) (by decide +kernel), List.mem_of_getElem? (i := 656) (by decide +kernel), List.mem_of_getElem? (i := 657) (by decide +kernel)⟩
theorem lw_p21 : lw_okq (⟨"QuarrelboardModel", "decides", "(I)V"⟩, 15) := ⟨⟨by decide +kernel, by decide +kernel⟩, List.mem_of_getElem? (i := 498) (by decide +kernel), List.mem_of_getElem? (i := 660) (by decide +kernel), List.mem_of_getElem? (i := 661) (by decide +kernel)⟩
theorem lw_p22 : lw_okq (⟨"QuarrelboardModel", "have", "(IIZ)Z"⟩, 15) := ⟨⟨by decide +kernel, by decide +kernel⟩, List.mem_of_getElem? (i := 498) (by decide +kernel), List.mem_of_getElem? (i := 664) (by decide +kernel), List.mem_of_getElem? (i := 665) (by decide +kernel)⟩
theorem lw_p23 : lw_okq (⟨"QuarrelboardModel", "scored", "(II)I"⟩, 15) := ⟨⟨by decide +kernel, by decide +kernel⟩, List.mem_of_getElem? (i := 498) (by decide +kernel), List.mem_of_getElem? (i := 676) (by decide +kernel), List.mem_of_getElem? (i := 677) (by decide +kernel)⟩
def lw_privs_2 : List (MethodName × Nat) := [(⟨"QuarrelboardModel", "isClaim", "(I)Z"⟩, 15), (⟨"QuarrelboardModel", "asks", "(I)Z"⟩, 15), (⟨"QuarrelboardModel", "asksPlayer", "(I)Z"⟩, 15), (⟨"QuarrelboardModel", "stateNow", "(I)I"⟩, 15), (⟨"QuarrelboardModel", "standing", "(I)I"⟩, 15), (⟨"QuarrelboardModel", "decides", "(I)V"⟩, 15), (⟨"QuarrelboardModel", "have", "(IIZ)Z"⟩, 15), (⟨"QuarrelboardModel", "scored", "(II)I"⟩, 15)]
theorem lw_r2 : ∀ q ∈ lw_privs_2, lw_okq q := List.forall_mem_cons.mpr ⟨lw_p16, List.forall_mem_cons.mpr ⟨lw_p17, List.forall_mem_cons.mpr ⟨lw_p18, List.forall_mem_cons.mpr ⟨lw_p19, List.forall_mem_cons.mpr ⟨lw_p20, List.forall_mem_cons.mpr ⟨lw_p21, List.forall_mem_cons.mpr ⟨lw_p22, List.forall_mem_cons.mpr ⟨lw_p23, fun _ h => absurd h List.not_mem_nil⟩⟩⟩⟩⟩⟩⟩⟩
def lw_privs : List (MethodName × Nat) := lw_privs_1 ++ (lw_privs_2)
def lw_tbl : List Cond := k2_sels lw_privs ++ tables_1
theorem lw_privs_ok : ∀ q ∈ lw_privs, lw_okq q := by
  show ∀ q ∈ lw_privs_1 ++ (lw_privs_2), lw_okq q
  exact List.forall_mem_append.mpr ⟨lw_r1, lw_r2⟩
-- ===== end of PART A; then your names; then what follows =====
end
section
/-! ===== BEGIN words of one list among another's, by their places ===== -/
theorem goodIn_r {big : List Cond} (ws : List Cond) (ps : List Nat) (hp : ws = ps.filterMap (fun i => big[i]?)) (h : ws.all goodWord = true) : GoodIn big ws := by
  intro w hw
  have h1 := List.all_eq_true.mp h w hw
  rw [hp] at hw
  obtain ⟨i, -, hi⟩ := List.mem_filterMap.mp hw
  have hm : w ∈ big := by first | exact List.mem_of_getElem? hi | exact List.getElem?_mem hi
  exact ⟨hm, good_of_word h1⟩
theorem goodIn_app {big a b : List Cond} (ha : GoodIn big a) (hb : GoodIn big b) : GoodIn big (a ++ b) := fun w h => (List.mem_append.mp h).elim (ha w) (hb w)
theorem goodIn_ca {big a b : List Cond} {c : Cond} (ha : GoodIn big (c :: a)) (hb : GoodIn big b) : GoodIn big (c :: (a ++ b)) := fun w h => (List.mem_cons.mp h).elim (fun e => ha w (List.mem_cons.mpr (Or.inl e))) (fun h => (List.mem_append.mp h).elim (fun h => ha w (List.mem_cons.mpr (Or.inr h))) (hb w))
theorem goodIn_sub {big ws : List Cond} (hm : ∀ w ∈ ws, w ∈ big) (h : ws.all goodWord = true) : GoodIn big ws := fun w hw => ⟨hm w hw, good_of_word (List.all_eq_true.mp h w hw)⟩
/-! ===== END ===== -/

/-! ===== BEGIN exceptions that leave a method, and their catching by the caller (launches without stack traces) ===== -/
section VXA
/-! The laws vx_back, vx_callV, vx_callS, vx_callSW, vx_throw0, vx_throwS follow proofs of the library, with one case more: JvmDerived/Free/Laws.lean (Back.of_free), Shelf42/LK1.lean (callV, callS), Shelf/KitTraced.lean (throwNew0V, throwNewS). -/
/-- where a method has thrown q: the class by its name, the cell, what was written, the world -/
def vx_T (XC : String → State → State → Prop) (st : State) (q : Addr) (t : State) (mc ms : Nat) (free : Addr → Prop) : Prop :=
  ∃ (E : String) (ce : Cell) (L : List Loc), XC E st t ∧ t.heap[q]? = some ce ∧ ce.vm = .none ∧ st.vm.findClass E = some ce.cls ∧ st.WarmedH t.vm ∧ st.sameButNew ({ t with vm := st.vm } : State) L mc ms ∧ ∀ z ∈ L, free z.base
def vx_Q (Qc : Array Value → State → Outcome → State → Prop) (XC : String → State → State → Prop) (mc ms : Nat) (free : Addr → Prop) : Array Value → State → Outcome → State → Prop := fun a st o t =>
  (Qc a st o t ∧ ∃ L, FrameEnd st o t L mc ms ∧ ∀ q ∈ L, free q.base) ∨ ∃ q, o = .threw q ∧ vx_T XC st q t mc ms free
/-- a callee that returns or throws -/
def vx_Met (l : Launch) (y : MethodName) (ws : List Cond) (rm : Room) (Pc : Array Value → State → Prop) (Qc : Array Value → State → Outcome → State → Prop) (XC : String → State → State → Prop) (mc ms : Nat) (free : Addr → Prop) : Prop :=
  MetFree l y (headSpec ws rm) Pc (fun _ _ _ _ _ => True) (vx_Q Qc XC mc ms free)
def vx_Post (XC : String → State → State → Prop) (mc ms : Nat) (free : Addr → Prop) : Pt → Array Value → Addr → Pt → Prop := fun A a q B =>
  ∃ (g : JFrame) (mk : MethodId) (t : State) (L : List Loc) (E : String) (ce : Cell), B.U.heap = t.heap ∧ B.U.vm = t.vm ∧ XC E (A.U.calling g mk a) t ∧ t.heap[q]? = some ce ∧ ce.vm = .none ∧ A.U.vm.findClass E = some ce.cls ∧ B.locs = A.locs ++ L ∧ (∀ z ∈ L, free z.base) ∧ B.cells = A.cells + mc ∧ B.slots = A.slots + ms
def vx_Back (l : Launch) (R : Room) (p : Program) (e : Env) (below : List Frame) (s : State) (sargs : Array Value) (y : MethodName) (len W9 : Nat)
    (Pre : Pt → Array Value → Prop) (Post : Pt → Array Value → Option Value → Pt → Prop) (PostX : Pt → Array Value → Addr → Pt → Prop) : Prop :=
  ∀ (m : MethodId) (meth : Method) (c : Code) (A : Pt) (g : JFrame) (ig : Instr) (mk : MethodId) (a : Array Value),
    Stand p l e R s m sargs below meth c A.U A.locs A.cells A.slots → g.method = m → g.locals.size = c.maxLocals → decode c.code g.pc = .ok (ig, len) →
    2 * g.monitorRoom + (g.stack.map fun v => v.category).sum ≤ W9 → A.U.methodNamed? y = some mk → Pre A a →
    (∃ (v : Option Value) (B : Pt), Stand p l e R s m sargs below meth c B.U B.locs B.cells B.slots ∧ Post A a v B ∧
      Steps p.tables e below (doInvoke e (A.U.setTop g) [] mk a).1 (B.U.setTop { g with pc := g.pc + len, stack := v.toList ++ g.stack })) ∨
    (∃ (q : Addr) (B : Pt), Stand p l e R s m sargs below meth c B.U B.locs B.cells B.slots ∧ PostX A a q B ∧
      Steps p.tables e below (doInvoke e (A.U.setTop g) [] mk a).1 ((B.U.setTop g).pushFrame (.throwing q)))
section Payer
variable {l : Launch} {R : Room} {p : Program} {e : Env} {below : List Frame} {s : State} {sargs : Array Value} {y : MethodName} {len W9 : Nat}
theorem vx_back {ws : List Cond} {rm : Room} {Pc : Array Value → State → Prop} {Qc : Array Value → State → Outcome → State → Prop} {XC : String → State → State → Prop} {mc ms : Nat} {free : Addr → Prop} {bytes : ByteArray} {maxL : Nat} {ret : Option FieldType}
    (hM : vx_Met l y ws rm Pc Qc XC mc ms free) (hblind : FrameBlind Pc) (hrc : rm.cells = mc) (hrs : rm.slots = ms)
    (hframes : rm.frames + 1 ≤ R.frames) (hlocals : W9 + (maxL + 11) + rm.locals ≤ R.locals)
    (hws : ∀ w ∈ ws, ∀ a' U, s.WarmedH U.vm → w.before a' U = true) (hcode : Cond.code y bytes maxL ret ∈ ws) (hinit : ∀ a' U, s.WarmedH U.vm → (Cond.initialized y.cls).before a' U = true) :
    vx_Back l R p e below s sargs y len W9 (PreOf R mc ms Pc) (PostOf Qc mc ms free) (vx_Post XC mc ms free) := by
  intro m meth c A g ig mk a X hg hsize hdg hW hn hp
  have h1 : (headSpec ws rm).pre.before a A.U = true := atoms_intro fun w hw => hws w hw _ _ X.warmed
  have h2 : (Cond.code y bytes maxL ret).before a A.U = true := hws _ hcode _ _ X.warmed
  have h3 : (Cond.initialized y.cls).before a A.U = true := hinit _ _ X.warmed
  have h4 : A.cells + (headSpec ws rm).room.cells ≤ R.cells := by rw [show (headSpec ws rm).room.cells = mc from hrc]; exact hp.1
  have h5 : A.slots + (headSpec ws rm).room.slots ≤ R.slots := by rw [show (headSpec ws rm).room.slots = ms from hrs]; exact hp.2.1
  have hPc : Pc a (A.U.calling g mk a) := hblind _ _ _ _ hp.2.2
  obtain ⟨U, Ls, c0, s0⟩ := A
  dsimp only [Pt.U, Pt.locs, Pt.cells, Pt.slots] at h1 h2 h3 h4 h5 X hn hPc ⊢
  obtain ⟨methY, cY, hmY, hcY, -, hlY, -, -, -, -⟩ := Cond.code_spec hn h2
  obtain ⟨kY, hkY, -⟩ := className_of_methodNamed hn
  have hinitY : kY.init = .initialized := Cond.initialized_spec (findClass_of_methodNamed hn) hkY h3
  have h : At U g.method c below := by rw [hg]; exact X.here
  have hlocals9 : W9 + (maxL + 11) + (headSpec ws rm).room.locals ≤ R.locals := hlocals
  have happ : (headSpec ws rm).appliesLoose y e.platform (U.calling g mk a) = true :=
    Spec.appliesLoose_calling (g := g) h hdg hn hkY hinitY
      (X.room_calling (g := g) (R' := (headSpec ws rm).room) hsize hmY hcY hframes (by rw [hlY]; omega) h4 h5) h1
  obtain ⟨mid, hmid⟩ := h.above
  have hfr : (U.setTop g).frames = (.java g :: mid) ++ below := by rw [State.frames_setTop' g h.top, hmid]; rfl
  obtain ⟨o, s₂, hsteps, -, hend, hq⟩ := Steps.callFree hM p X.admits X.cas X.clock (acts := []) hfr happ hPc trivial
  have hq' : vx_Q Qc XC mc ms free a (U.calling g mk a) o s₂ := hq
  rw [State.frames_setTop' g h.top] at hend
  obtain ⟨g₀, hg0⟩ := Option.isSome_iff_exists.mp h.top
  obtain ⟨r, hr⟩ := State.topJava?_eq_some.mp hg0
  have hr' : (({ U with heap := s₂.heap, slotsUsed := s₂.slotsUsed } : State).setVm s₂.vm).frames = .java g₀ :: r := hr
  rcases hq' with ⟨hqc, L, hfe, hL⟩ | ⟨q, rfl, E, ce, L, hx, hce, hcv, hcl, hW₂, hsm, hL⟩
  · obtain ⟨⟨v, rfl⟩, hW₂, e2, q2, q3, q4, q5, q6⟩ := id hfe
    have e3 : s₂ = ({ (U.calling g mk a).setFrames s₂.frames with heap := s₂.heap, slotsUsed := s₂.slotsUsed } : State).setVm s₂.vm := by
      have : s₂ = ({ s₂ with vm := (U.calling g mk a).vm } : State).setVm s₂.vm := rfl
      rw [e2] at this
      exact this
    obtain ⟨c₂, i₂, len₂, hc₂, hd₂, hf₂⟩ := hend
    have hW' : U.WarmedH s₂.vm := hW₂
    have hcc : c₂ = c := by
      have h1 : s₂.code? g.method = U.code? g.method := by
        rw [State.code?_eq, State.code?_eq, hW'.alike.method?]
      exact Option.some.inj (hc₂.symm.trans (h1.trans h.code))
    subst hcc
    have hlen : len₂ = len := by rw [hdg] at hd₂; cases hd₂; rfl
    subst hlen
    have hs₂ : s₂ = (({ U with heap := s₂.heap, slotsUsed := s₂.slotsUsed } : State).setVm s₂.vm).setTop { g with pc := g.pc + len₂, stack := v.toList ++ g.stack } := by
      refine e3.trans ?_
      rw [hf₂, State.calling_eq h.top, State.setFrames_setFrames, State.setTop_of_frames _ hr', hr]
      rfl
    have hsame : U.sameButNew ({ U with heap := s₂.heap, slotsUsed := s₂.slotsUsed } : State) L mc ms := by
      refine ⟨?_, q2, q3, q4, q5, q6⟩
      obtain ⟨t, ht, -⟩ := State.frames_cons hr
      show ({ U with heap := s₂.heap, slotsUsed := s₂.slotsUsed } : State) = { U.setFrames U.frames with heap := s₂.heap, slotsUsed := s₂.slotsUsed }
      rw [State.setFrames_self ht]
    subst hg
    refine Or.inl ⟨v, ⟨(({ U with heap := s₂.heap, slotsUsed := s₂.slotsUsed } : State).setVm s₂.vm), Ls ++ L, c0 + mc, s0 + ms⟩,
      ⟨X.admits, X.cas, X.clock, X.frames, X.room, X.hears, X.method, X.code, (X.here.setHeapUsed s₂.heap s₂.slotsUsed).setVm hW'.alike, X.tail, State.WarmedH.trans X.warmed hW', X.limits, X.bytes, X.same.trans (hsame.setVm s.vm)⟩,
      ⟨g, mk, s₂, L, rfl, rfl, hqc, rfl, hL, rfl, rfl⟩, ?_⟩
    show Steps p.tables e below _ ((({ U with heap := s₂.heap, slotsUsed := s₂.slotsUsed } : State).setVm s₂.vm).setTop { g with pc := g.pc + len₂, stack := v.toList ++ g.stack })
    rw [← hs₂]
    exact hsteps
  · obtain ⟨e2, q2, q3, q4, q5, q6⟩ := id hsm
    have e3 : s₂ = ({ (U.calling g mk a).setFrames s₂.frames with heap := s₂.heap, slotsUsed := s₂.slotsUsed } : State).setVm s₂.vm := by
      have : s₂ = ({ s₂ with vm := (U.calling g mk a).vm } : State).setVm s₂.vm := rfl
      rw [e2] at this
      exact this
    have hf₂ : s₂.frames = .throwing q :: .java g :: U.frames.tail := hend
    have hW' : U.WarmedH s₂.vm := hW₂
    have hs₂ : s₂ = ((({ U with heap := s₂.heap, slotsUsed := s₂.slotsUsed } : State).setVm s₂.vm).setTop g).pushFrame (.throwing q) := by
      refine e3.trans ?_
      rw [hf₂, State.calling_eq h.top, State.setFrames_setFrames, State.pushFrame, State.frames_setTop _ hr', State.setTop_of_frames _ hr', State.setFrames_setFrames, hr]
      rfl
    have hsame : U.sameButNew ({ U with heap := s₂.heap, slotsUsed := s₂.slotsUsed } : State) L mc ms := by
      refine ⟨?_, q2, q3, q4, q5, q6⟩
      obtain ⟨t, ht, -⟩ := State.frames_cons hr
      show ({ U with heap := s₂.heap, slotsUsed := s₂.slotsUsed } : State) = { U.setFrames U.frames with heap := s₂.heap, slotsUsed := s₂.slotsUsed }
      rw [State.setFrames_self ht]
    subst hg
    refine Or.inr ⟨q, ⟨(({ U with heap := s₂.heap, slotsUsed := s₂.slotsUsed } : State).setVm s₂.vm), Ls ++ L, c0 + mc, s0 + ms⟩,
      ⟨X.admits, X.cas, X.clock, X.frames, X.room, X.hears, X.method, X.code, (X.here.setHeapUsed s₂.heap s₂.slotsUsed).setVm hW'.alike, X.tail, State.WarmedH.trans X.warmed hW', X.limits, X.bytes, X.same.trans (hsame.setVm s.vm)⟩,
      ⟨g, mk, s₂, L, E, ce, rfl, rfl, hx, hce, hcv, hcl, rfl, hL, rfl, rfl⟩, ?_⟩
    show Steps p.tables e below _ (((({ U with heap := s₂.heap, slotsUsed := s₂.slotsUsed } : State).setVm s₂.vm).setTop g).pushFrame (.throwing q))
    rw [← hs₂]
    exact hsteps
end Payer
section Calls
variable {p : Program} {l : Launch} {e : Env} {R : Room} {s : State} {m : MethodId} {args : Array Value} {below : List Frame} {meth : Method} {c : Code} {T : State} {locs : List Loc} {cells slots : Nat}
theorem vx_callV (X : Stand p l e R s m args below meth c T locs cells slots) (hexec : p.tables.exec = Jvm.exec) {own C : String} {index : Nat} {y : MethodName} {bytes : ByteArray} {maxL : Nat} {ret : Option FieldType}
    (hown : s.vm.findClass own = some m.cls) (hlink : (Cond.methodLink own index y).before args s = true) (hinst : (Cond.instanceMethod y).before args s = true) (hsel : (Cond.selects C y y).before args s = true)
    (hcode : (Cond.code y bytes maxL ret).before args s = true) (hy : y.cls ≠ "java/lang/invoke/MethodHandle" ∧ y.cls ≠ "java/lang/invoke/VarHandle")
    {W9 : Nat} {Pre : Pt → Array Value → Prop} {Post : Pt → Array Value → Option Value → Pt → Prop} {PostX : Pt → Array Value → Addr → Pt → Prop} (hK : vx_Back l R p e below s args y 3 W9 Pre Post PostX)
    {b : Addr} {cellB : Cell} (hcell : T.heap[b]? = some cellB) (hobj : cellB.vm.isStatics = false) (hcls : s.vm.findClass C = some cellB.cls)
    {g : JFrame} (hg : g.method = m) (hsize : g.locals.size = c.maxLocals) {argsL rest : List Value} (hlen : ∀ sig, parseMethodDescriptor y.desc = some sig → argsL.length = sig.parameters.length)
    (hstack : g.stack = argsL.reverse ++ .ref b :: rest) (hW : 2 * g.monitorRoom + (rest.map fun v => v.category).sum ≤ W9) (hdg : decode c.code g.pc = .ok (.invokevirtual index, 3))
    (hpre : ∀ vm₁, s.WarmedH vm₁ → Pre ⟨T.setVm vm₁, locs, cells, slots⟩ (Value.ref b :: argsL).toArray) :
    (∃ (v : Option Value) (vm₁ : Vm) (B : Pt), s.WarmedH vm₁ ∧ Stand p l e R s m args below meth c B.U B.locs B.cells B.slots ∧ Post ⟨T.setVm vm₁, locs, cells, slots⟩ (Value.ref b :: argsL).toArray v B ∧
      ∀ target, Steps p.tables e below (B.U.setTop { g with pc := g.pc + 3, stack := v.toList ++ rest }) target → Steps p.tables e below (T.setTop g) target) ∨
    (∃ (q : Addr) (vm₁ : Vm) (B : Pt), s.WarmedH vm₁ ∧ Stand p l e R s m args below meth c B.U B.locs B.cells B.slots ∧ PostX ⟨T.setVm vm₁, locs, cells, slots⟩ (Value.ref b :: argsL).toArray q B ∧
      Steps p.tables e below (T.setTop g) ((B.U.setTop { g with stack := rest }).pushFrame (.throwing q))) := by
  obtain ⟨mk, methM, hnamed, hmethM, hstM, habM⟩ := Cond.instanceMethod_spec hinst
  obtain ⟨methM', cM, hmethM', -, -, -, -, -, -, hsigM⟩ := Cond.code_spec hnamed hcode
  cases hmethM.symm.trans hmethM'
  obtain ⟨c2, r2, m2, q1, q2, q3, q4, kP, hkP, hkPi⟩ := Cond.selects_spec hsel
  cases hcls.symm.trans q1
  cases (State.methodFound?_of_named hnamed hy).symm.trans q2
  cases hnamed.symm.trans q3
  have hselP : selectMethod e.platform s.vm cellB.cls mk = .method mk := by rw [Launch.admits_selectMethod X.admits]; exact q4
  obtain ⟨vm₁, X₁, hstep₁⟩ := X.invokevirtual hexec hown hlink hnamed hmethM hstM hkP hkPi hy (a := b) (cell := cellB) hcell
    (fun z h => by rw [h] at hobj; cases hobj) hselP hmethM habM hkP hkPi (g := g) hg (argsL := argsL) (rest := rest) (hlen _ hsigM) hstack hdg
  rcases hK m meth c ⟨T.setVm vm₁, locs, cells, slots⟩ { g with stack := rest } (.invokevirtual index) mk (Value.ref b :: argsL).toArray X₁ hg hsize hdg hW (X₁.named hnamed) (hpre vm₁ X₁.warmed) with ⟨v, B, X', hpost, hsteps⟩ | ⟨q, B, X', hpost, hsteps⟩
  · exact Or.inl ⟨v, vm₁, B, X₁.warmed, X', hpost, fun target h => hstep₁ _ fun acts => by rw [doInvoke_state]; exact hsteps.trans h⟩
  · exact Or.inr ⟨q, vm₁, B, X₁.warmed, X', hpost, hstep₁ _ fun acts => by rw [doInvoke_state]; exact hsteps⟩
theorem vx_callS (X : Stand p l e R s m args below meth c T locs cells slots) (hexec : p.tables.exec = Jvm.exec) {own : String} {index : Nat} {y : MethodName} {bytes : ByteArray} {maxL : Nat} {ret : Option FieldType}
    (hown : s.vm.findClass own = some m.cls) (hlink : (Cond.methodLink own index y).before args s = true) (hstat : (Cond.static y).before args s = true) (hinit : (Cond.initialized y.cls).before args s = true)
    (hcode : (Cond.code y bytes maxL ret).before args s = true) (hy : y.cls ≠ "java/lang/invoke/MethodHandle" ∧ y.cls ≠ "java/lang/invoke/VarHandle")
    {W9 : Nat} {Pre : Pt → Array Value → Prop} {Post : Pt → Array Value → Option Value → Pt → Prop} {PostX : Pt → Array Value → Addr → Pt → Prop} (hK : vx_Back l R p e below s args y 3 W9 Pre Post PostX)
    {g : JFrame} (hg : g.method = m) (hsize : g.locals.size = c.maxLocals) {argsL rest : List Value} (hlen : ∀ sig, parseMethodDescriptor y.desc = some sig → argsL.length = sig.parameters.length)
    (hstack : g.stack = argsL.reverse ++ rest) (hW : 2 * g.monitorRoom + (rest.map fun v => v.category).sum ≤ W9) (hdg : decode c.code g.pc = .ok (.invokestatic index, 3))
    (hpre : ∀ vm₁, s.WarmedH vm₁ → Pre ⟨T.setVm vm₁, locs, cells, slots⟩ argsL.toArray) :
    (∃ (v : Option Value) (vm₁ : Vm) (B : Pt), s.WarmedH vm₁ ∧ Stand p l e R s m args below meth c B.U B.locs B.cells B.slots ∧ Post ⟨T.setVm vm₁, locs, cells, slots⟩ argsL.toArray v B ∧
      ∀ target, Steps p.tables e below (B.U.setTop { g with pc := g.pc + 3, stack := v.toList ++ rest }) target → Steps p.tables e below (T.setTop g) target) ∨
    (∃ (q : Addr) (vm₁ : Vm) (B : Pt), s.WarmedH vm₁ ∧ Stand p l e R s m args below meth c B.U B.locs B.cells B.slots ∧ PostX ⟨T.setVm vm₁, locs, cells, slots⟩ argsL.toArray q B ∧
      Steps p.tables e below (T.setTop g) ((B.U.setTop { g with stack := rest }).pushFrame (.throwing q))) := by
  obtain ⟨mk, hnamed⟩ := Cond.code_named hcode
  obtain ⟨methM, cM, hmethM, -, -, -, -, -, -, hsigM⟩ := Cond.code_spec hnamed hcode
  have hstatic : methM.isStatic = true := Cond.static_spec hnamed hmethM hstat
  obtain ⟨kP, hkP, -⟩ := className_of_methodNamed hnamed
  have hinitP : kP.init = .initialized := Cond.initialized_spec (findClass_of_methodNamed hnamed) hkP hinit
  obtain ⟨vm₁, X₁, hstep₁⟩ := X.invokestatic hexec hown hlink hnamed hmethM hstatic hkP hinitP hy (g := g) hg (argsL := argsL) (rest := rest) (hlen _ hsigM) hstack hdg
  rcases hK m meth c ⟨T.setVm vm₁, locs, cells, slots⟩ { g with stack := rest } (.invokestatic index) mk argsL.toArray X₁ hg hsize hdg hW (X₁.named hnamed) (hpre vm₁ X₁.warmed) with ⟨v, B, X', hpost, hsteps⟩ | ⟨q, B, X', hpost, hsteps⟩
  · exact Or.inl ⟨v, vm₁, B, X₁.warmed, X', hpost, fun target h => hstep₁ _ fun acts => by rw [doInvoke_state]; exact hsteps.trans h⟩
  · exact Or.inr ⟨q, vm₁, B, X₁.warmed, X', hpost, hstep₁ _ fun acts => by rw [doInvoke_state]; exact hsteps⟩
end Calls
theorem vx_cls {s : State} {T : State} {vm₁ : Vm} {E : String} {k : ClassId} (hW : s.WarmedH vm₁) (h : (T.setVm vm₁).vm.findClass E = some k) : s.vm.findClass E = some k := by
  have h1 : vm₁.findClass E = some k := h
  rw [hW.alike.findClass] at h1
  exact h1
/-- the method's frame g, with q thrown over it -/
def vx_W (p : Program) (l : Launch) (e : Env) (R : Room) (s : State) (m : MethodId) (args : Array Value) (below : List Frame) (meth : Method) (c : Code) (H : Heap) (locs : List Loc) (cells slots : Nat) (Q : State → Prop) (g : JFrame) (q : Addr) : Prop :=
  ∀ T : State, T.heap = H → Stand p l e R s m args below meth c T locs cells slots → ∃ t, Steps p.tables e below ((T.setTop g).pushFrame (.throwing q)) t ∧ Q t
def vx_Run (p : Program) (l : Launch) (e : Env) (R : Room) (s : State) (m : MethodId) (args : Array Value) (below : List Frame) (meth : Method) (c : Code) (H : Heap) (locs : List Loc) (cells slots mc ms : Nat) (g : JFrame) (rest : List Value) (Qa : State → Outcome → State → Prop) (XC : String → State → State → Prop) (free : Addr → Prop) : Prop :=
  ∀ T : State, T.heap = H → Stand p l e R s m args below meth c T locs cells slots →
    (∃ (v : Option Value) (st₀ t T' : State) (L : List Loc), st₀.heap = H ∧ Stand p l e R s m args below meth c T' (locs ++ L) (cells + mc) (slots + ms) ∧ (∀ q ∈ L, free q.base) ∧ T'.heap = t.heap ∧ T'.vm = t.vm ∧ Qa st₀ (.returned v) t ∧
      Goes p e below T g T' { g with pc := g.pc + 3, stack := v.toList ++ rest }) ∨
    (∃ (q : Addr) (st₀ t T' : State) (L : List Loc) (E : String) (ce : Cell), st₀.heap = H ∧ Stand p l e R s m args below meth c T' (locs ++ L) (cells + mc) (slots + ms) ∧ (∀ z ∈ L, free z.base) ∧ T'.heap = t.heap ∧ T'.vm = t.vm ∧ XC E st₀ t ∧ t.heap[q]? = some ce ∧ ce.vm = .none ∧ s.vm.findClass E = some ce.cls ∧
      Steps p.tables e below (T.setTop g) ((T'.setTop { g with stack := rest }).pushFrame (.throwing q)))
def vx_X {S : Type} (px : S → Prop) (B : String → S → State → Prop) (A : Nat → Prop) : String → State → State → Prop := fun E st t => ∃ u : S, px u ∧ B E u t ∧ va_F A st t
section Runs
variable {p : Program} {l : Launch} {e : Env} {R : Room} {s : State} {m : MethodId} {args : Array Value} {below : List Frame} {meth : Method} {c : Code} {H : Heap} {locs : List Loc} {cells slots : Nat}
variable {y : MethodName} {bytes cc : ByteArray} {maxL nL mc ms n index : Nat} {ret : Option FieldType} {ws : List Cond} {rm : Room} {Pc : Array Value → State → Prop} {Qc : Array Value → State → Outcome → State → Prop} {XC : String → State → State → Prop} {free : Addr → Prop} {Ts : List Cond} {own C : String} {b : Addr} {As rest : List Value} {g : JFrame}
theorem vx_callBack (cb : CallB R s args own index y bytes maxL ret ws rm mc ms n) (hM : vx_Met l y ws rm Pc Qc XC mc ms free) (hbl : FrameBlind Pc) : vx_Back l R p e below s args y 3 8 (PreOf R mc ms Pc) (PostOf Qc mc ms free) (vx_Post XC mc ms free) := by
  obtain ⟨hrc, hrs, hfr, hlo, hws, hcw, -, hini, -⟩ := cb
  exact vx_back (bytes := bytes) (maxL := maxL) (ret := ret) hM hbl hrc hrs hfr hlo hws hcw (fun a' U hW => word_at hW (Or.inl (by first | rfl | simp [Cond.onTables, Cond.keeps, Cond.steady])) hini)
theorem vx_runV (S : CallFix p m c cc nL s args Ts own) (hM : vx_Met l y ws rm Pc Qc XC mc ms free) (cw : CallW R s args own C index y bytes maxL ret ws rm mc ms n) (hp : PreV s H C b Pc As)
    (hg : g.method = m) (hn : As.length = n) (hsize : g.locals.size = nL) (hstack : g.stack = As.reverse ++ .ref b :: rest) (hW : 2 * g.monitorRoom + (rest.map fun v => v.category).sum ≤ 8) (hdg : decode cc g.pc = .ok (.invokevirtual index, 3)) (hf : cells + mc ≤ R.cells ∧ slots + ms ≤ R.slots) :
    vx_Run p l e R s m args below meth c H locs cells slots mc ms g rest (Qc (Value.ref b :: As).toArray) XC free := by
  have hK : vx_Back l R p e below s args y 3 8 (PreOf R mc ms Pc) (PostOf Qc mc ms free) (vx_Post XC mc ms free) := vx_callBack cw.1 hM hp.1
  obtain ⟨⟨-, -, -, -, -, -, hcode, -, hy, hlen, hl⟩, hin, hse⟩ := cw
  obtain ⟨hx, hb, hml, ho, -⟩ := S
  obtain ⟨-, ⟨cellB, hcB, hoB, hclB⟩, hPc⟩ := hp
  intro T hT X
  rcases vx_callV X hx (C := C) (bytes := bytes) (maxL := maxL) (ret := ret) ho hl hin hse hcode hy hK (by rw [hT]; exact hcB) hoB hclB hg (hsize.trans hml.symm) (argsL := As) (rest := rest) (fun sig h => hn.trans (hlen sig h)) hstack hW (by rw [hb]; exact hdg)
    (fun vm₁ hW₁ => ⟨hf.1, hf.2, hPc (T.setVm vm₁) hT hW₁⟩) with ⟨v, vm₁, ⟨U', l2, c2, s2⟩, hW₁, X', ⟨g', mk, t, L, e1, e2, hq, h1, hL, h2, h3⟩, st⟩ | ⟨q, vm₁, ⟨U', l2, c2, s2⟩, hW₁, X', ⟨g', mk, t, L, E, ce, e1, e2, hq, hce, hcv, hcl, h1, hL, h2, h3⟩, st⟩
  · dsimp only [Pt.U, Pt.locs, Pt.cells, Pt.slots] at X' e1 e2 h1 h2 h3 st
    subst h1; subst h2; subst h3
    exact Or.inl ⟨v, (T.setVm vm₁).calling g' mk (Value.ref b :: As).toArray, t, U', L, hT, X', hL, e1, e2, hq, st⟩
  · dsimp only [Pt.U, Pt.locs, Pt.cells, Pt.slots] at X' e1 e2 h1 h2 h3 st hcl
    subst h1; subst h2; subst h3
    exact Or.inr ⟨q, (T.setVm vm₁).calling g' mk (Value.ref b :: As).toArray, t, U', L, E, ce, hT, X', hL, e1, e2, hq, hce, hcv, vx_cls hW₁ hcl, st⟩
theorem vx_runS (S : CallFix p m c cc nL s args Ts own) (hM : vx_Met l y ws rm Pc Qc XC mc ms free) (cw : CallB R s args own index y bytes maxL ret ws rm mc ms n ∧ (Cond.static y).before args s = true) (hp : PreS s H Pc As)
    (hg : g.method = m) (hn : As.length = n) (hsize : g.locals.size = nL) (hstack : g.stack = As.reverse ++ rest) (hW : 2 * g.monitorRoom + (rest.map fun v => v.category).sum ≤ 8) (hdg : decode cc g.pc = .ok (.invokestatic index, 3)) (hf : cells + mc ≤ R.cells ∧ slots + ms ≤ R.slots) :
    vx_Run p l e R s m args below meth c H locs cells slots mc ms g rest (Qc As.toArray) XC free := by
  have hK : vx_Back l R p e below s args y 3 8 (PreOf R mc ms Pc) (PostOf Qc mc ms free) (vx_Post XC mc ms free) := vx_callBack cw.1 hM hp.1
  obtain ⟨⟨-, -, -, -, -, -, hcode, hini, hy, hlen, hl⟩, hstt⟩ := cw
  obtain ⟨hx, hb, hml, ho, -⟩ := S
  intro T hT X
  rcases vx_callS X hx (bytes := bytes) (maxL := maxL) (ret := ret) ho hl hstt hini hcode hy hK hg (hsize.trans hml.symm) (argsL := As) (rest := rest) (fun sig h => hn.trans (hlen sig h)) hstack hW (by rw [hb]; exact hdg)
    (fun vm₁ hW₁ => ⟨hf.1, hf.2, hp.2 (T.setVm vm₁) hT hW₁⟩) with ⟨v, vm₁, ⟨U', l2, c2, s2⟩, hW₁, X', ⟨g', mk, t, L, e1, e2, hq, h1, hL, h2, h3⟩, st⟩ | ⟨q, vm₁, ⟨U', l2, c2, s2⟩, hW₁, X', ⟨g', mk, t, L, E, ce, e1, e2, hq, hce, hcv, hcl, h1, hL, h2, h3⟩, st⟩
  · dsimp only [Pt.U, Pt.locs, Pt.cells, Pt.slots] at X' e1 e2 h1 h2 h3 st
    subst h1; subst h2; subst h3
    exact Or.inl ⟨v, (T.setVm vm₁).calling g' mk As.toArray, t, U', L, hT, X', hL, e1, e2, hq, st⟩
  · dsimp only [Pt.U, Pt.locs, Pt.cells, Pt.slots] at X' e1 e2 h1 h2 h3 st hcl
    subst h1; subst h2; subst h3
    exact Or.inr ⟨q, (T.setVm vm₁).calling g' mk As.toArray, t, U', L, E, ce, hT, X', hL, e1, e2, hq, hce, hcv, vx_cls hW₁ hcl, st⟩
end Runs
section Rows
variable {p : Program} {l : Launch} {e : Env} {R : Room} {s : State} {m : MethodId} {args : Array Value} {below : List Frame} {meth : Method} {c : Code} {H : Heap} {locs : List Loc} {cells slots : Nat} {Q : State → Prop}
variable {mc ms : Nat} {free : Addr → Prop} {A0 A1 : Nat → Prop} {H0 : Heap} {a : Array Value} {pc : Nat} {ls : Array Slot} {st0 rest : List Value}
theorem vx_keep {st₀ t T' : State} {L : List Loc} (h0 : st₀.heap = H) (e1 : T'.heap = t.heap) (hS : va_S A0 H0 H locs) (hA : ∀ q, q < H.size → A1 q → A0 q) (hf : ∀ q, free q → A0 q) (hL : ∀ q ∈ L, free q.base) (hF : va_F A1 st₀ t) :
    H.size ≤ T'.heap.size ∧ (∀ q : Nat, q < H.size → ¬ A1 q → T'.heap[q]? = H[q]?) ∧ va_S A0 H0 T'.heap (locs ++ L) := by
  obtain ⟨hz, hk⟩ := hF
  rw [h0] at hz hk
  exact ⟨by rw [e1]; exact hz, fun q h1 h2 => by rw [e1]; exact hk q h1 h2,
    ⟨Nat.le_trans hS.1 (by rw [e1]; exact hz), fun q h1 h2 => by rw [e1, hk q (Nat.lt_of_lt_of_le h1 hS.1) (fun z => h2 (hA q (Nat.lt_of_lt_of_le h1 hS.1) z))]; exact hS.2.1 q h1 h2, fun q hq => by
      rcases List.mem_append.mp hq with h | h
      · exact hS.2.2 q h
      · exact hf _ (hL q h)⟩⟩
theorem vx_calli {S SX : Type} {post : Int32 → S → Prop} {px : SX → Prop} {B : S → State → Prop} {BX : String → SX → State → Prop} {AX : Nat → Prop} (hr : vx_Run p l e R s m args below meth c H locs cells slots mc ms (F0 m pc ls st0) rest (va_Qi post B A1 a) (vx_X px BX AX) free) (hS : va_S A0 H0 H locs) (hA : ∀ q, q < H.size → A1 q → A0 q) (hf : ∀ q, free q → A0 q) (hAX : ∀ q, q < H.size → AX q → A0 q)
    (kx : ∀ (E : String) (ce : Cell) (q9 : Addr) (u : SX) (t : State) (H1 : Heap) (locs1 : List Loc), t.heap = H1 → s.vm.Alike t.vm → px u → BX E u t → H.size ≤ H1.size → (∀ q : Nat, q < H.size → ¬ AX q → H1[q]? = H[q]?) → va_S A0 H0 H1 locs1 → H1[q9]? = some ce → ce.vm = .none → s.vm.findClass E = some ce.cls → vx_W p l e R s m args below meth c H1 locs1 (cells + mc) (slots + ms) Q (F0 m pc ls rest) q9)
    (kk : ∀ (r : Int32) (u : S) (t : State) (H1 : Heap) (locs1 : List Loc), t.heap = H1 → s.vm.Alike t.vm → post r u → B u t → H.size ≤ H1.size → (∀ q : Nat, q < H.size → ¬ A1 q → H1[q]? = H[q]?) → va_S A0 H0 H1 locs1 → W p l e R s m args below meth c H1 locs1 (cells + mc) (slots + ms) Q (F0 m (pc + 3) ls (.int r :: rest))) : W p l e R s m args below meth c H locs cells slots Q (F0 m pc ls st0) := by
  intro T hT X
  rcases hr T hT X with ⟨v, st₀, t, T', L, h0, X', hL, e1, e2, ⟨⟨r, u, hv, hp, hb⟩, hF⟩, st⟩ | ⟨q, st₀, t, T', L, E, ce, h0, X', hL, e1, e2, ⟨u, hp, hb, hF⟩, hce, hcv, hcl, st⟩
  · cases hv
    obtain ⟨k1, k2, k3⟩ := vx_keep h0 e1 hS hA hf hL hF
    obtain ⟨t2, a1, b1⟩ := kk r u t T'.heap (locs ++ L) e1.symm (by rw [← e2]; exact X'.warmed.alike) hp hb k1 k2 k3 T' rfl X'
    exact ⟨t2, st t2 a1, b1⟩
  · obtain ⟨k1, k2, k3⟩ := vx_keep h0 e1 hS hAX hf hL hF
    obtain ⟨t2, a1, b1⟩ := kx E ce q u t T'.heap (locs ++ L) e1.symm (by rw [← e2]; exact X'.warmed.alike) hp hb k1 k2 k3 (by rw [e1]; exact hce) hcv hcl T' rfl X'
    exact ⟨t2, st.trans a1, b1⟩
theorem vx_calll {S SX : Type} {post : Int64 → S → Prop} {px : SX → Prop} {B : S → State → Prop} {BX : String → SX → State → Prop} {AX : Nat → Prop} (hr : vx_Run p l e R s m args below meth c H locs cells slots mc ms (F0 m pc ls st0) rest (va_Ql post B A1 a) (vx_X px BX AX) free) (hS : va_S A0 H0 H locs) (hA : ∀ q, q < H.size → A1 q → A0 q) (hf : ∀ q, free q → A0 q) (hAX : ∀ q, q < H.size → AX q → A0 q)
    (kx : ∀ (E : String) (ce : Cell) (q9 : Addr) (u : SX) (t : State) (H1 : Heap) (locs1 : List Loc), t.heap = H1 → s.vm.Alike t.vm → px u → BX E u t → H.size ≤ H1.size → (∀ q : Nat, q < H.size → ¬ AX q → H1[q]? = H[q]?) → va_S A0 H0 H1 locs1 → H1[q9]? = some ce → ce.vm = .none → s.vm.findClass E = some ce.cls → vx_W p l e R s m args below meth c H1 locs1 (cells + mc) (slots + ms) Q (F0 m pc ls rest) q9)
    (kk : ∀ (r : Int64) (u : S) (t : State) (H1 : Heap) (locs1 : List Loc), t.heap = H1 → s.vm.Alike t.vm → post r u → B u t → H.size ≤ H1.size → (∀ q : Nat, q < H.size → ¬ A1 q → H1[q]? = H[q]?) → va_S A0 H0 H1 locs1 → W p l e R s m args below meth c H1 locs1 (cells + mc) (slots + ms) Q (F0 m (pc + 3) ls (.long r :: rest))) : W p l e R s m args below meth c H locs cells slots Q (F0 m pc ls st0) := by
  intro T hT X
  rcases hr T hT X with ⟨v, st₀, t, T', L, h0, X', hL, e1, e2, ⟨⟨r, u, hv, hp, hb⟩, hF⟩, st⟩ | ⟨q, st₀, t, T', L, E, ce, h0, X', hL, e1, e2, ⟨u, hp, hb, hF⟩, hce, hcv, hcl, st⟩
  · cases hv
    obtain ⟨k1, k2, k3⟩ := vx_keep h0 e1 hS hA hf hL hF
    obtain ⟨t2, a1, b1⟩ := kk r u t T'.heap (locs ++ L) e1.symm (by rw [← e2]; exact X'.warmed.alike) hp hb k1 k2 k3 T' rfl X'
    exact ⟨t2, st t2 a1, b1⟩
  · obtain ⟨k1, k2, k3⟩ := vx_keep h0 e1 hS hAX hf hL hF
    obtain ⟨t2, a1, b1⟩ := kx E ce q u t T'.heap (locs ++ L) e1.symm (by rw [← e2]; exact X'.warmed.alike) hp hb k1 k2 k3 (by rw [e1]; exact hce) hcv hcl T' rfl X'
    exact ⟨t2, st.trans a1, b1⟩
theorem vx_callf {S SX : Type} {post : UInt32 → S → Prop} {px : SX → Prop} {B : S → State → Prop} {BX : String → SX → State → Prop} {AX : Nat → Prop} (hr : vx_Run p l e R s m args below meth c H locs cells slots mc ms (F0 m pc ls st0) rest (va_Qf post B A1 a) (vx_X px BX AX) free) (hS : va_S A0 H0 H locs) (hA : ∀ q, q < H.size → A1 q → A0 q) (hf : ∀ q, free q → A0 q) (hAX : ∀ q, q < H.size → AX q → A0 q)
    (kx : ∀ (E : String) (ce : Cell) (q9 : Addr) (u : SX) (t : State) (H1 : Heap) (locs1 : List Loc), t.heap = H1 → s.vm.Alike t.vm → px u → BX E u t → H.size ≤ H1.size → (∀ q : Nat, q < H.size → ¬ AX q → H1[q]? = H[q]?) → va_S A0 H0 H1 locs1 → H1[q9]? = some ce → ce.vm = .none → s.vm.findClass E = some ce.cls → vx_W p l e R s m args below meth c H1 locs1 (cells + mc) (slots + ms) Q (F0 m pc ls rest) q9)
    (kk : ∀ (r : UInt32) (u : S) (t : State) (H1 : Heap) (locs1 : List Loc), t.heap = H1 → s.vm.Alike t.vm → post r u → B u t → H.size ≤ H1.size → (∀ q : Nat, q < H.size → ¬ A1 q → H1[q]? = H[q]?) → va_S A0 H0 H1 locs1 → W p l e R s m args below meth c H1 locs1 (cells + mc) (slots + ms) Q (F0 m (pc + 3) ls (.float r :: rest))) : W p l e R s m args below meth c H locs cells slots Q (F0 m pc ls st0) := by
  intro T hT X
  rcases hr T hT X with ⟨v, st₀, t, T', L, h0, X', hL, e1, e2, ⟨⟨r, u, hv, hp, hb⟩, hF⟩, st⟩ | ⟨q, st₀, t, T', L, E, ce, h0, X', hL, e1, e2, ⟨u, hp, hb, hF⟩, hce, hcv, hcl, st⟩
  · cases hv
    obtain ⟨k1, k2, k3⟩ := vx_keep h0 e1 hS hA hf hL hF
    obtain ⟨t2, a1, b1⟩ := kk r u t T'.heap (locs ++ L) e1.symm (by rw [← e2]; exact X'.warmed.alike) hp hb k1 k2 k3 T' rfl X'
    exact ⟨t2, st t2 a1, b1⟩
  · obtain ⟨k1, k2, k3⟩ := vx_keep h0 e1 hS hAX hf hL hF
    obtain ⟨t2, a1, b1⟩ := kx E ce q u t T'.heap (locs ++ L) e1.symm (by rw [← e2]; exact X'.warmed.alike) hp hb k1 k2 k3 (by rw [e1]; exact hce) hcv hcl T' rfl X'
    exact ⟨t2, st.trans a1, b1⟩
theorem vx_calld {S SX : Type} {post : UInt64 → S → Prop} {px : SX → Prop} {B : S → State → Prop} {BX : String → SX → State → Prop} {AX : Nat → Prop} (hr : vx_Run p l e R s m args below meth c H locs cells slots mc ms (F0 m pc ls st0) rest (va_Qd post B A1 a) (vx_X px BX AX) free) (hS : va_S A0 H0 H locs) (hA : ∀ q, q < H.size → A1 q → A0 q) (hf : ∀ q, free q → A0 q) (hAX : ∀ q, q < H.size → AX q → A0 q)
    (kx : ∀ (E : String) (ce : Cell) (q9 : Addr) (u : SX) (t : State) (H1 : Heap) (locs1 : List Loc), t.heap = H1 → s.vm.Alike t.vm → px u → BX E u t → H.size ≤ H1.size → (∀ q : Nat, q < H.size → ¬ AX q → H1[q]? = H[q]?) → va_S A0 H0 H1 locs1 → H1[q9]? = some ce → ce.vm = .none → s.vm.findClass E = some ce.cls → vx_W p l e R s m args below meth c H1 locs1 (cells + mc) (slots + ms) Q (F0 m pc ls rest) q9)
    (kk : ∀ (r : UInt64) (u : S) (t : State) (H1 : Heap) (locs1 : List Loc), t.heap = H1 → s.vm.Alike t.vm → post r u → B u t → H.size ≤ H1.size → (∀ q : Nat, q < H.size → ¬ A1 q → H1[q]? = H[q]?) → va_S A0 H0 H1 locs1 → W p l e R s m args below meth c H1 locs1 (cells + mc) (slots + ms) Q (F0 m (pc + 3) ls (.double r :: rest))) : W p l e R s m args below meth c H locs cells slots Q (F0 m pc ls st0) := by
  intro T hT X
  rcases hr T hT X with ⟨v, st₀, t, T', L, h0, X', hL, e1, e2, ⟨⟨r, u, hv, hp, hb⟩, hF⟩, st⟩ | ⟨q, st₀, t, T', L, E, ce, h0, X', hL, e1, e2, ⟨u, hp, hb, hF⟩, hce, hcv, hcl, st⟩
  · cases hv
    obtain ⟨k1, k2, k3⟩ := vx_keep h0 e1 hS hA hf hL hF
    obtain ⟨t2, a1, b1⟩ := kk r u t T'.heap (locs ++ L) e1.symm (by rw [← e2]; exact X'.warmed.alike) hp hb k1 k2 k3 T' rfl X'
    exact ⟨t2, st t2 a1, b1⟩
  · obtain ⟨k1, k2, k3⟩ := vx_keep h0 e1 hS hAX hf hL hF
    obtain ⟨t2, a1, b1⟩ := kx E ce q u t T'.heap (locs ++ L) e1.symm (by rw [← e2]; exact X'.warmed.alike) hp hb k1 k2 k3 (by rw [e1]; exact hce) hcv hcl T' rfl X'
    exact ⟨t2, st.trans a1, b1⟩
theorem vx_callv {S SX : Type} {post : S → Prop} {px : SX → Prop} {B : S → State → Prop} {BX : String → SX → State → Prop} {AX : Nat → Prop} (hr : vx_Run p l e R s m args below meth c H locs cells slots mc ms (F0 m pc ls st0) rest (va_Qv post B A1 a) (vx_X px BX AX) free) (hS : va_S A0 H0 H locs) (hA : ∀ q, q < H.size → A1 q → A0 q) (hf : ∀ q, free q → A0 q) (hAX : ∀ q, q < H.size → AX q → A0 q)
    (kx : ∀ (E : String) (ce : Cell) (q9 : Addr) (u : SX) (t : State) (H1 : Heap) (locs1 : List Loc), t.heap = H1 → s.vm.Alike t.vm → px u → BX E u t → H.size ≤ H1.size → (∀ q : Nat, q < H.size → ¬ AX q → H1[q]? = H[q]?) → va_S A0 H0 H1 locs1 → H1[q9]? = some ce → ce.vm = .none → s.vm.findClass E = some ce.cls → vx_W p l e R s m args below meth c H1 locs1 (cells + mc) (slots + ms) Q (F0 m pc ls rest) q9)
    (kk : ∀ (u : S) (t : State) (H1 : Heap) (locs1 : List Loc), t.heap = H1 → s.vm.Alike t.vm → post u → B u t → H.size ≤ H1.size → (∀ q : Nat, q < H.size → ¬ A1 q → H1[q]? = H[q]?) → va_S A0 H0 H1 locs1 → W p l e R s m args below meth c H1 locs1 (cells + mc) (slots + ms) Q (F0 m (pc + 3) ls (rest))) : W p l e R s m args below meth c H locs cells slots Q (F0 m pc ls st0) := by
  intro T hT X
  rcases hr T hT X with ⟨v, st₀, t, T', L, h0, X', hL, e1, e2, ⟨⟨u, hv, hp, hb⟩, hF⟩, st⟩ | ⟨q, st₀, t, T', L, E, ce, h0, X', hL, e1, e2, ⟨u, hp, hb, hF⟩, hce, hcv, hcl, st⟩
  · cases hv
    obtain ⟨k1, k2, k3⟩ := vx_keep h0 e1 hS hA hf hL hF
    obtain ⟨t2, a1, b1⟩ := kk u t T'.heap (locs ++ L) e1.symm (by rw [← e2]; exact X'.warmed.alike) hp hb k1 k2 k3 T' rfl X'
    exact ⟨t2, st t2 a1, b1⟩
  · obtain ⟨k1, k2, k3⟩ := vx_keep h0 e1 hS hAX hf hL hF
    obtain ⟨t2, a1, b1⟩ := kx E ce q u t T'.heap (locs ++ L) e1.symm (by rw [← e2]; exact X'.warmed.alike) hp hb k1 k2 k3 (by rw [e1]; exact hce) hcv hcl T' rfl X'
    exact ⟨t2, st.trans a1, b1⟩
/-- caught by the row x of this method's table; the rows ahead don't take it -/
theorem vx_catch {own name : String} {E : String} {ce : Cell} {q : Addr} (hown : s.vm.findClass own = some m.cls) (pre : List ExceptionTableEntry) (x : ExceptionTableEntry) (suf : List ExceptionTableEntry) (hsplit : c.exceptionTable.toList = pre ++ x :: suf)
    (hpass : ∀ z ∈ pre, covers z pc = false ∨ (z.catchType ≠ 0 ∧ ∃ nm : String, (Cond.classLink own z.catchType nm).before args s = true ∧ va_Nc E nm s)) (hx : covers x pc = true) (h0 : x.catchType ≠ 0)
    (hlink : (Cond.classLink own x.catchType name).before args s = true) (hcast : (Cond.castable E name).before args s = true) (hcell : H[q]? = some ce) (hv : ce.vm = .none) (hcl : s.vm.findClass E = some ce.cls)
    (kk : W p l e R s m args below meth c H locs cells slots Q (F0 m x.handlerPc ls [.ref q])) : vx_W p l e R s m args below meth c H locs cells slots Q (F0 m pc ls rest) q := by
  intro T hT X
  have hpl : e.platform.magicAccessors = ({} : Platform).magicAccessors := by rw [X.admits.platform]
  obtain ⟨c3, c4, hc3, hc4, hasg⟩ := Cond.castable_spec hcast
  cases Option.some.inj (hc3.symm.trans hcl)
  obtain ⟨c5, hc5, hcl5⟩ := Cond.classLink_spec hown hlink e.platform hpl
  cases Option.some.inj (hc4.symm.trans hc5)
  obtain ⟨vm', X', st⟩ := X.thenCaughtThrough q (g := F0 m pc ls rest) rfl (Steps.refl _) (by rw [hT]; exact hcell) (by rw [hv]; rfl) (by obtain ⟨k9, h9, -⟩ := Vm.findClass_spec hcl; exact ⟨k9, h9⟩) pre x suf hsplit
    (fun z hz => by
      rcases hpass z hz with h | ⟨hz0, nm, hl1, hn1⟩
      · exact Or.inl h
      · obtain ⟨c6, hc6, hcl6⟩ := Cond.classLink_spec hown hl1 e.platform hpl
        obtain ⟨a8, b8, h1, h2, h3⟩ := hn1
        cases Option.some.inj (h1.symm.trans hcl)
        cases Option.some.inj (h2.symm.trans hc6)
        exact Or.inr ⟨hz0, _, hcl6, h3⟩) hx (Or.inr ⟨h0, c4, hcl5, hasg⟩)
  obtain ⟨t, a1, b1⟩ := kk (T.setVm vm') hT X'
  exact ⟨t, st.trans a1, b1⟩
end Rows
section Ends
variable {p : Program} {l : Launch} {e : Env} {R : Room} {s : State} {m : MethodId} {args : Array Value} {below : List Frame} {meth : Method} {c : Code} {H : Heap} {locs : List Loc} {cells slots : Nat} {Q : State → Prop}
variable {mc ms : Nat} {free : Addr → Prop} {A0 A1 : Nat → Prop} {H0 : Heap} {a : Array Value} {ls : Array Slot} {st0 rest : List Value}
variable {Qc : Array Value → State → Outcome → State → Prop} {XC : String → State → State → Prop}
/-- what a body that may throw owes at its end -/
def vx_MQ (below : List Frame) (Qc : Array Value → State → Outcome → State → Prop) (XC : String → State → State → Prop) (a : Array Value) (s : State) (mc ms : Nat) (free : Addr → Prop) : State → Prop := fun t =>
  ∃ o, t.status = .running ∧ Ended t below o ∧ vx_Q Qc XC mc ms free a s o t
theorem vx_ret {g : JFrame} {mc ms : Nat} (k : W p l e R s m args below meth c H locs cells slots (MQ below Qc args s mc ms free) g) : W p l e R s m args below meth c H locs cells slots (vx_MQ below Qc XC args s mc ms free) g := by
  intro T hT X
  obtain ⟨t, a1, o, b1, b2, b3, b4⟩ := k T hT X
  exact ⟨t, a1, o, b1, b2, Or.inl ⟨b3, b4⟩⟩
/-- not caught here: it goes on to the caller -/
theorem vx_widen {g : JFrame} {q : Addr} {k n : Nat} (h1 : cells ≤ k) (h2 : slots ≤ n) (kk : vx_W p l e R s m args below meth c H locs k n Q g q) : vx_W p l e R s m args below meth c H locs cells slots Q g q := fun T hT X => kk T hT (stand_widen X h1 h2)
theorem vx_out {pc : Nat} {E : String} {ce : Cell} {q : Addr} {mc ms : Nat} (hout : ∀ x ∈ c.exceptionTable.toList, covers x pc = false) (hlocks : meth.locks = false) (hcell : H[q]? = some ce) (hv : ce.vm = .none) (hcl : s.vm.findClass E = some ce.cls)
    (hx : ∀ t : State, t.heap = H → s.vm.Alike t.vm → XC E s t) (hf : ∀ z ∈ locs, free z.base) (hc : cells ≤ mc) (hs : slots ≤ ms) :
    vx_W p l e R s m args below meth c H locs cells slots (vx_MQ below Qc XC args s mc ms free) (F0 m pc ls rest) q := by
  intro T hT X
  obtain ⟨st1, hrun, hend, hW, hsm⟩ := X.leaveThrown q (g := F0 m pc ls rest) rfl rfl rfl hout hlocks
  have hcell9 : (T.setFrames (.throwing q :: below)).heap[q]? = some ce := by
    show T.heap[q]? = some ce
    rw [hT]; exact hcell
  exact ⟨_, st1, .threw q, hrun, hend, Or.inr ⟨q, rfl, E, ce, locs, hx _ hT hW.alike, hcell9, hv, hcl, hW, hsm.mono hc hs, hf⟩⟩
theorem vx_frame {U : State} {k n : Nat} (h : s.sameButNew ({ U with vm := s.vm } : State) locs k n) : s.heap.size ≤ U.heap.size ∧ ∀ q : Nat, q < s.heap.size → (∀ z ∈ locs, z.base ≠ q) → U.heap[q]? = s.heap[q]? := by
  obtain ⟨-, h2, -, -, -, h6⟩ := h
  refine ⟨h2, fun q hq hz => ?_⟩
  obtain ⟨c9, e1, e2, e3, e4⟩ := h6 q _ (Array.getElem?_eq_getElem hq)
  have hs : c9.slots = (s.heap[q]).slots := Array.ext_getElem? fun i => e4 i fun hm => hz _ hm rfl
  have h9 : c9 = s.heap[q] := by
    rw [hs] at e2
    exact e2
  have e5 : U.heap[q]? = some c9 := e1
  rw [e5, h9, Array.getElem?_eq_getElem hq]
/-- the words of a throw but the four that speak of the heap -/
def vx_no (w : Cond) : Bool := decide (w ≠ .isRef (.static Bundle.tN "UNASSIGNED_STACK" Bundle.steD)) && decide (w ≠ .isRef (.static Bundle.tN "SUPPRESSED_SENTINEL" Bundle.listD)) && decide (w ≠ .laysStatic Bundle.tN "UNASSIGNED_STACK" Bundle.steD) && decide (w ≠ .laysStatic Bundle.tN "SUPPRESSED_SENTINEL" Bundle.listD)
def vx_at0 (own : String) (ic : Nat) (X : String) (names : List String) : List Cond := (Bundle.ownAtoms0 own ic X names).filter vx_no
def vx_atS (own : String) (ic : Nat) (X : String) (names : List String) : List Cond := (Bundle.ownAtoms own ic X names).filter vx_no
/-- a word that the tables alone decide, or a good one -/
def vx_ot (w : Cond) : Bool := w.onTables || goodWord w
theorem vx_ot_at {args a' : Array Value} {s U : State} {w : Cond} (hW : s.WarmedH U.vm) (hvm : s.vm = U.vm) (hg : vx_ot w = true) (h : w.before args s = true) : w.before a' U = true := by
  simp only [vx_ot, Bool.or_eq_true] at hg
  rcases hg with hg | hg
  · exact va_tabs hg hvm h
  · exact word_at hW (good_of_word hg) h
/-- a list's words: the good ones out of the method's own list, the others by premises of their own -/
theorem vx_hat {args : Array Value} {s : State} {L B : List Cond} (h1 : ∀ w ∈ L.filter goodWord, w.before args s = true) (h2 : ∀ w ∈ L.filter (fun w => !goodWord w), w ∈ B) (h3 : ∀ w ∈ B, w.before args s = true) : ∀ w ∈ L, w.before args s = true := by
  intro w hw
  by_cases g : goodWord w = true
  · exact h1 w (List.mem_filter.mpr ⟨hw, g⟩)
  · refine h3 w (h2 w (List.mem_filter.mpr ⟨hw, ?_⟩))
    show (!goodWord w) = true
    cases hgw : goodWord w
    · rfl
    · exact absurd hgw g
theorem vx_c {args : Array Value} {s : State} {w : Cond} {B : List Cond} (h : w.before args s = true) (t : ∀ w ∈ B, w.before args s = true) : ∀ w' ∈ w :: B, w'.before args s = true := fun w' h' => (List.mem_cons.mp h').elim (fun e => by rw [e]; exact h) (t w')
theorem vx_n {args : Array Value} {s : State} : ∀ w ∈ ([] : List Cond), w.before args s = true := fun _ h => nomatch h
theorem vx_own {args : Array Value} {s : State} {L : List Cond} (h1 : ∀ w ∈ L.filter vx_no, w.before args s = true)
    (hU : (Cond.isRef (.static Bundle.tN "UNASSIGNED_STACK" Bundle.steD)).before args s = true) (hN : (Cond.isRef (.static Bundle.tN "SUPPRESSED_SENTINEL" Bundle.listD)).before args s = true)
    (lU : (Cond.laysStatic Bundle.tN "UNASSIGNED_STACK" Bundle.steD).before args s = true) (lN : (Cond.laysStatic Bundle.tN "SUPPRESSED_SENTINEL" Bundle.listD).before args s = true) : ∀ w ∈ L, w.before args s = true := by
  intro w hw
  by_cases e1 : w = .isRef (.static Bundle.tN "UNASSIGNED_STACK" Bundle.steD)
  · rw [e1]; exact hU
  · by_cases e2 : w = .isRef (.static Bundle.tN "SUPPRESSED_SENTINEL" Bundle.listD)
    · rw [e2]; exact hN
    · by_cases e3 : w = .laysStatic Bundle.tN "UNASSIGNED_STACK" Bundle.steD
      · rw [e3]; exact lU
      · by_cases e4 : w = .laysStatic Bundle.tN "SUPPRESSED_SENTINEL" Bundle.listD
        · rw [e4]; exact lN
        · exact h1 w (List.mem_filter.mpr ⟨hw, by unfold vx_no; rw [decide_eq_true e1, decide_eq_true e2, decide_eq_true e3, decide_eq_true e4]; rfl⟩)
/-- where a static field lies, its class's statics cell in H -/
def vx_L (C n d : String) (A : Nat → Prop) (U : State) (H : Heap) : Prop := ∃ (c : ClassId) (k : Class) (i : Nat) (f : Field) (a : Nat) (cell : Cell), U.vm.findClass C = some c ∧ U.fieldFound? C n d = some (c, k, i, f) ∧ f.isStatic = true ∧ k.statics = some a ∧ H[a]? = some cell ∧ cell.vm.isStatics = true ∧ cell.cls = c ∧ f.slot < cell.slots.size ∧ k.staticTypes[f.slot]? = some f.type ∧ ¬ A a
theorem vx_L.moved {C n d : String} {A : Nat → Prop} {u U : State} {H : Heap} (hvm : u.vm.Alike U.vm) (h : vx_L C n d A u H) : vx_L C n d A U H := by
  obtain ⟨c, k, i, f, a, cell, h1, h2, h3, h4, h5, h6, h7, h8, h9, h10⟩ := h
  obtain ⟨k', hi', he⟩ := State.fieldFound?_setVm hvm h2
  exact ⟨c, k', i, f, a, cell, by rw [hvm.findClass]; exact h1, hi', h3, by rw [he]; exact h4, h5, h6, h7, h8, by rw [he]; exact h9, h10⟩
theorem vx_L.kept {C n d : String} {A : Nat → Prop} {U : State} {H H1 : Heap} (h : vx_L C n d A U H) (hq : ∀ a : Nat, a < H.size → ¬ A a → H1[a]? = H[a]?) : vx_L C n d A U H1 := by
  obtain ⟨c, k, i, f, a, cell, h1, h2, h3, h4, h5, h6, h7, h8, h9, h10⟩ := h
  exact ⟨c, k, i, f, a, cell, h1, h2, h3, h4, by rw [hq a (Array.getElem?_eq_some_iff.mp h5).1 h10]; exact h5, h6, h7, h8, h9, h10⟩
theorem vx_L.narrow {C n d : String} {A B : Nat → Prop} {U : State} {H : Heap} (h : vx_L C n d A U H) (hAB : ∀ q, B q → A q) : vx_L C n d B U H := by
  obtain ⟨c, k, i, f, a, cell, h1, h2, h3, h4, h5, h6, h7, h8, h9, h10⟩ := h
  exact ⟨c, k, i, f, a, cell, h1, h2, h3, h4, h5, h6, h7, h8, h9, fun z => h10 (hAB _ z)⟩
theorem vx_L.word {C n d : String} {A : Nat → Prop} {s : State} {args : Array Value} (h : vx_L C n d A s s.heap) : (Cond.laysStatic C n d).before args s = true := by
  obtain ⟨c, k, i, f, a, cell, h1, h2, h3, h4, h5, h6, h7, h8, h9, -⟩ := h
  show (Cond.laysStatic C n d).holds args s none s [] = true
  exact Cond.laysStatic_of h1 h2 h3 h4 h5 h6 h7 h8 h9
/-- .. and what it holds: null or some reference -/
def vx_Zq (C n d : String) (A : Nat → Prop) (U : State) (H : Heap) : Prop := va_Zq C n d A U H ∧ vx_L C n d A U H
theorem vx_Zq.moved {C n d : String} {A : Nat → Prop} {u U : State} {H : Heap} (hvm : u.vm.Alike U.vm) (h : vx_Zq C n d A u H) : vx_Zq C n d A U H := ⟨va_Zq.moved hvm h.1, vx_L.moved hvm h.2⟩
theorem vx_Zq.kept {C n d : String} {A : Nat → Prop} {U : State} {H H1 : Heap} (h : vx_Zq C n d A U H) (hq : ∀ a : Nat, a < H.size → ¬ A a → H1[a]? = H[a]?) : vx_Zq C n d A U H1 := ⟨va_Zq.kept h.1 hq, vx_L.kept h.2 hq⟩
theorem vx_Zq.narrow {C n d : String} {A B : Nat → Prop} {U : State} {H : Heap} (h : vx_Zq C n d A U H) (hAB : ∀ q, B q → A q) : vx_Zq C n d B U H := ⟨va_Zq.narrow h.1 hAB, vx_L.narrow h.2 hAB⟩
theorem vx_Zqof {args : Array Value} {s : State} {C n d : String} {A : Nat → Prop} (hl : (Cond.laysStatic C n d).before args s = true) (hini : (Cond.initialized C).before args s = true) (h : (Cond.isRef (.static C n d)).before args s = true) (hA : ∀ a : Nat, a < s.heap.size → ¬ A a) : vx_Zq C n d A s s.heap := by
  refine ⟨va_Zqof hl hini h hA, ?_⟩
  obtain ⟨c, k, i, f, a, cell, h1, h2, h3, h4, h5, h6, h7, h8, h9⟩ := Cond.laysStatic_spec hl
  exact ⟨c, k, i, f, a, cell, h1, h2, h3, h4, h5, h6, h7, h8, h9, hA a (Array.getElem?_eq_some_iff.mp h5).1⟩
theorem vx_isRef {C n d : String} {v : Value} {A : Nat → Prop} {s : State} {args : Array Value} (h : va_Z C n d v A s s.heap) (hv : v.isRef = true) : (Cond.isRef (.static C n d)).before args s = true := by
  obtain ⟨cf, kf, fi, f, a, cell, h1, h2, h3, h4, h5, h6, h7, -⟩ := h
  have he : (Term.static C n d).eval args s none [] s = some v := by
    simp [Term.eval, State.fieldNamed?, h1, h2, h4, h5, h6, h7]
  simp only [Cond.before, Cond.holds, Cond.value, he]
  cases v <;> simp_all [Value.isRef]
theorem vx_isRefq {C n d : String} {A : Nat → Prop} {s : State} {args : Array Value} (h : va_Zq C n d A s s.heap) : (Cond.isRef (.static C n d)).before args s = true := by
  rcases h with h | ⟨t, h⟩
  · exact vx_isRef h rfl
  · exact vx_isRef h rfl
/-- the same frame, seen from here: as if the method were called anew in this heap -/
theorem vx_rebase {T : State} (X : Stand p l e R s m args below meth c T locs cells slots) {R' : Room} (hf : R'.frames ≤ R.frames) (hl : R'.locals ≤ R.locals) (hc : cells + R'.cells ≤ R.cells) (hs : slots + R'.slots ≤ R.slots) :
    Stand p l e R' ((T.setVm s.vm).setFrames (.invoking m args :: below)) m args below meth c T [] 0 0 := by
  have htop : (T.setVm s.vm).topJava?.isSome := X.here.top
  have hF : ((T.setVm s.vm).setFrames (.invoking m args :: below)).frames = .invoking m args :: below := State.frames_setFrames _ (State.cur_lt_of_top htop)
  obtain ⟨g₀, hg0⟩ := Option.isSome_iff_exists.mp htop
  obtain ⟨r, hr⟩ := State.topJava?_eq_some.mp hg0
  have hl9 : e.platform.stackLimits (T.setVm s.vm).me = e.platform.stackLimits s.me := X.limits
  have hb9 : (T.setVm s.vm).me.stackBytes = s.me.stackBytes := X.bytes
  refine ⟨X.admits, X.cas, X.clock, hF, ?_, X.hears, X.method, X.code, X.here, X.tail, X.warmed, ?_, ?_, ?_⟩
  · have h := X.room
    have hU : ((T.setVm s.vm).setFrames (.invoking m args :: below)).localsInUse = s.localsInUse := by
      rw [State.localsInUse_invoking hF (meth := meth) (c := c) X.method X.code, State.localsInUse_invoking X.frames X.method X.code]
    simp only [State.hasRoom, Bool.and_eq_true, decide_eq_true_eq] at h ⊢
    obtain ⟨⟨⟨⟨h1, h2, h3, h4, h5, h6⟩, h7⟩, h8⟩, h9⟩ := h
    rw [X.frames, List.length_cons] at h2 h3
    have q1 := X.heapSize
    have q2 := X.used
    simp only [hF, hU, List.length_cons, State.stackLimits_setFrames, State.stackBytes_setFrames, hl9, hb9]
    refine ⟨⟨⟨⟨by omega, by omega, by omega, by omega, by omega, h6⟩, ?_⟩, ?_⟩, X.book⟩
    · show T.heap.size + R'.cells ≤ e.platform.maxCells
      omega
    · show T.slotsUsed + R'.slots ≤ e.platform.maxSlots
      omega
  · rw [State.stackLimits_setFrames]; rfl
  · rw [State.stackBytes_setFrames]; rfl
  · refine ⟨?_, Nat.le_refl _, Nat.le_refl _, ?_, ?_, fun a c9 h9 => ⟨c9, h9, rfl, rfl, fun _ _ => rfl⟩⟩
    · obtain ⟨t, ht, -⟩ := State.frames_cons hr
      show T.setVm s.vm = { ((T.setVm s.vm).setFrames (.invoking m args :: below)).setFrames (T.setVm s.vm).frames with heap := T.heap, slotsUsed := T.slotsUsed }
      rw [State.setFrames_setFrames, State.setFrames_self ht]
      rfl
    · show T.slotsUsed = T.slotsUsed + ((T.heap.toList.drop T.heap.size).map (·.slots.size)).sum
      rw [List.drop_eq_nil_of_le (Nat.le_of_eq Array.length_toList)]
      rfl
    · show ((T.heap.toList.drop T.heap.size).map (·.slots.size)).sum ≤ 0
      rw [List.drop_eq_nil_of_le (Nat.le_of_eq Array.length_toList)]
      exact Nat.le_refl _
/-- 'throw new E()': new; dup; invokespecial; athrow -/
theorem vx_throw0 {cc : ByteArray} {pc : Nat} (hexec : p.tables.exec = Jvm.exec) (hb : c.code = cc) (hl : l.stackTraces = false) {own cls : String} {names : List String} {ik ic mc ms : Nat} {A : Nat → Prop}
    (hown : s.vm.findClass own = some m.cls) (hcls : Bundle.fit cls = true) (hnames : ∀ n ∈ names, Bundle.fit n = true)
    (hk : (Cond.classLink own ik cls).before args s = true) (hini : (Cond.initialized cls).before args s = true) (hat : ∀ w ∈ vx_at0 own ic cls names, w.before args s = true)
    (hgood : ∀ w ∈ Cond.classLink own ik cls :: Cond.initialized cls :: vx_at0 own ic cls names, vx_ot w = true)
    (hU : vx_Zq Bundle.tN "UNASSIGNED_STACK" Bundle.steD A s s.heap) (hN : vx_Zq Bundle.tN "SUPPRESSED_SENTINEL" Bundle.listD A s s.heap) (hS : va_S A s.heap H locs) (hsize : ls.size = c.maxLocals)
    (d0 : decode cc pc = .ok (.new ik, 3)) (d3 : decode cc (pc + 3) = .ok (.dup, 1)) (d4 : decode cc (pc + 4) = .ok (.invokespecial ic, 3)) (d7 : decode cc (pc + 7) = .ok (.athrow, 1))
    (hout : ∀ x ∈ c.exceptionTable.toList, covers x (pc + 7) = false)
    (hRframes : names.length + 3 < R.frames) (hRlocals : (rest.map fun v => v.category).sum + (13 * (names.length + 1) + 42) ≤ R.locals) (hRcells : cells + 1 ≤ R.cells) (hRslots : slots + 6 ≤ R.slots) (hlocks : meth.locks = false)
    (hx : ∀ t : State, s.vm.Alike t.vm → H.size ≤ t.heap.size → (∀ q : Nat, q < H.size → t.heap[q]? = H[q]?) → XC cls s t)
    (hf : ∀ z ∈ locs, free z.base) (hc : cells + 1 ≤ mc) (hs : slots + 6 ≤ ms) :
    W p l e R s m args below meth c H locs cells slots (vx_MQ below Qc XC args s mc ms free) (F0 m pc ls rest) := by
  intro T hT X
  have htr : e.platform.stackTraces = false := (show e.platform.stackTraces = l.stackTraces by rw [X.admits.platform]).trans hl
  have Y := vx_rebase X (R' := { frames := R.frames, locals := R.locals, cells := 1, slots := 6 }) (Nat.le_refl _) (Nat.le_refl _) hRcells hRslots
  obtain ⟨s', hA⟩ : ∃ z, z = (T.setVm s.vm).setFrames (.invoking m args :: below) := ⟨_, rfl⟩
  rw [← hA] at Y
  have hvm : s'.vm = s.vm := by rw [hA]; rfl
  have hhp : s'.heap = H := by rw [hA]; exact hT
  have hW0 : s.WarmedH s'.vm := by rw [hvm]; exact State.WarmedH.refl s
  have hat' : ∀ w ∈ vx_at0 own ic cls names, w.before args s' = true := fun w hw => vx_ot_at hW0 hvm.symm (hgood w (List.mem_cons_of_mem _ (List.mem_cons_of_mem _ hw))) (hat w hw)
  have hk' : (Cond.classLink own ik cls).before args s' = true := vx_ot_at hW0 hvm.symm (hgood _ List.mem_cons_self) hk
  have hini' : (Cond.initialized cls).before args s' = true := vx_ot_at hW0 hvm.symm (hgood _ (List.mem_cons_of_mem _ List.mem_cons_self)) hini
  have hU' : vx_Zq Bundle.tN "UNASSIGNED_STACK" Bundle.steD A s' s'.heap := by rw [hhp]; exact vx_Zq.moved hW0.alike (hU.kept hS.2.1)
  have hN' : vx_Zq Bundle.tN "SUPPRESSED_SENTINEL" Bundle.listD A s' s'.heap := by rw [hhp]; exact vx_Zq.moved hW0.alike (hN.kept hS.2.1)
  have h : ∀ w ∈ Bundle.ownAtoms0 own ic cls names, w.before args s' = true := vx_own hat' (vx_isRefq hU'.1) (vx_isRefq hN'.1) hU'.2.word hN'.2.word
  have hown' : s'.vm.findClass own = some m.cls := by rw [hvm]; exact hown
  have hins : (Cond.instantiable cls 6).before args s' = true := h _ (by simp [Bundle.ownAtoms0])
  obtain ⟨vm₁, cX, kX, hfX, hkX, -, -, X₁, st1⟩ := Y.newCold hexec (own := own) (C := cls) (index := ik) (n := 6) hown' hk' hins hini'
    (g := F0 m pc ls rest) rfl (by rw [hb]; exact d0) (Nat.le_refl _) (Nat.le_refl _)
  generalize hT1 : (T.setVm vm₁).pushCell { cls := cX, slots := kX.instanceTypes.map defaultValue, vm := .none } = T1 at X₁ st1
  have hcat : (Value.ref T.heap.size).category = 1 := rfl
  have hcellA : T1.heap[T.heap.size]? = some (freshCell cX kX) := by rw [← hT1]; exact State.heap_pushCell_size _ _
  have d3' : decode c.code (pc + 3) = .ok (.dup, 1) := by rw [hb]; exact d3
  obtain ⟨U, hsteps, hrun, hend, hW, hsame, ce, hce, hO⟩ := X₁.ctorThrow0 hexec htr (own := own) (cls := cls) (names := names) (ic := ic) hown' hcls hnames h (fun x hx => nomatch hx) hfX hkX hcellA (by rw [hhp, hT]; exact Nat.le_refl _)
    (g := { method := m, pc := pc + 4, locals := ls, stack := .ref T.heap.size :: .ref T.heap.size :: rest, locked := none }) rfl hsize rfl rfl (rest := rest) rfl
    (by rw [hb]; exact d4) (by rw [hb]; exact d7) hout hRframes (by simp only [List.map_cons, List.sum_cons, hcat]; omega) hlocks
  obtain ⟨f1, f2⟩ := vx_frame hsame
  rw [hhp] at f1 f2
  have hWs : s.WarmedH U.vm := State.WarmedH.trans hW0 hW
  have hcl : s.vm.findClass cls = some ce.cls := by
    have h9 := hO.cls
    rw [hvm] at h9
    exact h9
  have hall : s.sameButNew ({ U with vm := s.vm } : State) locs mc ms := by
    subst hA
    obtain ⟨e1, e2⟩ := hsame
    rw [State.setFrames_setFrames] at e1
    have h2 : (T.setVm s.vm).sameButNew ({ U with vm := s.vm } : State) [] (0 + 1) (0 + 6) := ⟨e1, e2⟩
    have h3 := X.same.trans h2
    rw [List.append_nil] at h3
    exact h3.mono hc hs
  refine ⟨U, ?_, .threw T.heap.size, hrun, hend, Or.inr ⟨T.heap.size, rfl, cls, ce, locs, hx U hWs.alike f1 (fun q hq => f2 q hq (fun z hz => nomatch hz)), hce, hO.vm, hcl, hWs, hall, hf⟩⟩
  refine st1 _ ?_
  show Steps p.tables e below (T1.setTop { method := m, pc := pc + 3, locals := ls, stack := .ref T.heap.size :: rest, locked := none }) _
  jvm_step X₁.here [X₁.here.top, hexec, d3', Value.category]
  exact hsteps
/-- 'throw new E("text")': new; dup; ldc; invokespecial; athrow -/
theorem vx_throwS {cc : ByteArray} {pc : Nat} (hexec : p.tables.exec = Jvm.exec) (hb : c.code = cc) (hl : l.stackTraces = false) {own cls text : String} {names : List String} {ik is ic mc ms sa : Nat} {A : Nat → Prop}
    (hown : s.vm.findClass own = some m.cls) (hcls : Bundle.fit cls = true) (hnames : ∀ n ∈ names, Bundle.fit n = true)
    (hk : (Cond.classLink own ik cls).before args s = true) (hini : (Cond.initialized cls).before args s = true) (hstr : vk_R own is text sa s) (hat : ∀ w ∈ vx_atS own ic cls names, w.before args s = true)
    (hgood : ∀ w ∈ Cond.classLink own ik cls :: Cond.initialized cls :: vx_atS own ic cls names, vx_ot w = true)
    (hU : vx_Zq Bundle.tN "UNASSIGNED_STACK" Bundle.steD A s s.heap) (hN : vx_Zq Bundle.tN "SUPPRESSED_SENTINEL" Bundle.listD A s s.heap) (hS : va_S A s.heap H locs) (hsize : ls.size = c.maxLocals)
    (d0 : decode cc pc = .ok (.new ik, 3)) (d3 : decode cc (pc + 3) = .ok (.dup, 1)) (d4 : decode cc (pc + 4) = .ok (.ldc is, 2)) (d6 : decode cc (pc + 6) = .ok (.invokespecial ic, 3)) (d9 : decode cc (pc + 9) = .ok (.athrow, 1))
    (hout : ∀ x ∈ c.exceptionTable.toList, covers x (pc + 9) = false)
    (hRframes : names.length + 3 < R.frames) (hRlocals : (rest.map fun v => v.category).sum + (13 * (names.length + 1) + 43) ≤ R.locals) (hRcells : cells + 1 ≤ R.cells) (hRslots : slots + 6 ≤ R.slots) (hlocks : meth.locks = false)
    (hx : ∀ t : State, s.vm.Alike t.vm → H.size ≤ t.heap.size → (∀ q : Nat, q < H.size → t.heap[q]? = H[q]?) → XC cls s t)
    (hf : ∀ z ∈ locs, free z.base) (hc : cells + 1 ≤ mc) (hs : slots + 6 ≤ ms) :
    W p l e R s m args below meth c H locs cells slots (vx_MQ below Qc XC args s mc ms free) (F0 m pc ls rest) := by
  intro T hT X
  have htr : e.platform.stackTraces = false := (show e.platform.stackTraces = l.stackTraces by rw [X.admits.platform]).trans hl
  have Y := vx_rebase X (R' := { frames := R.frames, locals := R.locals, cells := 1, slots := 6 }) (Nat.le_refl _) (Nat.le_refl _) hRcells hRslots
  obtain ⟨s', hA⟩ : ∃ z, z = (T.setVm s.vm).setFrames (.invoking m args :: below) := ⟨_, rfl⟩
  rw [← hA] at Y
  have hvm : s'.vm = s.vm := by rw [hA]; rfl
  have hhp : s'.heap = H := by rw [hA]; exact hT
  have hW0 : s.WarmedH s'.vm := by rw [hvm]; exact State.WarmedH.refl s
  have hat' : ∀ w ∈ vx_atS own ic cls names, w.before args s' = true := fun w hw => vx_ot_at hW0 hvm.symm (hgood w (List.mem_cons_of_mem _ (List.mem_cons_of_mem _ hw))) (hat w hw)
  have hk' : (Cond.classLink own ik cls).before args s' = true := vx_ot_at hW0 hvm.symm (hgood _ List.mem_cons_self) hk
  have hini' : (Cond.initialized cls).before args s' = true := vx_ot_at hW0 hvm.symm (hgood _ (List.mem_cons_of_mem _ List.mem_cons_self)) hini
  have hU' : vx_Zq Bundle.tN "UNASSIGNED_STACK" Bundle.steD A s' s'.heap := by rw [hhp]; exact vx_Zq.moved hW0.alike (hU.kept hS.2.1)
  have hN' : vx_Zq Bundle.tN "SUPPRESSED_SENTINEL" Bundle.listD A s' s'.heap := by rw [hhp]; exact vx_Zq.moved hW0.alike (hN.kept hS.2.1)
  have h : ∀ w ∈ Bundle.ownAtoms own ic cls names, w.before args s' = true := vx_own hat' (vx_isRefq hU'.1) (vx_isRefq hN'.1) hU'.2.word hN'.2.word
  have hown' : s'.vm.findClass own = some m.cls := by rw [hvm]; exact hown
  have hins : (Cond.instantiable cls 6).before args s' = true := h _ (by simp [Bundle.ownAtoms])
  obtain ⟨vm₁, cX, kX, hfX, hkX, -, -, X₁, st1⟩ := Y.newCold hexec (own := own) (C := cls) (index := ik) (n := 6) hown' hk' hins hini'
    (g := F0 m pc ls rest) rfl (by rw [hb]; exact d0) (Nat.le_refl _) (Nat.le_refl _)
  generalize hT1 : (T.setVm vm₁).pushCell { cls := cX, slots := kX.instanceTypes.map defaultValue, vm := .none } = T1 at X₁ st1
  have hcat : (Value.ref T.heap.size).category = 1 := rfl
  have hcellA : T1.heap[T.heap.size]? = some (freshCell cX kX) := by rw [← hT1]; exact State.heap_pushCell_size _ _
  have d3' : decode c.code (pc + 3) = .ok (.dup, 1) := by rw [hb]; exact d3
  have d4' : decode c.code (pc + 4) = .ok (.ldc is, 2) := by rw [hb]; exact d4
  have hstr' : vk_R own is text sa s' := vk_R.warm hW0 hstr
  obtain ⟨U, hsteps, hrun, hend, hW, hsame, ce, hce, hO⟩ := X₁.ctorThrowS hexec htr (own := own) (cls := cls) (names := names) (ic := ic) hown' hcls hnames h (fun x hx => nomatch hx) hfX hkX hcellA (by rw [hhp, hT]; exact Nat.le_refl _) (msg := .ref sa) rfl
    (g := { method := m, pc := pc + 6, locals := ls, stack := .ref sa :: .ref T.heap.size :: .ref T.heap.size :: rest, locked := none }) rfl hsize rfl rfl (rest := rest) rfl
    (by rw [hb]; exact d6) (by rw [hb]; exact d9) hout hRframes (by simp only [List.map_cons, List.sum_cons, hcat]; omega) hlocks
  obtain ⟨f1, f2⟩ := vx_frame hsame
  rw [hhp] at f1 f2
  have hWs : s.WarmedH U.vm := State.WarmedH.trans hW0 hW
  have hcl : s.vm.findClass cls = some ce.cls := by
    have h9 := hO.cls
    rw [hvm] at h9
    exact h9
  have hall : s.sameButNew ({ U with vm := s.vm } : State) locs mc ms := by
    subst hA
    obtain ⟨e1, e2⟩ := hsame
    rw [State.setFrames_setFrames] at e1
    have h2 : (T.setVm s.vm).sameButNew ({ U with vm := s.vm } : State) [] (0 + 1) (0 + 6) := ⟨e1, e2⟩
    have h3 := X.same.trans h2
    rw [List.append_nil] at h3
    exact h3.mono hc hs
  refine ⟨U, ?_, .threw T.heap.size, hrun, hend, Or.inr ⟨T.heap.size, rfl, cls, ce, locs, hx U hWs.alike f1 (fun q hq => f2 q hq (fun z hz => nomatch hz)), hce, hO.vm, hcl, hWs, hall, hf⟩⟩
  refine st1 _ ?_
  show Steps p.tables e below (T1.setTop { method := m, pc := pc + 3, locals := ls, stack := .ref T.heap.size :: rest, locked := none }) _
  jvm_step X₁.here [X₁.here.top, hexec, d3', Value.category]
  exact X₁.ldcString hexec (own := own) (text := text) (index := is) (a := sa) hown' hstr'.1 hstr'.2
    (g := { method := m, pc := pc + 4, locals := ls, stack := .ref T.heap.size :: .ref T.heap.size :: rest, locked := none }) rfl d4' _ hsteps
/-- 'throw new E("text")', the text by a wide index -/
theorem vx_throwSW {cc : ByteArray} {pc : Nat} (hexec : p.tables.exec = Jvm.exec) (hb : c.code = cc) (hl : l.stackTraces = false) {own cls text : String} {names : List String} {ik is ic mc ms sa : Nat} {A : Nat → Prop}
    (hown : s.vm.findClass own = some m.cls) (hcls : Bundle.fit cls = true) (hnames : ∀ n ∈ names, Bundle.fit n = true)
    (hk : (Cond.classLink own ik cls).before args s = true) (hini : (Cond.initialized cls).before args s = true) (hstr : vk_R own is text sa s) (hat : ∀ w ∈ vx_atS own ic cls names, w.before args s = true)
    (hgood : ∀ w ∈ Cond.classLink own ik cls :: Cond.initialized cls :: vx_atS own ic cls names, vx_ot w = true)
    (hU : vx_Zq Bundle.tN "UNASSIGNED_STACK" Bundle.steD A s s.heap) (hN : vx_Zq Bundle.tN "SUPPRESSED_SENTINEL" Bundle.listD A s s.heap) (hS : va_S A s.heap H locs) (hsize : ls.size = c.maxLocals)
    (d0 : decode cc pc = .ok (.new ik, 3)) (d3 : decode cc (pc + 3) = .ok (.dup, 1)) (d4 : decode cc (pc + 4) = .ok (.ldc_w is, 3)) (d7 : decode cc (pc + 7) = .ok (.invokespecial ic, 3)) (d10 : decode cc (pc + 10) = .ok (.athrow, 1))
    (hout : ∀ x ∈ c.exceptionTable.toList, covers x (pc + 10) = false)
    (hRframes : names.length + 3 < R.frames) (hRlocals : (rest.map fun v => v.category).sum + (13 * (names.length + 1) + 43) ≤ R.locals) (hRcells : cells + 1 ≤ R.cells) (hRslots : slots + 6 ≤ R.slots) (hlocks : meth.locks = false)
    (hx : ∀ t : State, s.vm.Alike t.vm → H.size ≤ t.heap.size → (∀ q : Nat, q < H.size → t.heap[q]? = H[q]?) → XC cls s t)
    (hf : ∀ z ∈ locs, free z.base) (hc : cells + 1 ≤ mc) (hs : slots + 6 ≤ ms) :
    W p l e R s m args below meth c H locs cells slots (vx_MQ below Qc XC args s mc ms free) (F0 m pc ls rest) := by
  intro T hT X
  have htr : e.platform.stackTraces = false := (show e.platform.stackTraces = l.stackTraces by rw [X.admits.platform]).trans hl
  have Y := vx_rebase X (R' := { frames := R.frames, locals := R.locals, cells := 1, slots := 6 }) (Nat.le_refl _) (Nat.le_refl _) hRcells hRslots
  obtain ⟨s', hA⟩ : ∃ z, z = (T.setVm s.vm).setFrames (.invoking m args :: below) := ⟨_, rfl⟩
  rw [← hA] at Y
  have hvm : s'.vm = s.vm := by rw [hA]; rfl
  have hhp : s'.heap = H := by rw [hA]; exact hT
  have hW0 : s.WarmedH s'.vm := by rw [hvm]; exact State.WarmedH.refl s
  have hat' : ∀ w ∈ vx_atS own ic cls names, w.before args s' = true := fun w hw => vx_ot_at hW0 hvm.symm (hgood w (List.mem_cons_of_mem _ (List.mem_cons_of_mem _ hw))) (hat w hw)
  have hk' : (Cond.classLink own ik cls).before args s' = true := vx_ot_at hW0 hvm.symm (hgood _ List.mem_cons_self) hk
  have hini' : (Cond.initialized cls).before args s' = true := vx_ot_at hW0 hvm.symm (hgood _ (List.mem_cons_of_mem _ List.mem_cons_self)) hini
  have hU' : vx_Zq Bundle.tN "UNASSIGNED_STACK" Bundle.steD A s' s'.heap := by rw [hhp]; exact vx_Zq.moved hW0.alike (hU.kept hS.2.1)
  have hN' : vx_Zq Bundle.tN "SUPPRESSED_SENTINEL" Bundle.listD A s' s'.heap := by rw [hhp]; exact vx_Zq.moved hW0.alike (hN.kept hS.2.1)
  have h : ∀ w ∈ Bundle.ownAtoms own ic cls names, w.before args s' = true := vx_own hat' (vx_isRefq hU'.1) (vx_isRefq hN'.1) hU'.2.word hN'.2.word
  have hown' : s'.vm.findClass own = some m.cls := by rw [hvm]; exact hown
  have hins : (Cond.instantiable cls 6).before args s' = true := h _ (by simp [Bundle.ownAtoms])
  obtain ⟨vm₁, cX, kX, hfX, hkX, -, -, X₁, st1⟩ := Y.newCold hexec (own := own) (C := cls) (index := ik) (n := 6) hown' hk' hins hini'
    (g := F0 m pc ls rest) rfl (by rw [hb]; exact d0) (Nat.le_refl _) (Nat.le_refl _)
  generalize hT1 : (T.setVm vm₁).pushCell { cls := cX, slots := kX.instanceTypes.map defaultValue, vm := .none } = T1 at X₁ st1
  have hcat : (Value.ref T.heap.size).category = 1 := rfl
  have hcellA : T1.heap[T.heap.size]? = some (freshCell cX kX) := by rw [← hT1]; exact State.heap_pushCell_size _ _
  have d3' : decode c.code (pc + 3) = .ok (.dup, 1) := by rw [hb]; exact d3
  have d4' : decode c.code (pc + 4) = .ok (.ldc_w is, 3) := by rw [hb]; exact d4
  have hstr' : vk_R own is text sa s' := vk_R.warm hW0 hstr
  obtain ⟨U, hsteps, hrun, hend, hW, hsame, ce, hce, hO⟩ := X₁.ctorThrowS hexec htr (own := own) (cls := cls) (names := names) (ic := ic) hown' hcls hnames h (fun x hx => nomatch hx) hfX hkX hcellA (by rw [hhp, hT]; exact Nat.le_refl _) (msg := .ref sa) rfl
    (g := { method := m, pc := pc + 7, locals := ls, stack := .ref sa :: .ref T.heap.size :: .ref T.heap.size :: rest, locked := none }) rfl hsize rfl rfl (rest := rest) rfl
    (by rw [hb]; exact d7) (by rw [hb]; exact d10) hout hRframes (by simp only [List.map_cons, List.sum_cons, hcat]; omega) hlocks
  obtain ⟨f1, f2⟩ := vx_frame hsame
  rw [hhp] at f1 f2
  have hWs : s.WarmedH U.vm := State.WarmedH.trans hW0 hW
  have hcl : s.vm.findClass cls = some ce.cls := by
    have h9 := hO.cls
    rw [hvm] at h9
    exact h9
  have hall : s.sameButNew ({ U with vm := s.vm } : State) locs mc ms := by
    subst hA
    obtain ⟨e1, e2⟩ := hsame
    rw [State.setFrames_setFrames] at e1
    have h2 : (T.setVm s.vm).sameButNew ({ U with vm := s.vm } : State) [] (0 + 1) (0 + 6) := ⟨e1, e2⟩
    have h3 := X.same.trans h2
    rw [List.append_nil] at h3
    exact h3.mono hc hs
  refine ⟨U, ?_, .threw T.heap.size, hrun, hend, Or.inr ⟨T.heap.size, rfl, cls, ce, locs, hx U hWs.alike f1 (fun q hq => f2 q hq (fun z hz => nomatch hz)), hce, hO.vm, hcl, hWs, hall, hf⟩⟩
  refine st1 _ ?_
  show Steps p.tables e below (T1.setTop { method := m, pc := pc + 3, locals := ls, stack := .ref T.heap.size :: rest, locked := none }) _
  jvm_step X₁.here [X₁.here.top, hexec, d3', Value.category]
  exact X₁.ldcStringW hexec (own := own) (text := text) (index := is) (a := sa) hown' hstr'.1 hstr'.2
    (g := { method := m, pc := pc + 4, locals := ls, stack := .ref T.heap.size :: .ref T.heap.size :: rest, locked := none }) rfl d4' _ hsteps
end Ends
section Bodies
variable {l : Launch}
theorem vx_ofW {y : MethodName} {ws ws' : List Cond} {rm : Room} {Pc : Array Value → State → Prop} {Qc : Array Value → State → Outcome → State → Prop} {XC : String → State → State → Prop} {mc ms : Nat} {free : Addr → Prop} {cc : ByteArray} {maxL : Nat} {ret : Option FieldType}
    (hy : plainName y.cls = true) (hw : ws = Cond.code y cc maxL ret :: ws')
    (body : ∀ p e s m args below meth c s₁, BodyLoose p l y (headSpec ws rm) cc maxL ret e s m args below meth c s₁ → c.maxLocals = maxL → (∀ x ∈ c.exceptionTable.toList, False) → Pc args s →
      W p l e (headSpec ws rm).room s m args below meth c s.heap [] 0 0 (vx_MQ below Qc XC args s mc ms free) (entryFrame m args maxL)) : vx_Met l y ws rm Pc Qc XC mc ms free := by
  refine MetFree.of_bodyS (code := cc) (maxLocals := maxL) (ret := ret) hy ?_ ?_
  · intro args s m h hn
    obtain ⟨meth, c, h1, h2, h3, h4, h5, h6, -, -⟩ := Cond.code_spec hn (atoms_spec (ws := ws) h _ (by rw [hw]; exact List.mem_cons_self))
    exact ⟨meth, c, h1, h2, h3, h4, h5, h6⟩
  · intro p e s m args below meth c s₁ B hml hP _
    have hh0 : s₁.heap = s.heap := by rw [B.state]; rfl
    have ht : ∀ x ∈ c.exceptionTable.toList, False := by
      obtain ⟨meth9, c9, h1, h2, -, -, -, -, h7, -⟩ := Cond.code_spec B.named (atoms_spec (ws := ws) B.pre _ (by rw [hw]; exact List.mem_cons_self))
      cases Option.some.inj (h1.symm.trans B.method)
      cases Option.some.inj (h2.symm.trans (Stand.of_body B).code)
      intro x hx
      rw [Array.isEmpty_iff.mp h7] at hx
      cases hx
    obtain ⟨t, a1, o, b1, b2, b3⟩ := body p e s m args below meth c s₁ B hml ht hP s₁ hh0 (Stand.of_body B)
    exact ⟨t, o, a1, b1, b2, b3⟩
/-- the table of a body with handlers -/
theorem vx_table {p : Program} {x y : MethodName} {S : Spec} {cc bytes : ByteArray} {maxL maxL' : Nat} {ret ret' : Option FieldType} {e : Env} {s s₁ : State} {m : MethodId} {args : Array Value} {below : List Frame} {meth : Method} {c : Code} {hh : List (Nat × Nat × Nat × Nat)}
    (B : BodyLoose p l y S cc maxL ret e s m args below meth c s₁) (h : (Cond.codeWith y bytes maxL' ret' hh).before args s = true) : c.exceptionTable.toList = tableOf hh := by
  obtain ⟨m9, meth9, c9, hn9, h1, h2, -, -, h6, -⟩ := Cond.codeWith_spec h
  cases Option.some.inj (hn9.symm.trans B.named)
  cases Option.some.inj (h1.symm.trans B.method)
  cases Option.some.inj (h2.symm.trans (Stand.of_body B).code)
  rw [← h6, table_eq]
end Bodies
end VXA
/-! ===== END ===== -/
/-! ===== BEGIN a static call of a method with an exception table ===== -/
section VXS
variable {p : Program} {l : Launch} {e : Env} {R : Room} {s : State} {m : MethodId} {args : Array Value} {below : List Frame} {meth : Method} {c : Code} {T : State} {H : Heap} {locs : List Loc} {cells slots : Nat}
abbrev vx_CSW (R : Room) (s : State) (args : Array Value) (own : String) (index : Nat) (y : MethodName) (bytes : ByteArray) (maxL : Nat) (ret : Option FieldType) (hh : List (Nat × Nat × Nat × Nat)) (ws : List Cond) (rm : Room) (mc ms n : Nat) : Prop :=
  (rm.cells = mc ∧ rm.slots = ms ∧ rm.frames + 1 ≤ R.frames ∧ 8 + (maxL + 11) + rm.locals ≤ R.locals ∧ (∀ w ∈ ws, ∀ (a' : Array Value) (U : State), s.WarmedH U.vm → w.before a' U = true) ∧ Cond.codeWith y bytes maxL ret hh ∈ ws) ∧
  (Cond.codeWith y bytes maxL ret hh).before args s = true ∧ (Cond.initialized y.cls).before args s = true ∧ (y.cls ≠ "java/lang/invoke/MethodHandle" ∧ y.cls ≠ "java/lang/invoke/VarHandle") ∧
  (∀ sig, parseMethodDescriptor y.desc = some sig → n = sig.parameters.length) ∧ (Cond.methodLink own index y).before args s = true ∧ (Cond.static y).before args s = true
theorem vx_cwSW {own : String} {index maxL mc ms : Nat} {y : MethodName} {bytes : ByteArray} {ret : Option FieldType} {hh : List (Nat × Nat × Nat × Nat)} {Ts ws ws' : List Cond} {rm : Room} (n : Nat) (ht : ∀ w ∈ Ts, w.before args s = true) (hT : GoodIn Ts (va_wsS own index y ws)) (hw : ws = Cond.codeWith y bytes maxL ret hh :: ws') (hrc : rm.cells = mc) (hrs : rm.slots = ms)
    (hd : y.cls ≠ "java/lang/invoke/MethodHandle" ∧ y.cls ≠ "java/lang/invoke/VarHandle" ∧ (parseMethodDescriptor y.desc).map (fun d => d.parameters.length) = some n) (hR : rm.frames + 1 ≤ R.frames ∧ 8 + (maxL + 11) + rm.locals ≤ R.locals) :
    vx_CSW R s args own index y bytes maxL ret hh ws rm mc ms n := by
  have ok : ∀ w ∈ va_wsS own index y ws, w.before args s = true := fun w h => ht w (hT w h).1
  have hG : GoodIn Ts ws := fun w h => hT w (by unfold va_wsS; exact List.mem_append_right _ h)
  have hc : Cond.codeWith y bytes maxL ret hh ∈ ws := by rw [hw]; exact List.mem_cons_self
  refine ⟨⟨hrc, hrs, hR.1, hR.2, pay_in ht hG, hc⟩, ht _ (hG _ hc).1, ok _ (by simp [va_wsS]), ⟨hd.1, hd.2.1⟩, fun sig h => ?_, ok _ (by simp [va_wsS]), ok _ (by simp [va_wsS])⟩
  have h2 := hd.2.2
  rw [h] at h2
  exact (Option.some.inj h2).symm
theorem vx_callSW (X : Stand p l e R s m args below meth c T locs cells slots) (hexec : p.tables.exec = Jvm.exec) {own : String} {index : Nat} {y : MethodName} {bytes : ByteArray} {maxL : Nat} {ret : Option FieldType} {hh : List (Nat × Nat × Nat × Nat)}
    (hown : s.vm.findClass own = some m.cls) (hlink : (Cond.methodLink own index y).before args s = true) (hstat : (Cond.static y).before args s = true) (hinit : (Cond.initialized y.cls).before args s = true)
    (hcode : (Cond.codeWith y bytes maxL ret hh).before args s = true) (hy : y.cls ≠ "java/lang/invoke/MethodHandle" ∧ y.cls ≠ "java/lang/invoke/VarHandle")
    {W9 : Nat} {Pre : Pt → Array Value → Prop} {Post : Pt → Array Value → Option Value → Pt → Prop} (hK : Back l R p e below s args y 3 W9 Pre Post)
    {g : JFrame} (hg : g.method = m) (hsize : g.locals.size = c.maxLocals) {argsL rest : List Value} (hlen : ∀ sig, parseMethodDescriptor y.desc = some sig → argsL.length = sig.parameters.length)
    (hstack : g.stack = argsL.reverse ++ rest) (hW : 2 * g.monitorRoom + (rest.map fun v => v.category).sum ≤ W9) (hdg : decode c.code g.pc = .ok (.invokestatic index, 3))
    (hpre : ∀ vm₁, s.WarmedH vm₁ → Pre ⟨T.setVm vm₁, locs, cells, slots⟩ argsL.toArray) :
    ∃ (v : Option Value) (vm₁ : Vm) (B : Pt), s.WarmedH vm₁ ∧ Stand p l e R s m args below meth c B.U B.locs B.cells B.slots ∧ Post ⟨T.setVm vm₁, locs, cells, slots⟩ argsL.toArray v B ∧
      ∀ target, Steps p.tables e below (B.U.setTop { g with pc := g.pc + 3, stack := v.toList ++ rest }) target → Steps p.tables e below (T.setTop g) target := by
  obtain ⟨mk, methM, cM, hnamed, hmethM, -, -, -, -, -, -, hsigM⟩ := Cond.codeWith_spec hcode
  have hstatic : methM.isStatic = true := Cond.static_spec hnamed hmethM hstat
  obtain ⟨kP, hkP, -⟩ := className_of_methodNamed hnamed
  have hinitP : kP.init = .initialized := Cond.initialized_spec (findClass_of_methodNamed hnamed) hkP hinit
  obtain ⟨vm₁, X₁, hstep₁⟩ := X.invokestatic hexec hown hlink hnamed hmethM hstatic hkP hinitP hy (g := g) hg (argsL := argsL) (rest := rest) (hlen _ hsigM) hstack hdg
  obtain ⟨v, B, X', hpost, hsteps⟩ := hK m meth c ⟨T.setVm vm₁, locs, cells, slots⟩ { g with stack := rest } (.invokestatic index) mk argsL.toArray X₁ hg hsize hdg hW (X₁.named hnamed) (hpre vm₁ X₁.warmed)
  exact ⟨v, vm₁, B, X₁.warmed, X', hpost, fun target h => hstep₁ _ fun acts => by rw [doInvoke_state]; exact hsteps.trans h⟩
theorem vx_runSW {y : MethodName} {bytes cc : ByteArray} {maxL nL mc ms n index : Nat} {ret : Option FieldType} {hh : List (Nat × Nat × Nat × Nat)} {ws : List Cond} {rm : Room} {Pc : Array Value → State → Prop} {Qc : Array Value → State → Outcome → State → Prop} {free : Addr → Prop} {Ts : List Cond} {own : String} {As rest : List Value} {g : JFrame}
    (S : CallFix p m c cc nL s args Ts own) (hM : Met l y ws rm Pc Qc mc ms free) (cw : vx_CSW R s args own index y bytes maxL ret hh ws rm mc ms n) (hp : PreS s H Pc As)
    (hg : g.method = m) (hn : As.length = n) (hsize : g.locals.size = nL) (hstack : g.stack = As.reverse ++ rest) (hW : 2 * g.monitorRoom + (rest.map fun v => v.category).sum ≤ 8) (hdg : decode cc g.pc = .ok (.invokestatic index, 3)) (hf : cells + mc ≤ R.cells ∧ slots + ms ≤ R.slots) :
    va_Run p l e R s m args below meth c H locs cells slots mc ms g rest (Qc As.toArray) (free) := by
  obtain ⟨⟨hrc, hrs, hfr, hlo, hws, hcw⟩, hcode, hini, hy, hlen, hl, hstt⟩ := cw
  have hK : Back l R p e below s args y 3 8 (PreOf R mc ms Pc) (PostOf Qc mc ms free) := va_backW (hh := hh) (bytes := bytes) (maxL := maxL) (ret := ret) hM hp.1 hrc hrs hfr hlo hws hcw (fun a' U hW => word_at hW (Or.inl (by first | rfl | simp [Cond.onTables, Cond.keeps, Cond.steady])) hini)
  obtain ⟨hx, hb, hml, ho, -⟩ := S
  intro T hT X
  obtain ⟨v, vm₁, ⟨U', l2, c2, s2⟩, hW₁, X', ⟨g', mk, t, L, e1, e2, hq, h1, hL, h2, h3⟩, st⟩ := vx_callSW X hx (hh := hh) (bytes := bytes) (maxL := maxL) (ret := ret) ho hl hstt hini hcode hy hK hg (hsize.trans hml.symm) (argsL := As) (rest := rest) (fun sig h => hn.trans (hlen sig h)) hstack hW (by rw [hb]; exact hdg)
    (fun vm₁ hW₁ => ⟨hf.1, hf.2, hp.2 (T.setVm vm₁) hT hW₁⟩)
  dsimp only [Pt.U, Pt.locs, Pt.cells, Pt.slots] at X' e1 e2 h1 h2 h3 st
  subst h1; subst h2; subst h3
  exact ⟨v, (T.setVm vm₁).calling g' mk As.toArray, t, U', L, hT, X', hL, e1, e2, hq, st⟩
/-- not caught here, past rows that name other classes: it goes on to the caller -/
theorem vx_outP {p : Program} {l : Launch} {e : Env} {R : Room} {s : State} {m : MethodId} {args : Array Value} {below : List Frame} {meth : Method} {c : Code} {H : Heap} {locs : List Loc} {cells slots : Nat} {free : Addr → Prop} {ls : Array Slot} {rest : List Value} {Qc : Array Value → State → Outcome → State → Prop} {XC : String → State → State → Prop}
    {pc : Nat} {own E : String} {ce : Cell} {q : Addr} {mc ms : Nat} (hown : s.vm.findClass own = some m.cls) (hlocks : meth.locks = false)
    (hpass : ∀ z ∈ c.exceptionTable.toList, covers z pc = false ∨ (z.catchType ≠ 0 ∧ ∃ nm : String, (Cond.classLink own z.catchType nm).before args s = true ∧ va_Nc E nm s)) (hcell : H[q]? = some ce) (hv : ce.vm = .none) (hcl : s.vm.findClass E = some ce.cls)
    (hx : ∀ t : State, t.heap = H → s.vm.Alike t.vm → XC E s t) (hf : ∀ z ∈ locs, free z.base) (hc : cells ≤ mc) (hs : slots ≤ ms) :
    vx_W p l e R s m args below meth c H locs cells slots (vx_MQ below Qc XC args s mc ms free) (F0 m pc ls rest) q := by
  intro T hT X
  have hpl : e.platform.magicAccessors = ({} : Platform).magicAccessors := by rw [X.admits.platform]
  obtain ⟨vm', hW', X', st⟩ := X.outThrough hlocks q (g := F0 m pc ls rest) rfl rfl rfl (cell := ce) (by rw [hT]; exact hcell) (by rw [hv]; rfl)
    (by obtain ⟨k9, h9, -⟩ := Vm.findClass_spec hcl; exact ⟨k9, h9⟩) (fun z hz => by
      rcases hpass z hz with h | ⟨hz0, nm, hl1, hn1⟩
      · exact Or.inl h
      · obtain ⟨c6, hc6, hcl6⟩ := Cond.classLink_spec hown hl1 e.platform hpl
        obtain ⟨a8, b8, h1, h2, h3⟩ := hn1
        cases Option.some.inj (h1.symm.trans hcl)
        cases Option.some.inj (h2.symm.trans hc6)
        exact Or.inr ⟨hz0, _, hcl6, h3⟩)
  obtain ⟨g₀, hfr⟩ := X'.frames_eq
  have hcell9 : ((T.setVm vm').setFrames (.throwing q :: below)).heap[q]? = some ce := by
    show T.heap[q]? = some ce
    rw [hT]; exact hcell
  have hend : Ended ((T.setVm vm').setFrames (.throwing q :: below)) below (.threw q) := State.frames_setFrames _ (State.cur_lt_of_frames hfr)
  refine ⟨(T.setVm vm').setFrames (.throwing q :: below), ?_, .threw q, X'.here.running, hend, Or.inr ⟨q, rfl, E, ce, locs, hx _ hT (X'.ends _).1.alike, hcell9, hv, hcl, (X'.ends _).1, (X'.ends _).2.mono hc hs, hf⟩⟩
  rw [X.pushThrowing_eq]
  exact st
/-- a thing of a world lies in the heap -/
theorem vx_lt {D : va_G} {cl : List vw_C} {ws : va_W} {H1 : Heap} (h : va_P D cl ws H1) {k : Nat} {q : Nat × va_E} (hk : ws[k]? = some q) : q.1 < H1.size := (h k q hk).lt
end VXS
/-! ===== END ===== -/
/-! ===== BEGIN methods with a table of their own: called by a name, returning or throwing ===== -/
section VXH
/-! vx_backW, vx_callVX, vx_callSX, vx_callVW, vx_runVW, vx_runVX, vx_runSX, vx_ofWH follow the same proofs as their sisters above (Free/Laws.lean, Shelf42/LK1.lean); vx_outP calls Shelf42/NT130.lean (outThrough). -/
section
variable {l : Launch} {R : Room} {p : Program} {e : Env} {below : List Frame} {s : State} {sargs : Array Value} {y : MethodName} {len W9 : Nat}
theorem vx_backW {ws : List Cond} {rm : Room} {Pc : Array Value → State → Prop} {Qc : Array Value → State → Outcome → State → Prop} {XC : String → State → State → Prop} {mc ms : Nat} {free : Addr → Prop} {bytes : ByteArray} {maxL : Nat} {ret : Option FieldType} {hh : List (Nat × Nat × Nat × Nat)}
    (hM : vx_Met l y ws rm Pc Qc XC mc ms free) (hblind : FrameBlind Pc) (hrc : rm.cells = mc) (hrs : rm.slots = ms)
    (hframes : rm.frames + 1 ≤ R.frames) (hlocals : W9 + (maxL + 11) + rm.locals ≤ R.locals)
    (hws : ∀ w ∈ ws, ∀ a' U, s.WarmedH U.vm → w.before a' U = true) (hcode : Cond.codeWith y bytes maxL ret hh ∈ ws) (hinit : ∀ a' U, s.WarmedH U.vm → (Cond.initialized y.cls).before a' U = true) :
    vx_Back l R p e below s sargs y len W9 (PreOf R mc ms Pc) (PostOf Qc mc ms free) (vx_Post XC mc ms free) := by
  intro m meth c A g ig mk a X hg hsize hdg hW hn hp
  have h1 : (headSpec ws rm).pre.before a A.U = true := atoms_intro fun w hw => hws w hw _ _ X.warmed
  have h2 : (Cond.codeWith y bytes maxL ret hh).before a A.U = true := hws _ hcode _ _ X.warmed
  have h3 : (Cond.initialized y.cls).before a A.U = true := hinit _ _ X.warmed
  have h4 : A.cells + (headSpec ws rm).room.cells ≤ R.cells := by rw [show (headSpec ws rm).room.cells = mc from hrc]; exact hp.1
  have h5 : A.slots + (headSpec ws rm).room.slots ≤ R.slots := by rw [show (headSpec ws rm).room.slots = ms from hrs]; exact hp.2.1
  have hPc : Pc a (A.U.calling g mk a) := hblind _ _ _ _ hp.2.2
  obtain ⟨U, Ls, c0, s0⟩ := A
  dsimp only [Pt.U, Pt.locs, Pt.cells, Pt.slots] at h1 h2 h3 h4 h5 X hn hPc ⊢
  obtain ⟨m9, methY, cY, hn9, hmY, hcY, -, hlY, -⟩ := Cond.codeWith_spec h2
  cases Option.some.inj (hn9.symm.trans hn)
  obtain ⟨kY, hkY, -⟩ := className_of_methodNamed hn
  have hinitY : kY.init = .initialized := Cond.initialized_spec (findClass_of_methodNamed hn) hkY h3
  have h : At U g.method c below := by rw [hg]; exact X.here
  have hlocals9 : W9 + (maxL + 11) + (headSpec ws rm).room.locals ≤ R.locals := hlocals
  have happ : (headSpec ws rm).appliesLoose y e.platform (U.calling g mk a) = true :=
    Spec.appliesLoose_calling (g := g) h hdg hn hkY hinitY
      (X.room_calling (g := g) (R' := (headSpec ws rm).room) hsize hmY hcY hframes (by rw [hlY]; omega) h4 h5) h1
  obtain ⟨mid, hmid⟩ := h.above
  have hfr : (U.setTop g).frames = (.java g :: mid) ++ below := by rw [State.frames_setTop' g h.top, hmid]; rfl
  obtain ⟨o, s₂, hsteps, -, hend, hq⟩ := Steps.callFree hM p X.admits X.cas X.clock (acts := []) hfr happ hPc trivial
  have hq' : vx_Q Qc XC mc ms free a (U.calling g mk a) o s₂ := hq
  rw [State.frames_setTop' g h.top] at hend
  obtain ⟨g₀, hg0⟩ := Option.isSome_iff_exists.mp h.top
  obtain ⟨r, hr⟩ := State.topJava?_eq_some.mp hg0
  have hr' : (({ U with heap := s₂.heap, slotsUsed := s₂.slotsUsed } : State).setVm s₂.vm).frames = .java g₀ :: r := hr
  rcases hq' with ⟨hqc, L, hfe, hL⟩ | ⟨q, rfl, E, ce, L, hx, hce, hcv, hcl, hW₂, hsm, hL⟩
  · obtain ⟨⟨v, rfl⟩, hW₂, e2, q2, q3, q4, q5, q6⟩ := id hfe
    have e3 : s₂ = ({ (U.calling g mk a).setFrames s₂.frames with heap := s₂.heap, slotsUsed := s₂.slotsUsed } : State).setVm s₂.vm := by
      have : s₂ = ({ s₂ with vm := (U.calling g mk a).vm } : State).setVm s₂.vm := rfl
      rw [e2] at this
      exact this
    obtain ⟨c₂, i₂, len₂, hc₂, hd₂, hf₂⟩ := hend
    have hW' : U.WarmedH s₂.vm := hW₂
    have hcc : c₂ = c := by
      have h1 : s₂.code? g.method = U.code? g.method := by
        rw [State.code?_eq, State.code?_eq, hW'.alike.method?]
      exact Option.some.inj (hc₂.symm.trans (h1.trans h.code))
    subst hcc
    have hlen : len₂ = len := by rw [hdg] at hd₂; cases hd₂; rfl
    subst hlen
    have hs₂ : s₂ = (({ U with heap := s₂.heap, slotsUsed := s₂.slotsUsed } : State).setVm s₂.vm).setTop { g with pc := g.pc + len₂, stack := v.toList ++ g.stack } := by
      refine e3.trans ?_
      rw [hf₂, State.calling_eq h.top, State.setFrames_setFrames, State.setTop_of_frames _ hr', hr]
      rfl
    have hsame : U.sameButNew ({ U with heap := s₂.heap, slotsUsed := s₂.slotsUsed } : State) L mc ms := by
      refine ⟨?_, q2, q3, q4, q5, q6⟩
      obtain ⟨t, ht, -⟩ := State.frames_cons hr
      show ({ U with heap := s₂.heap, slotsUsed := s₂.slotsUsed } : State) = { U.setFrames U.frames with heap := s₂.heap, slotsUsed := s₂.slotsUsed }
      rw [State.setFrames_self ht]
    subst hg
    refine Or.inl ⟨v, ⟨(({ U with heap := s₂.heap, slotsUsed := s₂.slotsUsed } : State).setVm s₂.vm), Ls ++ L, c0 + mc, s0 + ms⟩,
      ⟨X.admits, X.cas, X.clock, X.frames, X.room, X.hears, X.method, X.code, (X.here.setHeapUsed s₂.heap s₂.slotsUsed).setVm hW'.alike, X.tail, State.WarmedH.trans X.warmed hW', X.limits, X.bytes, X.same.trans (hsame.setVm s.vm)⟩,
      ⟨g, mk, s₂, L, rfl, rfl, hqc, rfl, hL, rfl, rfl⟩, ?_⟩
    show Steps p.tables e below _ ((({ U with heap := s₂.heap, slotsUsed := s₂.slotsUsed } : State).setVm s₂.vm).setTop { g with pc := g.pc + len₂, stack := v.toList ++ g.stack })
    rw [← hs₂]
    exact hsteps
  · obtain ⟨e2, q2, q3, q4, q5, q6⟩ := id hsm
    have e3 : s₂ = ({ (U.calling g mk a).setFrames s₂.frames with heap := s₂.heap, slotsUsed := s₂.slotsUsed } : State).setVm s₂.vm := by
      have : s₂ = ({ s₂ with vm := (U.calling g mk a).vm } : State).setVm s₂.vm := rfl
      rw [e2] at this
      exact this
    have hf₂ : s₂.frames = .throwing q :: .java g :: U.frames.tail := hend
    have hW' : U.WarmedH s₂.vm := hW₂
    have hs₂ : s₂ = ((({ U with heap := s₂.heap, slotsUsed := s₂.slotsUsed } : State).setVm s₂.vm).setTop g).pushFrame (.throwing q) := by
      refine e3.trans ?_
      rw [hf₂, State.calling_eq h.top, State.setFrames_setFrames, State.pushFrame, State.frames_setTop _ hr', State.setTop_of_frames _ hr', State.setFrames_setFrames, hr]
      rfl
    have hsame : U.sameButNew ({ U with heap := s₂.heap, slotsUsed := s₂.slotsUsed } : State) L mc ms := by
      refine ⟨?_, q2, q3, q4, q5, q6⟩
      obtain ⟨t, ht, -⟩ := State.frames_cons hr
      show ({ U with heap := s₂.heap, slotsUsed := s₂.slotsUsed } : State) = { U.setFrames U.frames with heap := s₂.heap, slotsUsed := s₂.slotsUsed }
      rw [State.setFrames_self ht]
    subst hg
    refine Or.inr ⟨q, ⟨(({ U with heap := s₂.heap, slotsUsed := s₂.slotsUsed } : State).setVm s₂.vm), Ls ++ L, c0 + mc, s0 + ms⟩,
      ⟨X.admits, X.cas, X.clock, X.frames, X.room, X.hears, X.method, X.code, (X.here.setHeapUsed s₂.heap s₂.slotsUsed).setVm hW'.alike, X.tail, State.WarmedH.trans X.warmed hW', X.limits, X.bytes, X.same.trans (hsame.setVm s.vm)⟩,
      ⟨g, mk, s₂, L, E, ce, rfl, rfl, hx, hce, hcv, hcl, rfl, hL, rfl, rfl⟩, ?_⟩
    show Steps p.tables e below _ (((({ U with heap := s₂.heap, slotsUsed := s₂.slotsUsed } : State).setVm s₂.vm).setTop g).pushFrame (.throwing q))
    rw [← hs₂]
    exact hsteps
end
variable {p : Program} {l : Launch} {e : Env} {R : Room} {s : State} {m : MethodId} {args : Array Value} {below : List Frame} {meth : Method} {c : Code} {T : State} {H : Heap} {locs : List Loc} {cells slots : Nat}
theorem vx_callVX (X : Stand p l e R s m args below meth c T locs cells slots) (hexec : p.tables.exec = Jvm.exec) {own C : String} {index : Nat} {y : MethodName} {bytes : ByteArray} {maxL : Nat} {ret : Option FieldType} {hh : List (Nat × Nat × Nat × Nat)}
    (hown : s.vm.findClass own = some m.cls) (hlink : (Cond.methodLink own index y).before args s = true) (hinst : (Cond.instanceMethod y).before args s = true) (hsel : (Cond.selects C y y).before args s = true)
    (hcode : (Cond.codeWith y bytes maxL ret hh).before args s = true) (hy : y.cls ≠ "java/lang/invoke/MethodHandle" ∧ y.cls ≠ "java/lang/invoke/VarHandle")
    {W9 : Nat} {Pre : Pt → Array Value → Prop} {Post : Pt → Array Value → Option Value → Pt → Prop} {PostX : Pt → Array Value → Addr → Pt → Prop} (hK : vx_Back l R p e below s args y 3 W9 Pre Post PostX)
    {b : Addr} {cellB : Cell} (hcell : T.heap[b]? = some cellB) (hobj : cellB.vm.isStatics = false) (hcls : s.vm.findClass C = some cellB.cls)
    {g : JFrame} (hg : g.method = m) (hsize : g.locals.size = c.maxLocals) {argsL rest : List Value} (hlen : ∀ sig, parseMethodDescriptor y.desc = some sig → argsL.length = sig.parameters.length)
    (hstack : g.stack = argsL.reverse ++ .ref b :: rest) (hW : 2 * g.monitorRoom + (rest.map fun v => v.category).sum ≤ W9) (hdg : decode c.code g.pc = .ok (.invokevirtual index, 3))
    (hpre : ∀ vm₁, s.WarmedH vm₁ → Pre ⟨T.setVm vm₁, locs, cells, slots⟩ (Value.ref b :: argsL).toArray) :
    (∃ (v : Option Value) (vm₁ : Vm) (B : Pt), s.WarmedH vm₁ ∧ Stand p l e R s m args below meth c B.U B.locs B.cells B.slots ∧ Post ⟨T.setVm vm₁, locs, cells, slots⟩ (Value.ref b :: argsL).toArray v B ∧
      ∀ target, Steps p.tables e below (B.U.setTop { g with pc := g.pc + 3, stack := v.toList ++ rest }) target → Steps p.tables e below (T.setTop g) target) ∨
    (∃ (q : Addr) (vm₁ : Vm) (B : Pt), s.WarmedH vm₁ ∧ Stand p l e R s m args below meth c B.U B.locs B.cells B.slots ∧ PostX ⟨T.setVm vm₁, locs, cells, slots⟩ (Value.ref b :: argsL).toArray q B ∧
      Steps p.tables e below (T.setTop g) ((B.U.setTop { g with stack := rest }).pushFrame (.throwing q))) := by
  obtain ⟨mk, methM, hnamed, hmethM, hstM, habM⟩ := Cond.instanceMethod_spec hinst
  obtain ⟨m8, methM', cM, hn8, hmethM', -, -, -, -, -, -, hsigM⟩ := Cond.codeWith_spec hcode
  cases Option.some.inj (hn8.symm.trans hnamed)
  cases hmethM.symm.trans hmethM'
  obtain ⟨c2, r2, m2, q1, q2, q3, q4, kP, hkP, hkPi⟩ := Cond.selects_spec hsel
  cases hcls.symm.trans q1
  cases (State.methodFound?_of_named hnamed hy).symm.trans q2
  cases hnamed.symm.trans q3
  have hselP : selectMethod e.platform s.vm cellB.cls mk = .method mk := by rw [Launch.admits_selectMethod X.admits]; exact q4
  obtain ⟨vm₁, X₁, hstep₁⟩ := X.invokevirtual hexec hown hlink hnamed hmethM hstM hkP hkPi hy (a := b) (cell := cellB) hcell
    (fun z h => by rw [h] at hobj; cases hobj) hselP hmethM habM hkP hkPi (g := g) hg (argsL := argsL) (rest := rest) (hlen _ hsigM) hstack hdg
  rcases hK m meth c ⟨T.setVm vm₁, locs, cells, slots⟩ { g with stack := rest } (.invokevirtual index) mk (Value.ref b :: argsL).toArray X₁ hg hsize hdg hW (X₁.named hnamed) (hpre vm₁ X₁.warmed) with ⟨v, B, X', hpost, hsteps⟩ | ⟨q, B, X', hpost, hsteps⟩
  · exact Or.inl ⟨v, vm₁, B, X₁.warmed, X', hpost, fun target h => hstep₁ _ fun acts => by rw [doInvoke_state]; exact hsteps.trans h⟩
  · exact Or.inr ⟨q, vm₁, B, X₁.warmed, X', hpost, hstep₁ _ fun acts => by rw [doInvoke_state]; exact hsteps⟩
theorem vx_callSX (X : Stand p l e R s m args below meth c T locs cells slots) (hexec : p.tables.exec = Jvm.exec) {own : String} {index : Nat} {y : MethodName} {bytes : ByteArray} {maxL : Nat} {ret : Option FieldType} {hh : List (Nat × Nat × Nat × Nat)}
    (hown : s.vm.findClass own = some m.cls) (hlink : (Cond.methodLink own index y).before args s = true) (hstat : (Cond.static y).before args s = true) (hinit : (Cond.initialized y.cls).before args s = true)
    (hcode : (Cond.codeWith y bytes maxL ret hh).before args s = true) (hy : y.cls ≠ "java/lang/invoke/MethodHandle" ∧ y.cls ≠ "java/lang/invoke/VarHandle")
    {W9 : Nat} {Pre : Pt → Array Value → Prop} {Post : Pt → Array Value → Option Value → Pt → Prop} {PostX : Pt → Array Value → Addr → Pt → Prop} (hK : vx_Back l R p e below s args y 3 W9 Pre Post PostX)
    {g : JFrame} (hg : g.method = m) (hsize : g.locals.size = c.maxLocals) {argsL rest : List Value} (hlen : ∀ sig, parseMethodDescriptor y.desc = some sig → argsL.length = sig.parameters.length)
    (hstack : g.stack = argsL.reverse ++ rest) (hW : 2 * g.monitorRoom + (rest.map fun v => v.category).sum ≤ W9) (hdg : decode c.code g.pc = .ok (.invokestatic index, 3))
    (hpre : ∀ vm₁, s.WarmedH vm₁ → Pre ⟨T.setVm vm₁, locs, cells, slots⟩ argsL.toArray) :
    (∃ (v : Option Value) (vm₁ : Vm) (B : Pt), s.WarmedH vm₁ ∧ Stand p l e R s m args below meth c B.U B.locs B.cells B.slots ∧ Post ⟨T.setVm vm₁, locs, cells, slots⟩ argsL.toArray v B ∧
      ∀ target, Steps p.tables e below (B.U.setTop { g with pc := g.pc + 3, stack := v.toList ++ rest }) target → Steps p.tables e below (T.setTop g) target) ∨
    (∃ (q : Addr) (vm₁ : Vm) (B : Pt), s.WarmedH vm₁ ∧ Stand p l e R s m args below meth c B.U B.locs B.cells B.slots ∧ PostX ⟨T.setVm vm₁, locs, cells, slots⟩ argsL.toArray q B ∧
      Steps p.tables e below (T.setTop g) ((B.U.setTop { g with stack := rest }).pushFrame (.throwing q))) := by
  obtain ⟨mk, methM, cM, hnamed, hmethM, -, -, -, -, -, -, hsigM⟩ := Cond.codeWith_spec hcode
  have hstatic : methM.isStatic = true := Cond.static_spec hnamed hmethM hstat
  obtain ⟨kP, hkP, -⟩ := className_of_methodNamed hnamed
  have hinitP : kP.init = .initialized := Cond.initialized_spec (findClass_of_methodNamed hnamed) hkP hinit
  obtain ⟨vm₁, X₁, hstep₁⟩ := X.invokestatic hexec hown hlink hnamed hmethM hstatic hkP hinitP hy (g := g) hg (argsL := argsL) (rest := rest) (hlen _ hsigM) hstack hdg
  rcases hK m meth c ⟨T.setVm vm₁, locs, cells, slots⟩ { g with stack := rest } (.invokestatic index) mk argsL.toArray X₁ hg hsize hdg hW (X₁.named hnamed) (hpre vm₁ X₁.warmed) with ⟨v, B, X', hpost, hsteps⟩ | ⟨q, B, X', hpost, hsteps⟩
  · exact Or.inl ⟨v, vm₁, B, X₁.warmed, X', hpost, fun target h => hstep₁ _ fun acts => by rw [doInvoke_state]; exact hsteps.trans h⟩
  · exact Or.inr ⟨q, vm₁, B, X₁.warmed, X', hpost, hstep₁ _ fun acts => by rw [doInvoke_state]; exact hsteps⟩
theorem vx_callVW (X : Stand p l e R s m args below meth c T locs cells slots) (hexec : p.tables.exec = Jvm.exec) {own C : String} {index : Nat} {y : MethodName} {bytes : ByteArray} {maxL : Nat} {ret : Option FieldType} {hh : List (Nat × Nat × Nat × Nat)}
    (hown : s.vm.findClass own = some m.cls) (hlink : (Cond.methodLink own index y).before args s = true) (hinst : (Cond.instanceMethod y).before args s = true) (hsel : (Cond.selects C y y).before args s = true)
    (hcode : (Cond.codeWith y bytes maxL ret hh).before args s = true) (hy : y.cls ≠ "java/lang/invoke/MethodHandle" ∧ y.cls ≠ "java/lang/invoke/VarHandle")
    {W9 : Nat} {Pre : Pt → Array Value → Prop} {Post : Pt → Array Value → Option Value → Pt → Prop} (hK : Back l R p e below s args y 3 W9 Pre Post)
    {b : Addr} {cellB : Cell} (hcell : T.heap[b]? = some cellB) (hobj : cellB.vm.isStatics = false) (hcls : s.vm.findClass C = some cellB.cls)
    {g : JFrame} (hg : g.method = m) (hsize : g.locals.size = c.maxLocals) {argsL rest : List Value} (hlen : ∀ sig, parseMethodDescriptor y.desc = some sig → argsL.length = sig.parameters.length)
    (hstack : g.stack = argsL.reverse ++ .ref b :: rest) (hW : 2 * g.monitorRoom + (rest.map fun v => v.category).sum ≤ W9) (hdg : decode c.code g.pc = .ok (.invokevirtual index, 3))
    (hpre : ∀ vm₁, s.WarmedH vm₁ → Pre ⟨T.setVm vm₁, locs, cells, slots⟩ (Value.ref b :: argsL).toArray) :
    ∃ (v : Option Value) (vm₁ : Vm) (B : Pt), s.WarmedH vm₁ ∧ Stand p l e R s m args below meth c B.U B.locs B.cells B.slots ∧ Post ⟨T.setVm vm₁, locs, cells, slots⟩ (Value.ref b :: argsL).toArray v B ∧
      ∀ target, Steps p.tables e below (B.U.setTop { g with pc := g.pc + 3, stack := v.toList ++ rest }) target → Steps p.tables e below (T.setTop g) target := by
  obtain ⟨mk, methM, hnamed, hmethM, hstM, habM⟩ := Cond.instanceMethod_spec hinst
  obtain ⟨m8, methM', cM, hn8, hmethM', -, -, -, -, -, -, hsigM⟩ := Cond.codeWith_spec hcode
  cases Option.some.inj (hn8.symm.trans hnamed)
  cases hmethM.symm.trans hmethM'
  obtain ⟨c2, r2, m2, q1, q2, q3, q4, kP, hkP, hkPi⟩ := Cond.selects_spec hsel
  cases hcls.symm.trans q1
  cases (State.methodFound?_of_named hnamed hy).symm.trans q2
  cases hnamed.symm.trans q3
  have hselP : selectMethod e.platform s.vm cellB.cls mk = .method mk := by rw [Launch.admits_selectMethod X.admits]; exact q4
  obtain ⟨vm₁, X₁, hstep₁⟩ := X.invokevirtual hexec hown hlink hnamed hmethM hstM hkP hkPi hy (a := b) (cell := cellB) hcell
    (fun z h => by rw [h] at hobj; cases hobj) hselP hmethM habM hkP hkPi (g := g) hg (argsL := argsL) (rest := rest) (hlen _ hsigM) hstack hdg
  obtain ⟨v, B, X', hpost, hsteps⟩ := hK m meth c ⟨T.setVm vm₁, locs, cells, slots⟩ { g with stack := rest } (.invokevirtual index) mk (Value.ref b :: argsL).toArray X₁ hg hsize hdg hW (X₁.named hnamed) (hpre vm₁ X₁.warmed)
  exact ⟨v, vm₁, B, X₁.warmed, X', hpost, fun target h => hstep₁ _ fun acts => by rw [doInvoke_state]; exact hsteps.trans h⟩
abbrev vx_CVW (R : Room) (s : State) (args : Array Value) (own C : String) (index : Nat) (y : MethodName) (bytes : ByteArray) (maxL : Nat) (ret : Option FieldType) (hh : List (Nat × Nat × Nat × Nat)) (ws : List Cond) (rm : Room) (mc ms n : Nat) : Prop :=
  (rm.cells = mc ∧ rm.slots = ms ∧ rm.frames + 1 ≤ R.frames ∧ 8 + (maxL + 11) + rm.locals ≤ R.locals ∧ (∀ w ∈ ws, ∀ (a' : Array Value) (U : State), s.WarmedH U.vm → w.before a' U = true) ∧ Cond.codeWith y bytes maxL ret hh ∈ ws) ∧
  (Cond.codeWith y bytes maxL ret hh).before args s = true ∧ (Cond.initialized y.cls).before args s = true ∧ (y.cls ≠ "java/lang/invoke/MethodHandle" ∧ y.cls ≠ "java/lang/invoke/VarHandle") ∧
  (∀ sig, parseMethodDescriptor y.desc = some sig → n = sig.parameters.length) ∧ (Cond.methodLink own index y).before args s = true ∧ (Cond.instanceMethod y).before args s = true ∧ (Cond.selects C y y).before args s = true
theorem vx_cwVW {own C : String} {index maxL mc ms : Nat} {y : MethodName} {bytes : ByteArray} {ret : Option FieldType} {hh : List (Nat × Nat × Nat × Nat)} {Ts ws ws' : List Cond} {rm : Room} (n : Nat) (ht : ∀ w ∈ Ts, w.before args s = true) (hT : GoodIn Ts (wsV own index C y ws)) (hw : ws = Cond.codeWith y bytes maxL ret hh :: ws') (hrc : rm.cells = mc) (hrs : rm.slots = ms)
    (hd : y.cls = C ∧ y.cls ≠ "java/lang/invoke/MethodHandle" ∧ y.cls ≠ "java/lang/invoke/VarHandle" ∧ (parseMethodDescriptor y.desc).map (fun d => d.parameters.length) = some n) (hR : rm.frames + 1 ≤ R.frames ∧ 8 + (maxL + 11) + rm.locals ≤ R.locals) :
    vx_CVW R s args own C index y bytes maxL ret hh ws rm mc ms n := by
  obtain ⟨hC, hd⟩ := hd
  subst hC
  have ok : ∀ w ∈ wsV own index y.cls y ws, w.before args s = true := fun w h => ht w (hT w h).1
  have hG : GoodIn Ts ws := fun w h => hT w (by unfold wsV; exact List.mem_append_right _ h)
  have hc : Cond.codeWith y bytes maxL ret hh ∈ ws := by rw [hw]; exact List.mem_cons_self
  refine ⟨⟨hrc, hrs, hR.1, hR.2, pay_in ht hG, hc⟩, ht _ (hG _ hc).1, ok _ (by simp [wsV]), ⟨hd.1, hd.2.1⟩, fun sig h => ?_, ok _ (by simp [wsV]), ok _ (by simp [wsV]), ok _ (by simp [wsV])⟩
  have h2 := hd.2.2
  rw [h] at h2
  exact (Option.some.inj h2).symm
theorem vx_runVW {y : MethodName} {bytes cc : ByteArray} {maxL nL mc ms n index : Nat} {ret : Option FieldType} {hh : List (Nat × Nat × Nat × Nat)} {ws : List Cond} {rm : Room} {Pc : Array Value → State → Prop} {Qc : Array Value → State → Outcome → State → Prop} {free : Addr → Prop} {Ts : List Cond} {own C : String} {b : Addr} {As rest : List Value} {g : JFrame}
    (S : CallFix p m c cc nL s args Ts own) (hM : Met l y ws rm Pc Qc mc ms free) (cw : vx_CVW R s args own C index y bytes maxL ret hh ws rm mc ms n) (hp : PreV s H C b Pc As)
    (hg : g.method = m) (hn : As.length = n) (hsize : g.locals.size = nL) (hstack : g.stack = As.reverse ++ .ref b :: rest) (hW : 2 * g.monitorRoom + (rest.map fun v => v.category).sum ≤ 8) (hdg : decode cc g.pc = .ok (.invokevirtual index, 3)) (hf : cells + mc ≤ R.cells ∧ slots + ms ≤ R.slots) :
    va_Run p l e R s m args below meth c H locs cells slots mc ms g rest (Qc (Value.ref b :: As).toArray) free := by
  obtain ⟨⟨hrc, hrs, hfr, hlo, hws, hcw⟩, hcode, hini, hy, hlen, hl, hin, hse⟩ := cw
  have hK : Back l R p e below s args y 3 8 (PreOf R mc ms Pc) (PostOf Qc mc ms free) := va_backW (hh := hh) (bytes := bytes) (maxL := maxL) (ret := ret) hM hp.1 hrc hrs hfr hlo hws hcw (fun a' U hW => word_at hW (Or.inl (by first | rfl | simp [Cond.onTables, Cond.keeps, Cond.steady])) hini)
  obtain ⟨hx, hb, hml, ho, -⟩ := S
  obtain ⟨-, ⟨cellB, hcB, hoB, hclB⟩, hPc⟩ := hp
  intro T hT X
  obtain ⟨v, vm₁, ⟨U', l2, c2, s2⟩, hW₁, X', ⟨g', mk, t, L, e1, e2, hq, h1, hL, h2, h3⟩, st⟩ := vx_callVW X hx (C := C) (hh := hh) (bytes := bytes) (maxL := maxL) (ret := ret) ho hl hin hse hcode hy hK (by rw [hT]; exact hcB) hoB hclB hg (hsize.trans hml.symm) (argsL := As) (rest := rest) (fun sig h => hn.trans (hlen sig h)) hstack hW (by rw [hb]; exact hdg)
    (fun vm₁ hW₁ => ⟨hf.1, hf.2, hPc (T.setVm vm₁) hT hW₁⟩)
  dsimp only [Pt.U, Pt.locs, Pt.cells, Pt.slots] at X' e1 e2 h1 h2 h3 st
  subst h1; subst h2; subst h3
  exact ⟨v, (T.setVm vm₁).calling g' mk (Value.ref b :: As).toArray, t, U', L, hT, X', hL, e1, e2, hq, st⟩
section
variable {y : MethodName} {bytes cc : ByteArray} {maxL nL mc ms n index : Nat} {ret : Option FieldType} {ws : List Cond} {rm : Room} {Pc : Array Value → State → Prop} {Qc : Array Value → State → Outcome → State → Prop} {XC : String → State → State → Prop} {free : Addr → Prop} {Ts : List Cond} {own C : String} {b : Addr} {As rest : List Value} {g : JFrame}
theorem vx_runVX {hh : List (Nat × Nat × Nat × Nat)} (S : CallFix p m c cc nL s args Ts own) (hM : vx_Met l y ws rm Pc Qc XC mc ms free) (cw : vx_CVW R s args own C index y bytes maxL ret hh ws rm mc ms n) (hp : PreV s H C b Pc As)
    (hg : g.method = m) (hn : As.length = n) (hsize : g.locals.size = nL) (hstack : g.stack = As.reverse ++ .ref b :: rest) (hW : 2 * g.monitorRoom + (rest.map fun v => v.category).sum ≤ 8) (hdg : decode cc g.pc = .ok (.invokevirtual index, 3)) (hf : cells + mc ≤ R.cells ∧ slots + ms ≤ R.slots) :
    vx_Run p l e R s m args below meth c H locs cells slots mc ms g rest (Qc (Value.ref b :: As).toArray) XC free := by
  obtain ⟨⟨hrc, hrs, hfr, hlo, hws, hcw⟩, hcode, hini, hy, hlen, hl, hin, hse⟩ := cw
  have hK : vx_Back l R p e below s args y 3 8 (PreOf R mc ms Pc) (PostOf Qc mc ms free) (vx_Post XC mc ms free) := vx_backW (hh := hh) (bytes := bytes) (maxL := maxL) (ret := ret) hM hp.1 hrc hrs hfr hlo hws hcw (fun a' U hW => word_at hW (Or.inl (by first | rfl | simp [Cond.onTables, Cond.keeps, Cond.steady])) hini)
  obtain ⟨hx, hb, hml, ho, -⟩ := S
  obtain ⟨-, ⟨cellB, hcB, hoB, hclB⟩, hPc⟩ := hp
  intro T hT X
  rcases vx_callVX X hx (C := C) (hh := hh) (bytes := bytes) (maxL := maxL) (ret := ret) ho hl hin hse hcode hy hK (by rw [hT]; exact hcB) hoB hclB hg (hsize.trans hml.symm) (argsL := As) (rest := rest) (fun sig h => hn.trans (hlen sig h)) hstack hW (by rw [hb]; exact hdg)
    (fun vm₁ hW₁ => ⟨hf.1, hf.2, hPc (T.setVm vm₁) hT hW₁⟩) with ⟨v, vm₁, ⟨U', l2, c2, s2⟩, hW₁, X', ⟨g', mk, t, L, e1, e2, hq, h1, hL, h2, h3⟩, st⟩ | ⟨q, vm₁, ⟨U', l2, c2, s2⟩, hW₁, X', ⟨g', mk, t, L, E, ce, e1, e2, hq, hce, hcv, hcl, h1, hL, h2, h3⟩, st⟩
  · dsimp only [Pt.U, Pt.locs, Pt.cells, Pt.slots] at X' e1 e2 h1 h2 h3 st
    subst h1; subst h2; subst h3
    exact Or.inl ⟨v, (T.setVm vm₁).calling g' mk (Value.ref b :: As).toArray, t, U', L, hT, X', hL, e1, e2, hq, st⟩
  · dsimp only [Pt.U, Pt.locs, Pt.cells, Pt.slots] at X' e1 e2 h1 h2 h3 st hcl
    subst h1; subst h2; subst h3
    exact Or.inr ⟨q, (T.setVm vm₁).calling g' mk (Value.ref b :: As).toArray, t, U', L, E, ce, hT, X', hL, e1, e2, hq, hce, hcv, vx_cls hW₁ hcl, st⟩
theorem vx_runSX {hh : List (Nat × Nat × Nat × Nat)} (S : CallFix p m c cc nL s args Ts own) (hM : vx_Met l y ws rm Pc Qc XC mc ms free) (cw : vx_CSW R s args own index y bytes maxL ret hh ws rm mc ms n) (hp : PreS s H Pc As)
    (hg : g.method = m) (hn : As.length = n) (hsize : g.locals.size = nL) (hstack : g.stack = As.reverse ++ rest) (hW : 2 * g.monitorRoom + (rest.map fun v => v.category).sum ≤ 8) (hdg : decode cc g.pc = .ok (.invokestatic index, 3)) (hf : cells + mc ≤ R.cells ∧ slots + ms ≤ R.slots) :
    vx_Run p l e R s m args below meth c H locs cells slots mc ms g rest (Qc As.toArray) XC free := by
  obtain ⟨⟨hrc, hrs, hfr, hlo, hws, hcw⟩, hcode, hini, hy, hlen, hl, hstt⟩ := cw
  have hK : vx_Back l R p e below s args y 3 8 (PreOf R mc ms Pc) (PostOf Qc mc ms free) (vx_Post XC mc ms free) := vx_backW (hh := hh) (bytes := bytes) (maxL := maxL) (ret := ret) hM hp.1 hrc hrs hfr hlo hws hcw (fun a' U hW => word_at hW (Or.inl (by first | rfl | simp [Cond.onTables, Cond.keeps, Cond.steady])) hini)
  obtain ⟨hx, hb, hml, ho, -⟩ := S
  intro T hT X
  rcases vx_callSX X hx (hh := hh) (bytes := bytes) (maxL := maxL) (ret := ret) ho hl hstt hini hcode hy hK hg (hsize.trans hml.symm) (argsL := As) (rest := rest) (fun sig h => hn.trans (hlen sig h)) hstack hW (by rw [hb]; exact hdg)
    (fun vm₁ hW₁ => ⟨hf.1, hf.2, hp.2 (T.setVm vm₁) hT hW₁⟩) with ⟨v, vm₁, ⟨U', l2, c2, s2⟩, hW₁, X', ⟨g', mk, t, L, e1, e2, hq, h1, hL, h2, h3⟩, st⟩ | ⟨q, vm₁, ⟨U', l2, c2, s2⟩, hW₁, X', ⟨g', mk, t, L, E, ce, e1, e2, hq, hce, hcv, hcl, h1, hL, h2, h3⟩, st⟩
  · dsimp only [Pt.U, Pt.locs, Pt.cells, Pt.slots] at X' e1 e2 h1 h2 h3 st
    subst h1; subst h2; subst h3
    exact Or.inl ⟨v, (T.setVm vm₁).calling g' mk As.toArray, t, U', L, hT, X', hL, e1, e2, hq, st⟩
  · dsimp only [Pt.U, Pt.locs, Pt.cells, Pt.slots] at X' e1 e2 h1 h2 h3 st hcl
    subst h1; subst h2; subst h3
    exact Or.inr ⟨q, (T.setVm vm₁).calling g' mk As.toArray, t, U', L, E, ce, hT, X', hL, e1, e2, hq, hce, hcv, vx_cls hW₁ hcl, st⟩
end
end VXH
theorem vx_ofWH {l : Launch} {y : MethodName} {ws ws' : List Cond} {rm : Room} {Pc : Array Value → State → Prop} {Qc : Array Value → State → Outcome → State → Prop} {XC : String → State → State → Prop} {mc ms : Nat} {free : Addr → Prop} {cc : ByteArray} {maxL : Nat} {ret : Option FieldType} {hh : List (Nat × Nat × Nat × Nat)}
    (hy : plainName y.cls = true) (hw : ws = Cond.codeWith y cc maxL ret hh :: ws')
    (body : ∀ p e s m args below meth c s₁, BodyLoose p l y (headSpec ws rm) cc maxL ret e s m args below meth c s₁ → c.maxLocals = maxL → Pc args s →
      W p l e (headSpec ws rm).room s m args below meth c s.heap [] 0 0 (vx_MQ below Qc XC args s mc ms free) (entryFrame m args maxL)) : vx_Met l y ws rm Pc Qc XC mc ms free := by
  refine MetFree.of_bodyS (code := cc) (maxLocals := maxL) (ret := ret) hy ?_ ?_
  · intro args s m h hn
    obtain ⟨m9, meth, c, hn9, h1, h2, h3, h4, -, h5, h6, -⟩ := Cond.codeWith_spec (atoms_spec (ws := ws) h _ (by rw [hw]; exact List.mem_cons_self))
    cases hn.symm.trans hn9
    exact ⟨meth, c, h1, h2, h3, h4, h5, h6⟩
  · intro p e s m args below meth c s₁ B hml hP _
    have hh0 : s₁.heap = s.heap := by rw [B.state]; rfl
    obtain ⟨t, a1, o, b1, b2, b3⟩ := body p e s m args below meth c s₁ B hml hP s₁ hh0 (Stand.of_body B)
    exact ⟨t, o, a1, b1, b2, b3⟩
/-! ===== END ===== -/

/-! ===== BEGIN printed: names, fields, word lists, decode rows ===== -/
def RX0 : String := "Quarrelboard$Debate"
def TX0 : u_T := fun k => match k with
  | 0 => ("Quarrelboard$Debate", "owners", "[I", true)
  | 1 => ("Quarrelboard$Debate", "groundFacts", "[I", true)
  | 2 => ("Quarrelboard$Debate", "groundClaims", "[I", true)
  | 3 => ("Quarrelboard$Debate", "attackers", "[I", true)
  | 4 => ("Quarrelboard$Debate", "banks", "[I", true)
  | 5 => ("Quarrelboard$Debate", "count", "I", false)
  | _ => ("Quarrelboard$Debate", "speaker", "I", false)
def tyX0 : Nat → FieldType := fun k => match k with
  | 0 => .array .int
  | 1 => .array .int
  | 2 => .array .int
  | 3 => .array .int
  | 4 => .array .int
  | 5 => .int
  | _ => .int
abbrev wsX00 : List Cond := u_ws RX0 TX0 7
theorem nmX0 : ∀ a, a < 7 → ∀ b, b < 7 → a ≠ b → (TX0 a).2.1 ≠ (TX0 b).2.1 := by decide +kernel
theorem tyX0_ok : ∀ k, k < 7 → parseFieldDescriptor (TX0 k).2.2.1 = some (tyX0 k) := by decide +kernel
abbrev cX0_init : ByteArray := prog_2_method_1_code
def yX0_init : MethodName := ⟨RX0, "<init>", "()V"⟩
abbrev cX0_beginAgain : ByteArray := prog_2_method_2_code
def yX0_beginAgain : MethodName := ⟨RX0, "beginAgain", "()V"⟩
abbrev cX0_size : ByteArray := prog_2_method_3_code
def yX0_size : MethodName := ⟨RX0, "size", "()I"⟩
abbrev cX0_speaker : ByteArray := prog_2_method_4_code
def yX0_speaker : MethodName := ⟨RX0, "speaker", "()I"⟩
abbrev cX0_secondsLeft : ByteArray := prog_2_method_5_code
def yX0_secondsLeft : MethodName := ⟨RX0, "secondsLeft", "(I)I"⟩
abbrev cX0_ownerOf : ByteArray := prog_2_method_6_code
def yX0_ownerOf : MethodName := ⟨RX0, "ownerOf", "(I)I"⟩
abbrev cX0_add : ByteArray := prog_2_method_7_code
def yX0_add : MethodName := ⟨RX0, "add", "(II)I"⟩
abbrev cX0_passTurn : ByteArray := prog_2_method_8_code
def yX0_passTurn : MethodName := ⟨RX0, "passTurn", "()V"⟩
abbrev cX0_flipRest : ByteArray := prog_2_method_9_code
def yX0_flipRest : MethodName := ⟨RX0, "flipRest", "(II)Z"⟩
abbrev cX0_flipAttack : ByteArray := prog_2_method_10_code
def yX0_flipAttack : MethodName := ⟨RX0, "flipAttack", "(II)Z"⟩
abbrev cX0_holds : ByteArray := prog_2_method_11_code
def yX0_holds : MethodName := ⟨RX0, "holds", "(IIII)Z"⟩
abbrev cX0_fails : ByteArray := prog_2_method_12_code
def yX0_fails : MethodName := ⟨RX0, "fails", "(IIII)Z"⟩
abbrev cX0_matters : ByteArray := prog_2_method_13_code
def yX0_matters : MethodName := ⟨RX0, "matters", "(II)Z"⟩
abbrev cX0_illFounded : ByteArray := prog_2_method_14_code
def yX0_illFounded : MethodName := ⟨RX0, "illFounded", "(I)I"⟩
abbrev cX0_countOf : ByteArray := prog_2_method_15_code
def yX0_countOf : MethodName := ⟨RX0, "countOf", "(II)I"⟩
def RX1 : String := "Quarrelboard$FactBook"
def TX1 : u_T := fun k => match k with
  | 0 => ("Quarrelboard$FactBook", "sources", "[I", true)
  | 1 => ("Quarrelboard$FactBook", "count", "I", false)
  | 2 => ("Quarrelboard$FactBook", "withdrawn", "I", false)
  | _ => ("Quarrelboard$FactBook", "fallenSources", "I", false)
def tyX1 : Nat → FieldType := fun k => match k with
  | 0 => .array .int
  | 1 => .int
  | 2 => .int
  | _ => .int
abbrev wsX10 : List Cond := u_ws RX1 TX1 4
theorem nmX1 : ∀ a, a < 4 → ∀ b, b < 4 → a ≠ b → (TX1 a).2.1 ≠ (TX1 b).2.1 := by decide +kernel
theorem tyX1_ok : ∀ k, k < 4 → parseFieldDescriptor (TX1 k).2.2.1 = some (tyX1 k) := by decide +kernel
abbrev cX1_init : ByteArray := prog_3_method_1_code
def yX1_init : MethodName := ⟨RX1, "<init>", "()V"⟩
abbrev cX1_size : ByteArray := prog_3_method_2_code
def yX1_size : MethodName := ⟨RX1, "size", "()I"⟩
abbrev cX1_hasAll : ByteArray := prog_3_method_3_code
def yX1_hasAll : MethodName := ⟨RX1, "hasAll", "(I)Z"⟩
abbrev cX1_add : ByteArray := prog_3_method_4_code
def yX1_add : MethodName := ⟨RX1, "add", "(I)I"⟩
abbrev cX1_flipSource : ByteArray := prog_3_method_5_code
def yX1_flipSource : MethodName := ⟨RX1, "flipSource", "(I)Z"⟩
abbrev cX1_takeBack : ByteArray := prog_3_method_6_code
def yX1_takeBack : MethodName := ⟨RX1, "takeBack", "(I)Z"⟩
abbrev cX1_standing : ByteArray := prog_3_method_7_code
def yX1_standing : MethodName := ⟨RX1, "standing", "()I"⟩
def RX2 : String := "Quarrelboard$Judge"
def TX2 : u_T := fun k => match k with
  | 0 => ("Quarrelboard$Judge", "debate", "LQuarrelboard$Debate;", true)
  | 1 => ("Quarrelboard$Judge", "queue", "[I", true)
  | 2 => ("Quarrelboard$Judge", "queued", "I", false)
  | 3 => ("Quarrelboard$Judge", "standingFacts", "I", false)
  | 4 => ("Quarrelboard$Judge", "claimsIn", "I", false)
  | _ => ("Quarrelboard$Judge", "claimsOut", "I", false)
def tyX2 : Nat → FieldType := fun k => match k with
  | 0 => .object "Quarrelboard$Debate"
  | 1 => .array .int
  | 2 => .int
  | 3 => .int
  | 4 => .int
  | _ => .int
abbrev wsX20 : List Cond := u_ws RX2 TX2 6
theorem nmX2 : ∀ a, a < 6 → ∀ b, b < 6 → a ≠ b → (TX2 a).2.1 ≠ (TX2 b).2.1 := by decide +kernel
theorem tyX2_ok : ∀ k, k < 6 → parseFieldDescriptor (TX2 k).2.2.1 = some (tyX2 k) := by decide +kernel
abbrev cX2_init : ByteArray := prog_4_method_1_code
def yX2_init : MethodName := ⟨RX2, "<init>", "(LQuarrelboard$Debate;)V"⟩
abbrev cX2_claimsIn : ByteArray := prog_4_method_2_code
def yX2_claimsIn : MethodName := ⟨RX2, "claimsIn", "()I"⟩
abbrev cX2_decisionOn : ByteArray := prog_4_method_3_code
def yX2_decisionOn : MethodName := ⟨RX2, "decisionOn", "(I)I"⟩
abbrev cX2_decideByGoingOn : ByteArray := prog_4_method_4_code
def yX2_decideByGoingOn : MethodName := ⟨RX2, "decideByGoingOn", "(I)V"⟩
abbrev cX2_decideInRounds : ByteArray := prog_4_method_5_code
def yX2_decideInRounds : MethodName := ⟨RX2, "decideInRounds", "(I)V"⟩
abbrev cX2_openAll : ByteArray := prog_4_method_6_code
def yX2_openAll : MethodName := ⟨RX2, "openAll", "(I)V"⟩
abbrev cX2_goOnFrom : ByteArray := prog_4_method_7_code
def yX2_goOnFrom : MethodName := ⟨RX2, "goOnFrom", "(I)V"⟩
abbrev cX2_decideAndQueue : ByteArray := prog_4_method_8_code
def yX2_decideAndQueue : MethodName := ⟨RX2, "decideAndQueue", "(I)V"⟩
abbrev cX2_decide : ByteArray := prog_4_method_9_code
def yX2_decide : MethodName := ⟨RX2, "decide", "(I)Z"⟩
def RX3 : String := "Quarrelboard"
def TX3 : u_T := fun k => match k with
  | 0 => ("Quarrelboard", "book", "LQuarrelboard$FactBook;", true)
  | 1 => ("Quarrelboard", "debate", "LQuarrelboard$Debate;", true)
  | 2 => ("Quarrelboard", "judge", "LQuarrelboard$Judge;", true)
  | 3 => ("Quarrelboard", "reputations", "[I", true)
  | _ => ("Quarrelboard", "closedDebates", "I", false)
def tyX3 : Nat → FieldType := fun k => match k with
  | 0 => .object "Quarrelboard$FactBook"
  | 1 => .object "Quarrelboard$Debate"
  | 2 => .object "Quarrelboard$Judge"
  | 3 => .array .int
  | _ => .int
abbrev wsX30 : List Cond := u_ws RX3 TX3 5
theorem nmX3 : ∀ a, a < 5 → ∀ b, b < 5 → a ≠ b → (TX3 a).2.1 ≠ (TX3 b).2.1 := by decide +kernel
theorem tyX3_ok : ∀ k, k < 5 → parseFieldDescriptor (TX3 k).2.2.1 = some (tyX3 k) := by decide +kernel
abbrev cX3_init : ByteArray := prog_1_method_1_code
def yX3_init : MethodName := ⟨RX3, "<init>", "()V"⟩
abbrev cX3_addFact : ByteArray := prog_1_method_2_code
def yX3_addFact : MethodName := ⟨RX3, "addFact", "(I)I"⟩
abbrev cX3_toggleSource : ByteArray := prog_1_method_3_code
def yX3_toggleSource : MethodName := ⟨RX3, "toggleSource", "(I)Z"⟩
abbrev cX3_withdraw : ByteArray := prog_1_method_4_code
def yX3_withdraw : MethodName := ⟨RX3, "withdraw", "(I)Z"⟩
abbrev cX3_factStands : ByteArray := prog_1_method_5_code
def yX3_factStands : MethodName := ⟨RX3, "factStands", "(I)Z"⟩
abbrev cX3_facts : ByteArray := prog_1_method_6_code
def yX3_facts : MethodName := ⟨RX3, "facts", "()I"⟩
abbrev cX3_claim : ByteArray := prog_1_method_7_code
def yX3_claim : MethodName := ⟨RX3, "claim", "(II)I"⟩
abbrev cX3_skip : ByteArray := prog_1_method_8_code
def yX3_skip : MethodName := ⟨RX3, "skip", "()I"⟩
abbrev cX3_rest : ByteArray := prog_1_method_9_code
def yX3_rest : MethodName := ⟨RX3, "rest", "(II)Z"⟩
abbrev cX3_attack : ByteArray := prog_1_method_10_code
def yX3_attack : MethodName := ⟨RX3, "attack", "(II)Z"⟩
abbrev cX3_claims : ByteArray := prog_1_method_11_code
def yX3_claims : MethodName := ⟨RX3, "claims", "()I"⟩
abbrev cX3_playerOf : ByteArray := prog_1_method_12_code
def yX3_playerOf : MethodName := ⟨RX3, "playerOf", "(I)I"⟩
abbrev cX3_turn : ByteArray := prog_1_method_13_code
def yX3_turn : MethodName := ⟨RX3, "turn", "()I"⟩
abbrev cX3_bank : ByteArray := prog_1_method_14_code
def yX3_bank : MethodName := ⟨RX3, "bank", "(I)I"⟩
abbrev cX3_stateOf : ByteArray := prog_1_method_15_code
def yX3_stateOf : MethodName := ⟨RX3, "stateOf", "(I)I"⟩
abbrev cX3_stateByRounds : ByteArray := prog_1_method_16_code
def yX3_stateByRounds : MethodName := ⟨RX3, "stateByRounds", "(I)I"⟩
abbrev cX3_score : ByteArray := prog_1_method_17_code
def yX3_score : MethodName := ⟨RX3, "score", "(I)I"⟩
abbrev cX3_scoreWithout : ByteArray := prog_1_method_18_code
def yX3_scoreWithout : MethodName := ⟨RX3, "scoreWithout", "(II)I"⟩
abbrev cX3_keyFact : ByteArray := prog_1_method_19_code
def yX3_keyFact : MethodName := ⟨RX3, "keyFact", "(I)I"⟩
abbrev cX3_verdict : ByteArray := prog_1_method_20_code
def yX3_verdict : MethodName := ⟨RX3, "verdict", "()I"⟩
abbrev cX3_close : ByteArray := prog_1_method_21_code
def yX3_close : MethodName := ⟨RX3, "close", "()I"⟩
abbrev cX3_reputation : ByteArray := prog_1_method_22_code
def yX3_reputation : MethodName := ⟨RX3, "reputation", "(I)I"⟩
abbrev cX3_scoreIf : ByteArray := prog_1_method_23_code
def yX3_scoreIf : MethodName := ⟨RX3, "scoreIf", "(II)I"⟩
abbrev cX3_checkSource : ByteArray := prog_1_method_24_code
def yX3_checkSource : MethodName := ⟨RX3, "checkSource", "(I)V"⟩
abbrev cX3_checkFact : ByteArray := prog_1_method_25_code
def yX3_checkFact : MethodName := ⟨RX3, "checkFact", "(I)V"⟩
abbrev cX3_checkPlayer : ByteArray := prog_1_method_26_code
def yX3_checkPlayer : MethodName := ⟨RX3, "checkPlayer", "(I)V"⟩
abbrev cX3_checkClaim : ByteArray := prog_1_method_27_code
def yX3_checkClaim : MethodName := ⟨RX3, "checkClaim", "(I)V"⟩
abbrev cX3_checkTwoClaims : ByteArray := prog_1_method_28_code
def yX3_checkTwoClaims : MethodName := ⟨RX3, "checkTwoClaims", "(II)V"⟩
abbrev cX3_contains : ByteArray := prog_1_method_29_code
def yX3_contains : MethodName := ⟨RX3, "contains", "(II)Z"⟩
abbrev cX3_without : ByteArray := prog_1_method_30_code
def yX3_without : MethodName := ⟨RX3, "without", "(II)I"⟩
def RX4 : String := "QuarrelboardModel"
def TX4 : u_T := fun k => match k with
  | 0 => ("QuarrelboardModel", "hasFallen", "[Z", true)
  | 1 => ("QuarrelboardModel", "facts", "I", false)
  | 2 => ("QuarrelboardModel", "sources", "[I", true)
  | 3 => ("QuarrelboardModel", "isWithdrawn", "[Z", true)
  | 4 => ("QuarrelboardModel", "turn", "I", false)
  | 5 => ("QuarrelboardModel", "banks", "[I", true)
  | 6 => ("QuarrelboardModel", "claims", "I", false)
  | 7 => ("QuarrelboardModel", "players", "[I", true)
  | 8 => ("QuarrelboardModel", "basis", "[I", true)
  | 9 => ("QuarrelboardModel", "rests", "[I", true)
  | 10 => ("QuarrelboardModel", "attackers", "[I", true)
  | 11 => ("QuarrelboardModel", "states", "[I", true)
  | 12 => ("QuarrelboardModel", "closed", "I", false)
  | 13 => ("QuarrelboardModel", "reputations", "[I", true)
  | _ => ("QuarrelboardModel", "thrown", "I", false)
def tyX4 : Nat → FieldType := fun k => match k with
  | 0 => .array .boolean
  | 1 => .int
  | 2 => .array .int
  | 3 => .array .boolean
  | 4 => .int
  | 5 => .array .int
  | 6 => .int
  | 7 => .array .int
  | 8 => .array .int
  | 9 => .array .int
  | 10 => .array .int
  | 11 => .array .int
  | 12 => .int
  | 13 => .array .int
  | _ => .int
abbrev wsX40 : List Cond := u_ws RX4 TX4 15
theorem nmX4 : ∀ a, a < 15 → ∀ b, b < 15 → a ≠ b → (TX4 a).2.1 ≠ (TX4 b).2.1 := by decide +kernel
theorem tyX4_ok : ∀ k, k < 15 → parseFieldDescriptor (TX4 k).2.2.1 = some (tyX4 k) := by decide +kernel
abbrev cX4_init : ByteArray := prog_6_method_1_code
def yX4_init : MethodName := ⟨RX4, "<init>", "()V"⟩
abbrev cX4_thrown : ByteArray := prog_6_method_2_code
def yX4_thrown : MethodName := ⟨RX4, "thrown", "()I"⟩
abbrev cX4_goes : ByteArray := prog_6_method_3_code
def yX4_goes : MethodName := ⟨RX4, "goes", "(I)Z"⟩
abbrev cX4_isIn : ByteArray := prog_6_method_4_code
def yX4_isIn : MethodName := ⟨RX4, "isIn", "(III)Z"⟩
abbrev cX4_isSource : ByteArray := prog_6_method_5_code
def yX4_isSource : MethodName := ⟨RX4, "isSource", "(I)Z"⟩
abbrev cX4_isFact : ByteArray := prog_6_method_6_code
def yX4_isFact : MethodName := ⟨RX4, "isFact", "(I)Z"⟩
abbrev cX4_isPlayer : ByteArray := prog_6_method_7_code
def yX4_isPlayer : MethodName := ⟨RX4, "isPlayer", "(I)Z"⟩
abbrev cX4_isClaim : ByteArray := prog_6_method_8_code
def yX4_isClaim : MethodName := ⟨RX4, "isClaim", "(I)Z"⟩
abbrev cX4_addFact : ByteArray := prog_6_method_9_code
def yX4_addFact : MethodName := ⟨RX4, "addFact", "(I)I"⟩
abbrev cX4_toggleSource : ByteArray := prog_6_method_10_code
def yX4_toggleSource : MethodName := ⟨RX4, "toggleSource", "(I)Z"⟩
abbrev cX4_withdraw : ByteArray := prog_6_method_11_code
def yX4_withdraw : MethodName := ⟨RX4, "withdraw", "(I)Z"⟩
abbrev cX4_stands : ByteArray := prog_6_method_12_code
def yX4_stands : MethodName := ⟨RX4, "stands", "(I)Z"⟩
abbrev cX4_factStands : ByteArray := prog_6_method_13_code
def yX4_factStands : MethodName := ⟨RX4, "factStands", "(I)Z"⟩
abbrev cX4_facts : ByteArray := prog_6_method_14_code
def yX4_facts : MethodName := ⟨RX4, "facts", "()I"⟩
abbrev cX4_standing : ByteArray := prog_6_method_15_code
def yX4_standing : MethodName := ⟨RX4, "standing", "(I)I"⟩
abbrev cX4_next : ByteArray := prog_6_method_16_code
def yX4_next : MethodName := ⟨RX4, "next", "()V"⟩
abbrev cX4_claim : ByteArray := prog_6_method_17_code
def yX4_claim : MethodName := ⟨RX4, "claim", "(II)I"⟩
abbrev cX4_skip : ByteArray := prog_6_method_18_code
def yX4_skip : MethodName := ⟨RX4, "skip", "()I"⟩
abbrev cX4_areTwo : ByteArray := prog_6_method_19_code
def yX4_areTwo : MethodName := ⟨RX4, "areTwo", "(II)Z"⟩
abbrev cX4_rest : ByteArray := prog_6_method_20_code
def yX4_rest : MethodName := ⟨RX4, "rest", "(II)Z"⟩
abbrev cX4_attack : ByteArray := prog_6_method_21_code
def yX4_attack : MethodName := ⟨RX4, "attack", "(II)Z"⟩
abbrev cX4_claims : ByteArray := prog_6_method_22_code
def yX4_claims : MethodName := ⟨RX4, "claims", "()I"⟩
abbrev cX4_asks : ByteArray := prog_6_method_23_code
def yX4_asks : MethodName := ⟨RX4, "asks", "(I)Z"⟩
abbrev cX4_playerOf : ByteArray := prog_6_method_24_code
def yX4_playerOf : MethodName := ⟨RX4, "playerOf", "(I)I"⟩
abbrev cX4_turn : ByteArray := prog_6_method_25_code
def yX4_turn : MethodName := ⟨RX4, "turn", "()I"⟩
abbrev cX4_asksPlayer : ByteArray := prog_6_method_26_code
def yX4_asksPlayer : MethodName := ⟨RX4, "asksPlayer", "(I)Z"⟩
abbrev cX4_bank : ByteArray := prog_6_method_27_code
def yX4_bank : MethodName := ⟨RX4, "bank", "(I)I"⟩
abbrev cX4_have : ByteArray := prog_6_method_28_code
def yX4_have : MethodName := ⟨RX4, "have", "(IIZ)Z"⟩
abbrev cX4_decides : ByteArray := prog_6_method_29_code
def yX4_decides : MethodName := ⟨RX4, "decides", "(I)V"⟩
abbrev cX4_stateNow : ByteArray := prog_6_method_30_code
def yX4_stateNow : MethodName := ⟨RX4, "stateNow", "(I)I"⟩
abbrev cX4_stateOf : ByteArray := prog_6_method_31_code
def yX4_stateOf : MethodName := ⟨RX4, "stateOf", "(I)I"⟩
abbrev cX4_stateByRounds : ByteArray := prog_6_method_32_code
def yX4_stateByRounds : MethodName := ⟨RX4, "stateByRounds", "(I)I"⟩
abbrev cX4_scored : ByteArray := prog_6_method_33_code
def yX4_scored : MethodName := ⟨RX4, "scored", "(II)I"⟩
abbrev cX4_score : ByteArray := prog_6_method_34_code
def yX4_score : MethodName := ⟨RX4, "score", "(I)I"⟩
abbrev cX4_scoreWithout : ByteArray := prog_6_method_35_code
def yX4_scoreWithout : MethodName := ⟨RX4, "scoreWithout", "(II)I"⟩
abbrev cX4_keyFact : ByteArray := prog_6_method_36_code
def yX4_keyFact : MethodName := ⟨RX4, "keyFact", "(I)I"⟩
abbrev cX4_verdict : ByteArray := prog_6_method_37_code
def yX4_verdict : MethodName := ⟨RX4, "verdict", "()I"⟩
abbrev cX4_close : ByteArray := prog_6_method_38_code
def yX4_close : MethodName := ⟨RX4, "close", "()I"⟩
abbrev cX4_reputation : ByteArray := prog_6_method_39_code
def yX4_reputation : MethodName := ⟨RX4, "reputation", "(I)I"⟩
def RJx145de : String := "java/io/Serializable"
def TJx145de : u_T := fun k => match k with
  | _ => ("", "", "", false)
def tyJx145de : Nat → FieldType := fun k => match k with
  | _ => .int
abbrev wsJx145de0 : List Cond := u_ws RJx145de TJx145de 0
theorem nmJx145de : ∀ a, a < 0 → ∀ b, b < 0 → a ≠ b → (TJx145de a).2.1 ≠ (TJx145de b).2.1 := by decide +kernel
theorem tyJx145de_ok : ∀ k, k < 0 → parseFieldDescriptor (TJx145de k).2.2.1 = some (tyJx145de k) := by decide +kernel
def RJ0 : String := "java/lang/String"
def TJ0 : u_T := fun k => match k with
  | _ => ("", "", "", false)
def tyJ0 : Nat → FieldType := fun k => match k with
  | _ => .int
abbrev wsJ00 : List Cond := u_ws RJ0 TJ0 0
theorem nmJ0 : ∀ a, a < 0 → ∀ b, b < 0 → a ≠ b → (TJ0 a).2.1 ≠ (TJ0 b).2.1 := by decide +kernel
theorem tyJ0_ok : ∀ k, k < 0 → parseFieldDescriptor (TJ0 k).2.2.1 = some (tyJ0 k) := by decide +kernel
def RJ7 : String := "java/util/Arrays"
def TJ7 : u_T := fun k => match k with
  | _ => ("", "", "", false)
def tyJ7 : Nat → FieldType := fun k => match k with
  | _ => .int
abbrev wsJ70 : List Cond := u_ws RJ7 TJ7 0
theorem nmJ7 : ∀ a, a < 0 → ∀ b, b < 0 → a ≠ b → (TJ7 a).2.1 ≠ (TJ7 b).2.1 := by decide +kernel
theorem tyJ7_ok : ∀ k, k < 0 → parseFieldDescriptor (TJ7 k).2.2.1 = some (tyJ7 k) := by decide +kernel
abbrev cJ7_fill_53178 : ByteArray := prog_14_method_103_code
def yJ7_fill_53178 : MethodName := ⟨RJ7, "fill", "([II)V"⟩
def RL : String := "QuarrelboardLaw"
abbrev cL_addFact : ByteArray := method_3_code
def yL_addFact : MethodName := ⟨RL, "addFact", "(LQuarrelboard;I[J)I"⟩
abbrev cL_toggleSource : ByteArray := method_4_code
def yL_toggleSource : MethodName := ⟨RL, "toggleSource", "(LQuarrelboard;I[J)I"⟩
abbrev cL_withdraw : ByteArray := method_5_code
def yL_withdraw : MethodName := ⟨RL, "withdraw", "(LQuarrelboard;I[J)I"⟩
abbrev cL_factStands : ByteArray := method_6_code
def yL_factStands : MethodName := ⟨RL, "factStands", "(LQuarrelboard;I[J)I"⟩
abbrev cL_claim : ByteArray := method_7_code
def yL_claim : MethodName := ⟨RL, "claim", "(LQuarrelboard;II[J)I"⟩
abbrev cL_rest : ByteArray := method_8_code
def yL_rest : MethodName := ⟨RL, "rest", "(LQuarrelboard;II[J)I"⟩
abbrev cL_attack : ByteArray := method_9_code
def yL_attack : MethodName := ⟨RL, "attack", "(LQuarrelboard;II[J)I"⟩
abbrev cL_playerOf : ByteArray := method_10_code
def yL_playerOf : MethodName := ⟨RL, "playerOf", "(LQuarrelboard;I[J)I"⟩
abbrev cL_bank : ByteArray := method_11_code
def yL_bank : MethodName := ⟨RL, "bank", "(LQuarrelboard;I[J)I"⟩
abbrev cL_stateOf : ByteArray := method_12_code
def yL_stateOf : MethodName := ⟨RL, "stateOf", "(LQuarrelboard;I[J)I"⟩
abbrev cL_stateByRounds : ByteArray := method_13_code
def yL_stateByRounds : MethodName := ⟨RL, "stateByRounds", "(LQuarrelboard;I[J)I"⟩
abbrev cL_score : ByteArray := method_14_code
def yL_score : MethodName := ⟨RL, "score", "(LQuarrelboard;I[J)I"⟩
abbrev cL_scoreWithout : ByteArray := method_15_code
def yL_scoreWithout : MethodName := ⟨RL, "scoreWithout", "(LQuarrelboard;II[J)I"⟩
abbrev cL_keyFact : ByteArray := method_16_code
def yL_keyFact : MethodName := ⟨RL, "keyFact", "(LQuarrelboard;I[J)I"⟩
abbrev cL_reputation : ByteArray := method_17_code
def yL_reputation : MethodName := ⟨RL, "reputation", "(LQuarrelboard;I[J)I"⟩
abbrev cL_law : ByteArray := code
def yL_law : MethodName := ⟨RL, "law", "([I)Z"⟩
def wsJ7_fill_53178 : List Cond := .code yJ7_fill_53178 cJ7_fill_53178 4 none :: ([])
def wsX0_init : List Cond := .code yX0_init cX0_init 1 none :: ([.methodLink RX0 3 objectInit, .instanceMethod objectInit, .code objectInit ⟨#[0xb1]⟩ 1 none, .arrayClass .int, .fieldLink RX0 9 "Quarrelboard$Debate" "owners" "[I", .fieldLink RX0 15 "Quarrelboard$Debate" "groundFacts" "[I", .fieldLink RX0 18 "Quarrelboard$Debate" "groundClaims" "[I", .fieldLink RX0 21 "Quarrelboard$Debate" "attackers" "[I", .fieldLink RX0 24 "Quarrelboard$Debate" "banks" "[I", .fieldLink RX0 33 "Quarrelboard$Debate" "count" "I", .fieldLink RX0 37 "Quarrelboard$Debate" "speaker" "I", .methodLink RX0 27 yJ7_fill_53178, .static yJ7_fill_53178, .initialized RJ7, .code yJ7_fill_53178 cJ7_fill_53178 4 none] ++ wsX00)
def wsX0_beginAgain : List Cond := .code yX0_beginAgain cX0_beginAgain 1 none :: ([.fieldLink RX0 24 "Quarrelboard$Debate" "banks" "[I", .fieldLink RX0 33 "Quarrelboard$Debate" "count" "I", .fieldLink RX0 37 "Quarrelboard$Debate" "speaker" "I", .methodLink RX0 27 yJ7_fill_53178, .static yJ7_fill_53178, .initialized RJ7, .code yJ7_fill_53178 cJ7_fill_53178 4 none] ++ wsX00)
def wsX0_size : List Cond := .code yX0_size cX0_size 1 (some .int) :: ([.fieldLink RX0 33 "Quarrelboard$Debate" "count" "I"] ++ wsX00)
def wsX0_speaker : List Cond := .code yX0_speaker cX0_speaker 1 (some .int) :: ([.fieldLink RX0 37 "Quarrelboard$Debate" "speaker" "I"] ++ wsX00)
def wsX0_secondsLeft : List Cond := .code yX0_secondsLeft cX0_secondsLeft 2 (some .int) :: ([.fieldLink RX0 24 "Quarrelboard$Debate" "banks" "[I"] ++ wsX00)
def wsX0_ownerOf : List Cond := .code yX0_ownerOf cX0_ownerOf 2 (some .int) :: ([.fieldLink RX0 9 "Quarrelboard$Debate" "owners" "[I"] ++ wsX00)
def wsX0_passTurn : List Cond := .code yX0_passTurn cX0_passTurn 1 none :: ([.fieldLink RX0 37 "Quarrelboard$Debate" "speaker" "I"] ++ wsX00)
def wsX0_add : List Cond := .code yX0_add cX0_add 4 (some .int) :: ([.fieldLink RX0 33 "Quarrelboard$Debate" "count" "I", .fieldLink RX0 24 "Quarrelboard$Debate" "banks" "[I", .fieldLink RX0 37 "Quarrelboard$Debate" "speaker" "I", .fieldLink RX0 9 "Quarrelboard$Debate" "owners" "[I", .fieldLink RX0 15 "Quarrelboard$Debate" "groundFacts" "[I", .fieldLink RX0 18 "Quarrelboard$Debate" "groundClaims" "[I", .fieldLink RX0 21 "Quarrelboard$Debate" "attackers" "[I", .methodLink RX0 40 yX0_passTurn, .instanceMethod yX0_passTurn, .selects RX0 yX0_passTurn yX0_passTurn, .initialized RX0, .code yX0_passTurn cX0_passTurn 1 none] ++ wsX00)
def wsX3_contains : List Cond := .code yX3_contains cX3_contains 2 (some .boolean) :: ([])
def wsX0_flipRest : List Cond := .code yX0_flipRest cX0_flipRest 3 (some .boolean) :: ([.fieldLink RX0 18 "Quarrelboard$Debate" "groundClaims" "[I", .static yX3_contains, .initialized RX3, .code yX3_contains cX3_contains 2 (some .boolean)] ++ wsX00)
def wsX0_flipAttack : List Cond := .code yX0_flipAttack cX0_flipAttack 3 (some .boolean) :: ([.fieldLink RX0 21 "Quarrelboard$Debate" "attackers" "[I", .static yX3_contains, .initialized RX3, .code yX3_contains cX3_contains 2 (some .boolean)] ++ wsX00)
def wsX0_holds : List Cond := .code yX0_holds cX0_holds 5 (some .boolean) :: ([.fieldLink RX0 15 "Quarrelboard$Debate" "groundFacts" "[I", .fieldLink RX0 18 "Quarrelboard$Debate" "groundClaims" "[I", .fieldLink RX0 21 "Quarrelboard$Debate" "attackers" "[I"] ++ wsX00)
def wsX0_fails : List Cond := .code yX0_fails cX0_fails 5 (some .boolean) :: ([.fieldLink RX0 15 "Quarrelboard$Debate" "groundFacts" "[I", .fieldLink RX0 18 "Quarrelboard$Debate" "groundClaims" "[I", .fieldLink RX0 21 "Quarrelboard$Debate" "attackers" "[I"] ++ wsX00)
def wsX0_matters : List Cond := .code yX0_matters cX0_matters 3 (some .boolean) :: ([.fieldLink RX0 18 "Quarrelboard$Debate" "groundClaims" "[I", .fieldLink RX0 21 "Quarrelboard$Debate" "attackers" "[I", .static yX3_contains, .initialized RX3, .code yX3_contains cX3_contains 2 (some .boolean)] ++ wsX00)
def wsX0_illFounded : List Cond := .code yX0_illFounded cX0_illFounded 4 (some .int) :: ([.fieldLink RX0 33 "Quarrelboard$Debate" "count" "I", .fieldLink RX0 15 "Quarrelboard$Debate" "groundFacts" "[I"] ++ wsX00)
def wsX0_countOf : List Cond := .code yX0_countOf cX0_countOf 5 (some .int) :: ([.fieldLink RX0 33 "Quarrelboard$Debate" "count" "I", .fieldLink RX0 9 "Quarrelboard$Debate" "owners" "[I", .static yX3_contains, .initialized RX3, .code yX3_contains cX3_contains 2 (some .boolean)] ++ wsX00)
def wsX1_init : List Cond := .code yX1_init cX1_init 1 none :: ([.methodLink RX1 3 objectInit, .instanceMethod objectInit, .code objectInit ⟨#[0xb1]⟩ 1 none, .arrayClass .int, .fieldLink RX1 9 "Quarrelboard$FactBook" "sources" "[I", .fieldLink RX1 15 "Quarrelboard$FactBook" "count" "I", .fieldLink RX1 19 "Quarrelboard$FactBook" "withdrawn" "I", .fieldLink RX1 22 "Quarrelboard$FactBook" "fallenSources" "I"] ++ wsX10)
def wsX1_size : List Cond := .code yX1_size cX1_size 1 (some .int) :: ([.fieldLink RX1 15 "Quarrelboard$FactBook" "count" "I"] ++ wsX10)
def wsX1_hasAll : List Cond := .code yX1_hasAll cX1_hasAll 2 (some .boolean) :: ([.fieldLink RX1 15 "Quarrelboard$FactBook" "count" "I"] ++ wsX10)
def wsX1_add : List Cond := .code yX1_add cX1_add 3 (some .int) :: ([.fieldLink RX1 15 "Quarrelboard$FactBook" "count" "I", .fieldLink RX1 9 "Quarrelboard$FactBook" "sources" "[I"] ++ wsX10)
def wsX1_flipSource : List Cond := .code yX1_flipSource cX1_flipSource 2 (some .boolean) :: ([.fieldLink RX1 22 "Quarrelboard$FactBook" "fallenSources" "I", .static yX3_contains, .initialized RX3, .code yX3_contains cX3_contains 2 (some .boolean)] ++ wsX10)
def wsX1_takeBack : List Cond := .code yX1_takeBack cX1_takeBack 3 (some .boolean) :: ([.fieldLink RX1 19 "Quarrelboard$FactBook" "withdrawn" "I", .static yX3_contains, .initialized RX3, .code yX3_contains cX3_contains 2 (some .boolean)] ++ wsX10)
def wsX1_standing : List Cond := .code yX1_standing cX1_standing 3 (some .int) :: ([.fieldLink RX1 15 "Quarrelboard$FactBook" "count" "I", .fieldLink RX1 19 "Quarrelboard$FactBook" "withdrawn" "I", .fieldLink RX1 22 "Quarrelboard$FactBook" "fallenSources" "I", .fieldLink RX1 9 "Quarrelboard$FactBook" "sources" "[I", .static yX3_contains, .initialized RX3, .code yX3_contains cX3_contains 2 (some .boolean)] ++ wsX10)
def wsX2_init : List Cond := .code yX2_init cX2_init 2 none :: ([.methodLink RX2 3 objectInit, .instanceMethod objectInit, .code objectInit ⟨#[0xb1]⟩ 1 none, .fieldLink RX2 9 "Quarrelboard$Judge" "debate" "LQuarrelboard$Debate;", .arrayClass .int, .fieldLink RX2 15 "Quarrelboard$Judge" "queue" "[I", .fieldLink RX2 19 "Quarrelboard$Judge" "queued" "I", .fieldLink RX2 23 "Quarrelboard$Judge" "standingFacts" "I", .fieldLink RX2 26 "Quarrelboard$Judge" "claimsIn" "I", .fieldLink RX2 29 "Quarrelboard$Judge" "claimsOut" "I"] ++ wsX20)
def wsX2_claimsIn : List Cond := .code yX2_claimsIn cX2_claimsIn 1 (some .int) :: ([.fieldLink RX2 26 "Quarrelboard$Judge" "claimsIn" "I"] ++ wsX20)
def wsX2_decisionOn : List Cond := .code yX2_decisionOn cX2_decisionOn 2 (some .int) :: ([.fieldLink RX2 26 "Quarrelboard$Judge" "claimsIn" "I", .fieldLink RX2 29 "Quarrelboard$Judge" "claimsOut" "I", .static yX3_contains, .initialized RX3, .code yX3_contains cX3_contains 2 (some .boolean)] ++ wsX20)
def wsX2_openAll : List Cond := .code yX2_openAll cX2_openAll 2 none :: ([.fieldLink RX2 19 "Quarrelboard$Judge" "queued" "I", .fieldLink RX2 23 "Quarrelboard$Judge" "standingFacts" "I", .fieldLink RX2 26 "Quarrelboard$Judge" "claimsIn" "I", .fieldLink RX2 29 "Quarrelboard$Judge" "claimsOut" "I"] ++ wsX20)
def wsX2_decide : List Cond := .code yX2_decide cX2_decide 2 (some .boolean) :: ([.fieldLink RX2 26 "Quarrelboard$Judge" "claimsIn" "I", .fieldLink RX2 29 "Quarrelboard$Judge" "claimsOut" "I", .fieldLink RX2 9 "Quarrelboard$Judge" "debate" "LQuarrelboard$Debate;", .fieldLink RX2 23 "Quarrelboard$Judge" "standingFacts" "I", .static yX3_contains, .initialized RX3, .code yX3_contains cX3_contains 2 (some .boolean), .methodLink RX2 59 yX0_fails, .instanceMethod yX0_fails, .selects RX0 yX0_fails yX0_fails, .initialized RX0, .code yX0_fails cX0_fails 5 (some .boolean), .fieldLink RX0 15 "Quarrelboard$Debate" "groundFacts" "[I", .fieldLink RX0 18 "Quarrelboard$Debate" "groundClaims" "[I", .fieldLink RX0 21 "Quarrelboard$Debate" "attackers" "[I", .methodLink RX2 63 yX0_holds, .instanceMethod yX0_holds, .selects RX0 yX0_holds yX0_holds, .code yX0_holds cX0_holds 5 (some .boolean)] ++ wsX20 ++ wsX00)
def wsX2_decideAndQueue_r1 : List Cond := [Cond.fieldLink RX2 19 "Quarrelboard$Judge" "queued" "I", Cond.fieldLink RX2 15 "Quarrelboard$Judge" "queue" "[I", Cond.methodLink RX2 52 yX2_decide, Cond.instanceMethod yX2_decide, Cond.selects RX2 yX2_decide yX2_decide, Cond.initialized RX2, Cond.code yX2_decide cX2_decide 2 (some .boolean), Cond.fieldLink RX2 26 "Quarrelboard$Judge" "claimsIn" "I", Cond.fieldLink RX2 29 "Quarrelboard$Judge" "claimsOut" "I", Cond.fieldLink RX2 9 "Quarrelboard$Judge" "debate" "LQuarrelboard$Debate;", Cond.fieldLink RX2 23 "Quarrelboard$Judge" "standingFacts" "I", Cond.static yX3_contains, Cond.initialized RX3, Cond.code yX3_contains cX3_contains 2 (some .boolean), Cond.methodLink RX2 59 yX0_fails, Cond.instanceMethod yX0_fails, Cond.selects RX0 yX0_fails yX0_fails, Cond.initialized RX0, Cond.code yX0_fails cX0_fails 5 (some .boolean), Cond.fieldLink RX0 15 "Quarrelboard$Debate" "groundFacts" "[I", Cond.fieldLink RX0 18 "Quarrelboard$Debate" "groundClaims" "[I", Cond.fieldLink RX0 21 "Quarrelboard$Debate" "attackers" "[I", Cond.methodLink RX2 63 yX0_holds, Cond.instanceMethod yX0_holds]
def wsX2_decideAndQueue_r2 : List Cond := [Cond.selects RX0 yX0_holds yX0_holds, Cond.code yX0_holds cX0_holds 5 (some .boolean)]
def wsX2_decideAndQueue : List Cond := .code yX2_decideAndQueue cX2_decideAndQueue 2 none :: ((wsX2_decideAndQueue_r1 ++ wsX2_decideAndQueue_r2) ++ wsX20 ++ wsX00)
def wsX2_goOnFrom_r1 : List Cond := [Cond.fieldLink RX2 9 "Quarrelboard$Judge" "debate" "LQuarrelboard$Debate;", Cond.methodLink RX2 40 yX0_size, Cond.instanceMethod yX0_size, Cond.selects RX0 yX0_size yX0_size, Cond.initialized RX0, Cond.code yX0_size cX0_size 1 (some .int), Cond.fieldLink RX0 33 "Quarrelboard$Debate" "count" "I", Cond.methodLink RX2 56 yX0_matters, Cond.instanceMethod yX0_matters, Cond.selects RX0 yX0_matters yX0_matters, Cond.code yX0_matters cX0_matters 3 (some .boolean), Cond.fieldLink RX0 18 "Quarrelboard$Debate" "groundClaims" "[I", Cond.fieldLink RX0 21 "Quarrelboard$Debate" "attackers" "[I", Cond.static yX3_contains, Cond.initialized RX3, Cond.code yX3_contains cX3_contains 2 (some .boolean), Cond.methodLink RX2 46 yX2_decideAndQueue, Cond.instanceMethod yX2_decideAndQueue, Cond.selects RX2 yX2_decideAndQueue yX2_decideAndQueue, Cond.initialized RX2, Cond.code yX2_decideAndQueue cX2_decideAndQueue 2 none, Cond.fieldLink RX2 19 "Quarrelboard$Judge" "queued" "I", Cond.fieldLink RX2 15 "Quarrelboard$Judge" "queue" "[I", Cond.methodLink RX2 52 yX2_decide]
def wsX2_goOnFrom_r2 : List Cond := [Cond.instanceMethod yX2_decide, Cond.selects RX2 yX2_decide yX2_decide, Cond.code yX2_decide cX2_decide 2 (some .boolean), Cond.fieldLink RX2 26 "Quarrelboard$Judge" "claimsIn" "I", Cond.fieldLink RX2 29 "Quarrelboard$Judge" "claimsOut" "I", Cond.fieldLink RX2 23 "Quarrelboard$Judge" "standingFacts" "I", Cond.methodLink RX2 59 yX0_fails, Cond.instanceMethod yX0_fails, Cond.selects RX0 yX0_fails yX0_fails, Cond.code yX0_fails cX0_fails 5 (some .boolean), Cond.fieldLink RX0 15 "Quarrelboard$Debate" "groundFacts" "[I", Cond.methodLink RX2 63 yX0_holds, Cond.instanceMethod yX0_holds, Cond.selects RX0 yX0_holds yX0_holds, Cond.code yX0_holds cX0_holds 5 (some .boolean)]
def wsX2_goOnFrom : List Cond := .code yX2_goOnFrom cX2_goOnFrom 3 none :: ((wsX2_goOnFrom_r1 ++ wsX2_goOnFrom_r2) ++ wsX20 ++ wsX00)
def wsX2_decideByGoingOn_r1 : List Cond := [Cond.fieldLink RX2 9 "Quarrelboard$Judge" "debate" "LQuarrelboard$Debate;", Cond.fieldLink RX2 19 "Quarrelboard$Judge" "queued" "I", Cond.fieldLink RX2 15 "Quarrelboard$Judge" "queue" "[I", Cond.methodLink RX2 36 yX2_openAll, Cond.instanceMethod yX2_openAll, Cond.selects RX2 yX2_openAll yX2_openAll, Cond.initialized RX2, Cond.code yX2_openAll cX2_openAll 2 none, Cond.fieldLink RX2 23 "Quarrelboard$Judge" "standingFacts" "I", Cond.fieldLink RX2 26 "Quarrelboard$Judge" "claimsIn" "I", Cond.fieldLink RX2 29 "Quarrelboard$Judge" "claimsOut" "I", Cond.methodLink RX2 40 yX0_size, Cond.instanceMethod yX0_size, Cond.selects RX0 yX0_size yX0_size, Cond.initialized RX0, Cond.code yX0_size cX0_size 1 (some .int), Cond.fieldLink RX0 33 "Quarrelboard$Debate" "count" "I", Cond.methodLink RX2 46 yX2_decideAndQueue, Cond.instanceMethod yX2_decideAndQueue, Cond.selects RX2 yX2_decideAndQueue yX2_decideAndQueue, Cond.code yX2_decideAndQueue cX2_decideAndQueue 2 none, Cond.methodLink RX2 52 yX2_decide, Cond.instanceMethod yX2_decide, Cond.selects RX2 yX2_decide yX2_decide]
def wsX2_decideByGoingOn_r2 : List Cond := [Cond.code yX2_decide cX2_decide 2 (some .boolean), Cond.static yX3_contains, Cond.initialized RX3, Cond.code yX3_contains cX3_contains 2 (some .boolean), Cond.methodLink RX2 59 yX0_fails, Cond.instanceMethod yX0_fails, Cond.selects RX0 yX0_fails yX0_fails, Cond.code yX0_fails cX0_fails 5 (some .boolean), Cond.fieldLink RX0 15 "Quarrelboard$Debate" "groundFacts" "[I", Cond.fieldLink RX0 18 "Quarrelboard$Debate" "groundClaims" "[I", Cond.fieldLink RX0 21 "Quarrelboard$Debate" "attackers" "[I", Cond.methodLink RX2 63 yX0_holds, Cond.instanceMethod yX0_holds, Cond.selects RX0 yX0_holds yX0_holds, Cond.code yX0_holds cX0_holds 5 (some .boolean), Cond.methodLink RX2 49 yX2_goOnFrom, Cond.instanceMethod yX2_goOnFrom, Cond.selects RX2 yX2_goOnFrom yX2_goOnFrom, Cond.code yX2_goOnFrom cX2_goOnFrom 3 none, Cond.methodLink RX2 56 yX0_matters, Cond.instanceMethod yX0_matters, Cond.selects RX0 yX0_matters yX0_matters, Cond.code yX0_matters cX0_matters 3 (some .boolean)]
def wsX2_decideByGoingOn : List Cond := .code yX2_decideByGoingOn cX2_decideByGoingOn 3 none :: ((wsX2_decideByGoingOn_r1 ++ wsX2_decideByGoingOn_r2) ++ wsX20 ++ wsX00)
def wsX2_decideInRounds_r1 : List Cond := [Cond.fieldLink RX2 9 "Quarrelboard$Judge" "debate" "LQuarrelboard$Debate;", Cond.methodLink RX2 36 yX2_openAll, Cond.instanceMethod yX2_openAll, Cond.selects RX2 yX2_openAll yX2_openAll, Cond.initialized RX2, Cond.code yX2_openAll cX2_openAll 2 none, Cond.fieldLink RX2 19 "Quarrelboard$Judge" "queued" "I", Cond.fieldLink RX2 23 "Quarrelboard$Judge" "standingFacts" "I", Cond.fieldLink RX2 26 "Quarrelboard$Judge" "claimsIn" "I", Cond.fieldLink RX2 29 "Quarrelboard$Judge" "claimsOut" "I", Cond.methodLink RX2 40 yX0_size, Cond.instanceMethod yX0_size, Cond.selects RX0 yX0_size yX0_size, Cond.initialized RX0, Cond.code yX0_size cX0_size 1 (some .int), Cond.fieldLink RX0 33 "Quarrelboard$Debate" "count" "I", Cond.methodLink RX2 52 yX2_decide, Cond.instanceMethod yX2_decide, Cond.selects RX2 yX2_decide yX2_decide, Cond.code yX2_decide cX2_decide 2 (some .boolean), Cond.static yX3_contains, Cond.initialized RX3, Cond.code yX3_contains cX3_contains 2 (some .boolean), Cond.methodLink RX2 59 yX0_fails]
def wsX2_decideInRounds_r2 : List Cond := [Cond.instanceMethod yX0_fails, Cond.selects RX0 yX0_fails yX0_fails, Cond.code yX0_fails cX0_fails 5 (some .boolean), Cond.fieldLink RX0 15 "Quarrelboard$Debate" "groundFacts" "[I", Cond.fieldLink RX0 18 "Quarrelboard$Debate" "groundClaims" "[I", Cond.fieldLink RX0 21 "Quarrelboard$Debate" "attackers" "[I", Cond.methodLink RX2 63 yX0_holds, Cond.instanceMethod yX0_holds, Cond.selects RX0 yX0_holds yX0_holds, Cond.code yX0_holds cX0_holds 5 (some .boolean)]
def wsX2_decideInRounds : List Cond := .code yX2_decideInRounds cX2_decideInRounds 5 none :: ((wsX2_decideInRounds_r1 ++ wsX2_decideInRounds_r2) ++ wsX20 ++ wsX00)
def wsX3_init_r1 : List Cond := [Cond.methodLink RX3 1 objectInit, Cond.instanceMethod objectInit, Cond.code objectInit ⟨#[0xb1]⟩ 1 none, Cond.classLink RX3 7 RX1, Cond.instantiable RX1 4, Cond.initialized RX1, Cond.fieldLink RX3 10 "Quarrelboard" "book" "LQuarrelboard$FactBook;", Cond.classLink RX3 16 RX0, Cond.instantiable RX0 7, Cond.initialized RX0, Cond.fieldLink RX3 19 "Quarrelboard" "debate" "LQuarrelboard$Debate;", Cond.classLink RX3 23 RX2, Cond.instantiable RX2 6, Cond.initialized RX2, Cond.fieldLink RX3 28 "Quarrelboard" "judge" "LQuarrelboard$Judge;", Cond.arrayClass .int, Cond.fieldLink RX3 32 "Quarrelboard" "reputations" "[I", Cond.fieldLink RX3 36 "Quarrelboard" "closedDebates" "I", Cond.methodLink RX3 9 yX1_init, Cond.instanceMethod yX1_init, Cond.code yX1_init cX1_init 1 none, Cond.methodLink RX1 3 objectInit, Cond.fieldLink RX1 9 "Quarrelboard$FactBook" "sources" "[I", Cond.fieldLink RX1 15 "Quarrelboard$FactBook" "count" "I"]
def wsX3_init_r2 : List Cond := [Cond.fieldLink RX1 19 "Quarrelboard$FactBook" "withdrawn" "I", Cond.fieldLink RX1 22 "Quarrelboard$FactBook" "fallenSources" "I", Cond.methodLink RX3 18 yX0_init, Cond.instanceMethod yX0_init, Cond.code yX0_init cX0_init 1 none, Cond.methodLink RX0 3 objectInit, Cond.fieldLink RX0 9 "Quarrelboard$Debate" "owners" "[I", Cond.fieldLink RX0 15 "Quarrelboard$Debate" "groundFacts" "[I", Cond.fieldLink RX0 18 "Quarrelboard$Debate" "groundClaims" "[I", Cond.fieldLink RX0 21 "Quarrelboard$Debate" "attackers" "[I", Cond.fieldLink RX0 24 "Quarrelboard$Debate" "banks" "[I", Cond.fieldLink RX0 33 "Quarrelboard$Debate" "count" "I", Cond.fieldLink RX0 37 "Quarrelboard$Debate" "speaker" "I", Cond.methodLink RX0 27 yJ7_fill_53178, Cond.static yJ7_fill_53178, Cond.initialized RJ7, Cond.code yJ7_fill_53178 cJ7_fill_53178 4 none, Cond.methodLink RX3 25 yX2_init, Cond.instanceMethod yX2_init, Cond.code yX2_init cX2_init 2 none, Cond.methodLink RX2 3 objectInit, Cond.fieldLink RX2 9 "Quarrelboard$Judge" "debate" "LQuarrelboard$Debate;", Cond.fieldLink RX2 15 "Quarrelboard$Judge" "queue" "[I", Cond.fieldLink RX2 19 "Quarrelboard$Judge" "queued" "I"]
def wsX3_init_r3 : List Cond := [Cond.fieldLink RX2 23 "Quarrelboard$Judge" "standingFacts" "I", Cond.fieldLink RX2 26 "Quarrelboard$Judge" "claimsIn" "I", Cond.fieldLink RX2 29 "Quarrelboard$Judge" "claimsOut" "I"]
def wsX3_init : List Cond := .code yX3_init cX3_init 1 none :: ((wsX3_init_r1 ++ (wsX3_init_r2 ++ wsX3_init_r3)) ++ wsX10 ++ wsX30 ++ wsX00 ++ wsX20)
def wsX3_checkSource : List Cond := .code yX3_checkSource cX3_checkSource 2 none :: ([.classLink RX3 147 "java/lang/IndexOutOfBoundsException", .initialized "java/lang/IndexOutOfBoundsException"] ++ (vx_atS RX3 151 "java/lang/IndexOutOfBoundsException" ["java/lang/RuntimeException", "java/lang/Exception"]).filter goodWord)
def wsX3_addFact : List Cond := .code yX3_addFact cX3_addFact 3 (some .int) :: ([.classLink RX3 48 "java/lang/IllegalStateException", .initialized "java/lang/IllegalStateException", .fieldLink RX3 10 "Quarrelboard" "book" "LQuarrelboard$FactBook;", .methodLink RX3 40 yX3_checkSource, .instanceMethod yX3_checkSource, .selects RX3 yX3_checkSource yX3_checkSource, .initialized RX3, .code yX3_checkSource cX3_checkSource 2 none, .classLink RX3 147 "java/lang/IndexOutOfBoundsException", .initialized "java/lang/IndexOutOfBoundsException", .methodLink RX3 44 yX1_add, .instanceMethod yX1_add, .selects RX1 yX1_add yX1_add, .initialized RX1, .code yX1_add cX1_add 3 (some .int), .fieldLink RX1 15 "Quarrelboard$FactBook" "count" "I", .fieldLink RX1 9 "Quarrelboard$FactBook" "sources" "[I"] ++ wsX30 ++ wsX10 ++ (vx_atS RX3 52 "java/lang/IllegalStateException" ["java/lang/RuntimeException", "java/lang/Exception"]).filter goodWord ++ (vx_atS RX3 151 "java/lang/IndexOutOfBoundsException" ["java/lang/RuntimeException", "java/lang/Exception"]).filter goodWord)
def wsX3_toggleSource : List Cond := .code yX3_toggleSource cX3_toggleSource 2 (some .boolean) :: ([.fieldLink RX3 10 "Quarrelboard" "book" "LQuarrelboard$FactBook;", .methodLink RX3 40 yX3_checkSource, .instanceMethod yX3_checkSource, .selects RX3 yX3_checkSource yX3_checkSource, .initialized RX3, .code yX3_checkSource cX3_checkSource 2 none, .classLink RX3 147 "java/lang/IndexOutOfBoundsException", .initialized "java/lang/IndexOutOfBoundsException", .methodLink RX3 55 yX1_flipSource, .instanceMethod yX1_flipSource, .selects RX1 yX1_flipSource yX1_flipSource, .initialized RX1, .code yX1_flipSource cX1_flipSource 2 (some .boolean), .fieldLink RX1 22 "Quarrelboard$FactBook" "fallenSources" "I", .static yX3_contains, .code yX3_contains cX3_contains 2 (some .boolean)] ++ wsX30 ++ wsX10 ++ (vx_atS RX3 151 "java/lang/IndexOutOfBoundsException" ["java/lang/RuntimeException", "java/lang/Exception"]).filter goodWord)
def wsX3_checkFact : List Cond := .code yX3_checkFact cX3_checkFact 2 none :: ([.classLink RX3 147 "java/lang/IndexOutOfBoundsException", .initialized "java/lang/IndexOutOfBoundsException", .fieldLink RX3 10 "Quarrelboard" "book" "LQuarrelboard$FactBook;", .methodLink RX3 73 yX1_size, .instanceMethod yX1_size, .selects RX1 yX1_size yX1_size, .initialized RX1, .code yX1_size cX1_size 1 (some .int), .fieldLink RX1 15 "Quarrelboard$FactBook" "count" "I"] ++ wsX30 ++ wsX10 ++ (vx_atS RX3 151 "java/lang/IndexOutOfBoundsException" ["java/lang/RuntimeException", "java/lang/Exception"]).filter goodWord)
def wsX3_withdraw : List Cond := .code yX3_withdraw cX3_withdraw 2 (some .boolean) :: ([.fieldLink RX3 10 "Quarrelboard" "book" "LQuarrelboard$FactBook;", .methodLink RX3 59 yX3_checkFact, .instanceMethod yX3_checkFact, .selects RX3 yX3_checkFact yX3_checkFact, .initialized RX3, .code yX3_checkFact cX3_checkFact 2 none, .classLink RX3 147 "java/lang/IndexOutOfBoundsException", .initialized "java/lang/IndexOutOfBoundsException", .methodLink RX3 73 yX1_size, .instanceMethod yX1_size, .selects RX1 yX1_size yX1_size, .initialized RX1, .code yX1_size cX1_size 1 (some .int), .fieldLink RX1 15 "Quarrelboard$FactBook" "count" "I", .methodLink RX3 62 yX1_takeBack, .instanceMethod yX1_takeBack, .selects RX1 yX1_takeBack yX1_takeBack, .code yX1_takeBack cX1_takeBack 3 (some .boolean), .fieldLink RX1 19 "Quarrelboard$FactBook" "withdrawn" "I", .static yX3_contains, .code yX3_contains cX3_contains 2 (some .boolean)] ++ wsX30 ++ wsX10 ++ (vx_atS RX3 151 "java/lang/IndexOutOfBoundsException" ["java/lang/RuntimeException", "java/lang/Exception"]).filter goodWord)
def wsX3_factStands : List Cond := .code yX3_factStands cX3_factStands 2 (some .boolean) :: ([.fieldLink RX3 10 "Quarrelboard" "book" "LQuarrelboard$FactBook;", .methodLink RX3 59 yX3_checkFact, .instanceMethod yX3_checkFact, .selects RX3 yX3_checkFact yX3_checkFact, .initialized RX3, .code yX3_checkFact cX3_checkFact 2 none, .classLink RX3 147 "java/lang/IndexOutOfBoundsException", .initialized "java/lang/IndexOutOfBoundsException", .methodLink RX3 73 yX1_size, .instanceMethod yX1_size, .selects RX1 yX1_size yX1_size, .initialized RX1, .code yX1_size cX1_size 1 (some .int), .fieldLink RX1 15 "Quarrelboard$FactBook" "count" "I", .methodLink RX3 65 yX1_standing, .instanceMethod yX1_standing, .selects RX1 yX1_standing yX1_standing, .code yX1_standing cX1_standing 3 (some .int), .fieldLink RX1 19 "Quarrelboard$FactBook" "withdrawn" "I", .fieldLink RX1 22 "Quarrelboard$FactBook" "fallenSources" "I", .fieldLink RX1 9 "Quarrelboard$FactBook" "sources" "[I", .static yX3_contains, .code yX3_contains cX3_contains 2 (some .boolean), .methodLink RX3 69 yX3_contains] ++ wsX30 ++ wsX10 ++ (vx_atS RX3 151 "java/lang/IndexOutOfBoundsException" ["java/lang/RuntimeException", "java/lang/Exception"]).filter goodWord)
def wsX3_facts : List Cond := .code yX3_facts cX3_facts 1 (some .int) :: ([.fieldLink RX3 10 "Quarrelboard" "book" "LQuarrelboard$FactBook;", .methodLink RX3 73 yX1_size, .instanceMethod yX1_size, .selects RX1 yX1_size yX1_size, .initialized RX1, .code yX1_size cX1_size 1 (some .int), .fieldLink RX1 15 "Quarrelboard$FactBook" "count" "I"] ++ wsX30 ++ wsX10)
def wsX3_claim_r1 : List Cond := [Cond.classLink RX3 79 "java/lang/IllegalArgumentException", Cond.initialized "java/lang/IllegalArgumentException", Cond.classLink RX3 48 "java/lang/IllegalStateException", Cond.initialized "java/lang/IllegalStateException", Cond.fieldLink RX3 10 "Quarrelboard" "book" "LQuarrelboard$FactBook;", Cond.fieldLink RX3 19 "Quarrelboard" "debate" "LQuarrelboard$Debate;", Cond.methodLink RX3 76 yX1_hasAll, Cond.instanceMethod yX1_hasAll, Cond.selects RX1 yX1_hasAll yX1_hasAll, Cond.initialized RX1, Cond.code yX1_hasAll cX1_hasAll 2 (some .boolean), Cond.fieldLink RX1 15 "Quarrelboard$FactBook" "count" "I", Cond.methodLink RX3 86 yX0_add, Cond.instanceMethod yX0_add, Cond.selects RX0 yX0_add yX0_add, Cond.initialized RX0, Cond.code yX0_add cX0_add 4 (some .int), Cond.fieldLink RX0 33 "Quarrelboard$Debate" "count" "I", Cond.fieldLink RX0 24 "Quarrelboard$Debate" "banks" "[I", Cond.fieldLink RX0 37 "Quarrelboard$Debate" "speaker" "I", Cond.fieldLink RX0 9 "Quarrelboard$Debate" "owners" "[I", Cond.fieldLink RX0 15 "Quarrelboard$Debate" "groundFacts" "[I", Cond.fieldLink RX0 18 "Quarrelboard$Debate" "groundClaims" "[I", Cond.fieldLink RX0 21 "Quarrelboard$Debate" "attackers" "[I"]
def wsX3_claim_r2 : List Cond := [Cond.methodLink RX0 40 yX0_passTurn, Cond.instanceMethod yX0_passTurn, Cond.selects RX0 yX0_passTurn yX0_passTurn, Cond.code yX0_passTurn cX0_passTurn 1 none]
def wsX3_claim : List Cond := .code yX3_claim cX3_claim 4 (some .int) :: ((wsX3_claim_r1 ++ wsX3_claim_r2) ++ wsX30 ++ wsX10 ++ wsX00 ++ (vx_atS RX3 83 "java/lang/IllegalArgumentException" ["java/lang/RuntimeException", "java/lang/Exception"]).filter goodWord ++ (vx_atS RX3 52 "java/lang/IllegalStateException" ["java/lang/RuntimeException", "java/lang/Exception"]).filter goodWord)
def wsX3_skip : List Cond := .code yX3_skip cX3_skip 1 (some .int) :: ([.fieldLink RX3 19 "Quarrelboard" "debate" "LQuarrelboard$Debate;", .methodLink RX3 91 yX0_passTurn, .instanceMethod yX0_passTurn, .selects RX0 yX0_passTurn yX0_passTurn, .initialized RX0, .code yX0_passTurn cX0_passTurn 1 none, .fieldLink RX0 37 "Quarrelboard$Debate" "speaker" "I", .methodLink RX3 94 yX0_speaker, .instanceMethod yX0_speaker, .selects RX0 yX0_speaker yX0_speaker, .code yX0_speaker cX0_speaker 1 (some .int)] ++ wsX30 ++ wsX00)
def wsX3_checkClaim : List Cond := .code yX3_checkClaim cX3_checkClaim 2 none :: ([.classLink RX3 147 "java/lang/IndexOutOfBoundsException", .initialized "java/lang/IndexOutOfBoundsException", .fieldLink RX3 19 "Quarrelboard" "debate" "LQuarrelboard$Debate;", .methodLink RX3 107 yX0_size, .instanceMethod yX0_size, .selects RX0 yX0_size yX0_size, .initialized RX0, .code yX0_size cX0_size 1 (some .int), .fieldLink RX0 33 "Quarrelboard$Debate" "count" "I"] ++ wsX30 ++ wsX00 ++ (vx_atS RX3 151 "java/lang/IndexOutOfBoundsException" ["java/lang/RuntimeException", "java/lang/Exception"]).filter goodWord)
def wsX3_checkTwoClaims : List Cond := .code yX3_checkTwoClaims cX3_checkTwoClaims 3 none :: ([.classLink RX3 79 "java/lang/IllegalArgumentException", .initialized "java/lang/IllegalArgumentException", .methodLink RX3 108 yX3_checkClaim, .instanceMethod yX3_checkClaim, .selects RX3 yX3_checkClaim yX3_checkClaim, .initialized RX3, .code yX3_checkClaim cX3_checkClaim 2 none, .classLink RX3 147 "java/lang/IndexOutOfBoundsException", .initialized "java/lang/IndexOutOfBoundsException", .fieldLink RX3 19 "Quarrelboard" "debate" "LQuarrelboard$Debate;", .methodLink RX3 107 yX0_size, .instanceMethod yX0_size, .selects RX0 yX0_size yX0_size, .initialized RX0, .code yX0_size cX0_size 1 (some .int), .fieldLink RX0 33 "Quarrelboard$Debate" "count" "I"] ++ wsX30 ++ wsX00 ++ (vx_atS RX3 83 "java/lang/IllegalArgumentException" ["java/lang/RuntimeException", "java/lang/Exception"]).filter goodWord ++ (vx_atS RX3 151 "java/lang/IndexOutOfBoundsException" ["java/lang/RuntimeException", "java/lang/Exception"]).filter goodWord)
def wsX3_rest_r1 : List Cond := [Cond.fieldLink RX3 19 "Quarrelboard" "debate" "LQuarrelboard$Debate;", Cond.methodLink RX3 97 yX3_checkTwoClaims, Cond.instanceMethod yX3_checkTwoClaims, Cond.selects RX3 yX3_checkTwoClaims yX3_checkTwoClaims, Cond.initialized RX3, Cond.code yX3_checkTwoClaims cX3_checkTwoClaims 3 none, Cond.classLink RX3 79 "java/lang/IllegalArgumentException", Cond.initialized "java/lang/IllegalArgumentException", Cond.methodLink RX3 108 yX3_checkClaim, Cond.instanceMethod yX3_checkClaim, Cond.selects RX3 yX3_checkClaim yX3_checkClaim, Cond.code yX3_checkClaim cX3_checkClaim 2 none, Cond.classLink RX3 147 "java/lang/IndexOutOfBoundsException", Cond.initialized "java/lang/IndexOutOfBoundsException", Cond.methodLink RX3 107 yX0_size, Cond.instanceMethod yX0_size, Cond.selects RX0 yX0_size yX0_size, Cond.initialized RX0, Cond.code yX0_size cX0_size 1 (some .int), Cond.fieldLink RX0 33 "Quarrelboard$Debate" "count" "I", Cond.methodLink RX3 101 yX0_flipRest, Cond.instanceMethod yX0_flipRest, Cond.selects RX0 yX0_flipRest yX0_flipRest, Cond.code yX0_flipRest cX0_flipRest 3 (some .boolean)]
def wsX3_rest_r2 : List Cond := [Cond.fieldLink RX0 18 "Quarrelboard$Debate" "groundClaims" "[I", Cond.static yX3_contains, Cond.code yX3_contains cX3_contains 2 (some .boolean)]
def wsX3_rest : List Cond := .code yX3_rest cX3_rest 3 (some .boolean) :: ((wsX3_rest_r1 ++ wsX3_rest_r2) ++ wsX30 ++ wsX00 ++ (vx_atS RX3 83 "java/lang/IllegalArgumentException" ["java/lang/RuntimeException", "java/lang/Exception"]).filter goodWord ++ (vx_atS RX3 151 "java/lang/IndexOutOfBoundsException" ["java/lang/RuntimeException", "java/lang/Exception"]).filter goodWord)
def wsX3_attack_r1 : List Cond := [Cond.fieldLink RX3 19 "Quarrelboard" "debate" "LQuarrelboard$Debate;", Cond.methodLink RX3 97 yX3_checkTwoClaims, Cond.instanceMethod yX3_checkTwoClaims, Cond.selects RX3 yX3_checkTwoClaims yX3_checkTwoClaims, Cond.initialized RX3, Cond.code yX3_checkTwoClaims cX3_checkTwoClaims 3 none, Cond.classLink RX3 79 "java/lang/IllegalArgumentException", Cond.initialized "java/lang/IllegalArgumentException", Cond.methodLink RX3 108 yX3_checkClaim, Cond.instanceMethod yX3_checkClaim, Cond.selects RX3 yX3_checkClaim yX3_checkClaim, Cond.code yX3_checkClaim cX3_checkClaim 2 none, Cond.classLink RX3 147 "java/lang/IndexOutOfBoundsException", Cond.initialized "java/lang/IndexOutOfBoundsException", Cond.methodLink RX3 107 yX0_size, Cond.instanceMethod yX0_size, Cond.selects RX0 yX0_size yX0_size, Cond.initialized RX0, Cond.code yX0_size cX0_size 1 (some .int), Cond.fieldLink RX0 33 "Quarrelboard$Debate" "count" "I", Cond.methodLink RX3 104 yX0_flipAttack, Cond.instanceMethod yX0_flipAttack, Cond.selects RX0 yX0_flipAttack yX0_flipAttack, Cond.code yX0_flipAttack cX0_flipAttack 3 (some .boolean)]
def wsX3_attack_r2 : List Cond := [Cond.fieldLink RX0 21 "Quarrelboard$Debate" "attackers" "[I", Cond.static yX3_contains, Cond.code yX3_contains cX3_contains 2 (some .boolean)]
def wsX3_attack : List Cond := .code yX3_attack cX3_attack 3 (some .boolean) :: ((wsX3_attack_r1 ++ wsX3_attack_r2) ++ wsX30 ++ wsX00 ++ (vx_atS RX3 83 "java/lang/IllegalArgumentException" ["java/lang/RuntimeException", "java/lang/Exception"]).filter goodWord ++ (vx_atS RX3 151 "java/lang/IndexOutOfBoundsException" ["java/lang/RuntimeException", "java/lang/Exception"]).filter goodWord)
def wsX3_claims : List Cond := .code yX3_claims cX3_claims 1 (some .int) :: ([.fieldLink RX3 19 "Quarrelboard" "debate" "LQuarrelboard$Debate;", .methodLink RX3 107 yX0_size, .instanceMethod yX0_size, .selects RX0 yX0_size yX0_size, .initialized RX0, .code yX0_size cX0_size 1 (some .int), .fieldLink RX0 33 "Quarrelboard$Debate" "count" "I"] ++ wsX30 ++ wsX00)
def wsX3_playerOf : List Cond := .code yX3_playerOf cX3_playerOf 2 (some .int) :: ([.fieldLink RX3 19 "Quarrelboard" "debate" "LQuarrelboard$Debate;", .methodLink RX3 108 yX3_checkClaim, .instanceMethod yX3_checkClaim, .selects RX3 yX3_checkClaim yX3_checkClaim, .initialized RX3, .code yX3_checkClaim cX3_checkClaim 2 none, .classLink RX3 147 "java/lang/IndexOutOfBoundsException", .initialized "java/lang/IndexOutOfBoundsException", .methodLink RX3 107 yX0_size, .instanceMethod yX0_size, .selects RX0 yX0_size yX0_size, .initialized RX0, .code yX0_size cX0_size 1 (some .int), .fieldLink RX0 33 "Quarrelboard$Debate" "count" "I", .methodLink RX3 111 yX0_ownerOf, .instanceMethod yX0_ownerOf, .selects RX0 yX0_ownerOf yX0_ownerOf, .code yX0_ownerOf cX0_ownerOf 2 (some .int), .fieldLink RX0 9 "Quarrelboard$Debate" "owners" "[I"] ++ wsX30 ++ wsX00 ++ (vx_atS RX3 151 "java/lang/IndexOutOfBoundsException" ["java/lang/RuntimeException", "java/lang/Exception"]).filter goodWord)
def wsX3_turn : List Cond := .code yX3_turn cX3_turn 1 (some .int) :: ([.fieldLink RX3 19 "Quarrelboard" "debate" "LQuarrelboard$Debate;", .methodLink RX3 94 yX0_speaker, .instanceMethod yX0_speaker, .selects RX0 yX0_speaker yX0_speaker, .initialized RX0, .code yX0_speaker cX0_speaker 1 (some .int), .fieldLink RX0 37 "Quarrelboard$Debate" "speaker" "I"] ++ wsX30 ++ wsX00)
def wsX3_checkPlayer : List Cond := .code yX3_checkPlayer cX3_checkPlayer 2 none :: ([.classLink RX3 147 "java/lang/IndexOutOfBoundsException", .initialized "java/lang/IndexOutOfBoundsException"] ++ (vx_atS RX3 151 "java/lang/IndexOutOfBoundsException" ["java/lang/RuntimeException", "java/lang/Exception"]).filter goodWord)
def wsX3_bank : List Cond := .code yX3_bank cX3_bank 2 (some .int) :: ([.fieldLink RX3 19 "Quarrelboard" "debate" "LQuarrelboard$Debate;", .methodLink RX3 114 yX3_checkPlayer, .instanceMethod yX3_checkPlayer, .selects RX3 yX3_checkPlayer yX3_checkPlayer, .initialized RX3, .code yX3_checkPlayer cX3_checkPlayer 2 none, .classLink RX3 147 "java/lang/IndexOutOfBoundsException", .initialized "java/lang/IndexOutOfBoundsException", .methodLink RX3 117 yX0_secondsLeft, .instanceMethod yX0_secondsLeft, .selects RX0 yX0_secondsLeft yX0_secondsLeft, .initialized RX0, .code yX0_secondsLeft cX0_secondsLeft 2 (some .int), .fieldLink RX0 24 "Quarrelboard$Debate" "banks" "[I"] ++ wsX30 ++ wsX00 ++ (vx_atS RX3 151 "java/lang/IndexOutOfBoundsException" ["java/lang/RuntimeException", "java/lang/Exception"]).filter goodWord)
def wsX3_stateOf_r1 : List Cond := [Cond.fieldLink RX3 28 "Quarrelboard" "judge" "LQuarrelboard$Judge;", Cond.fieldLink RX3 10 "Quarrelboard" "book" "LQuarrelboard$FactBook;", Cond.methodLink RX3 108 yX3_checkClaim, Cond.instanceMethod yX3_checkClaim, Cond.selects RX3 yX3_checkClaim yX3_checkClaim, Cond.initialized RX3, Cond.code yX3_checkClaim cX3_checkClaim 2 none, Cond.classLink RX3 147 "java/lang/IndexOutOfBoundsException", Cond.initialized "java/lang/IndexOutOfBoundsException", Cond.fieldLink RX3 19 "Quarrelboard" "debate" "LQuarrelboard$Debate;", Cond.methodLink RX3 107 yX0_size, Cond.instanceMethod yX0_size, Cond.selects RX0 yX0_size yX0_size, Cond.initialized RX0, Cond.code yX0_size cX0_size 1 (some .int), Cond.fieldLink RX0 33 "Quarrelboard$Debate" "count" "I", Cond.methodLink RX3 65 yX1_standing, Cond.instanceMethod yX1_standing, Cond.selects RX1 yX1_standing yX1_standing, Cond.initialized RX1, Cond.code yX1_standing cX1_standing 3 (some .int), Cond.fieldLink RX1 15 "Quarrelboard$FactBook" "count" "I", Cond.fieldLink RX1 19 "Quarrelboard$FactBook" "withdrawn" "I", Cond.fieldLink RX1 22 "Quarrelboard$FactBook" "fallenSources" "I"]
def wsX3_stateOf_r2 : List Cond := [Cond.fieldLink RX1 9 "Quarrelboard$FactBook" "sources" "[I", Cond.static yX3_contains, Cond.code yX3_contains cX3_contains 2 (some .boolean), Cond.methodLink RX3 120 yX2_decideByGoingOn, Cond.instanceMethod yX2_decideByGoingOn, Cond.selects RX2 yX2_decideByGoingOn yX2_decideByGoingOn, Cond.initialized RX2, Cond.code yX2_decideByGoingOn cX2_decideByGoingOn 3 none, Cond.fieldLink RX2 9 "Quarrelboard$Judge" "debate" "LQuarrelboard$Debate;", Cond.fieldLink RX2 19 "Quarrelboard$Judge" "queued" "I", Cond.fieldLink RX2 15 "Quarrelboard$Judge" "queue" "[I", Cond.methodLink RX2 36 yX2_openAll, Cond.instanceMethod yX2_openAll, Cond.selects RX2 yX2_openAll yX2_openAll, Cond.code yX2_openAll cX2_openAll 2 none, Cond.fieldLink RX2 23 "Quarrelboard$Judge" "standingFacts" "I", Cond.fieldLink RX2 26 "Quarrelboard$Judge" "claimsIn" "I", Cond.fieldLink RX2 29 "Quarrelboard$Judge" "claimsOut" "I", Cond.methodLink RX2 40 yX0_size, Cond.methodLink RX2 46 yX2_decideAndQueue, Cond.instanceMethod yX2_decideAndQueue, Cond.selects RX2 yX2_decideAndQueue yX2_decideAndQueue, Cond.code yX2_decideAndQueue cX2_decideAndQueue 2 none, Cond.methodLink RX2 52 yX2_decide]
def wsX3_stateOf_r3 : List Cond := [Cond.instanceMethod yX2_decide, Cond.selects RX2 yX2_decide yX2_decide, Cond.code yX2_decide cX2_decide 2 (some .boolean), Cond.methodLink RX2 59 yX0_fails, Cond.instanceMethod yX0_fails, Cond.selects RX0 yX0_fails yX0_fails, Cond.code yX0_fails cX0_fails 5 (some .boolean), Cond.fieldLink RX0 15 "Quarrelboard$Debate" "groundFacts" "[I", Cond.fieldLink RX0 18 "Quarrelboard$Debate" "groundClaims" "[I", Cond.fieldLink RX0 21 "Quarrelboard$Debate" "attackers" "[I", Cond.methodLink RX2 63 yX0_holds, Cond.instanceMethod yX0_holds, Cond.selects RX0 yX0_holds yX0_holds, Cond.code yX0_holds cX0_holds 5 (some .boolean), Cond.methodLink RX2 49 yX2_goOnFrom, Cond.instanceMethod yX2_goOnFrom, Cond.selects RX2 yX2_goOnFrom yX2_goOnFrom, Cond.code yX2_goOnFrom cX2_goOnFrom 3 none, Cond.methodLink RX2 56 yX0_matters, Cond.instanceMethod yX0_matters, Cond.selects RX0 yX0_matters yX0_matters, Cond.code yX0_matters cX0_matters 3 (some .boolean), Cond.methodLink RX3 123 yX2_decisionOn, Cond.instanceMethod yX2_decisionOn]
def wsX3_stateOf_r4 : List Cond := [Cond.selects RX2 yX2_decisionOn yX2_decisionOn, Cond.code yX2_decisionOn cX2_decisionOn 2 (some .int)]
def wsX3_stateOf : List Cond := .code yX3_stateOf cX3_stateOf 2 (some .int) :: ((wsX3_stateOf_r1 ++ (wsX3_stateOf_r2 ++ (wsX3_stateOf_r3 ++ wsX3_stateOf_r4))) ++ wsX30 ++ wsX00 ++ wsX10 ++ wsX20 ++ (vx_atS RX3 151 "java/lang/IndexOutOfBoundsException" ["java/lang/RuntimeException", "java/lang/Exception"]).filter goodWord)
def wsX3_stateByRounds_r1 : List Cond := [Cond.fieldLink RX3 28 "Quarrelboard" "judge" "LQuarrelboard$Judge;", Cond.fieldLink RX3 10 "Quarrelboard" "book" "LQuarrelboard$FactBook;", Cond.methodLink RX3 108 yX3_checkClaim, Cond.instanceMethod yX3_checkClaim, Cond.selects RX3 yX3_checkClaim yX3_checkClaim, Cond.initialized RX3, Cond.code yX3_checkClaim cX3_checkClaim 2 none, Cond.classLink RX3 147 "java/lang/IndexOutOfBoundsException", Cond.initialized "java/lang/IndexOutOfBoundsException", Cond.fieldLink RX3 19 "Quarrelboard" "debate" "LQuarrelboard$Debate;", Cond.methodLink RX3 107 yX0_size, Cond.instanceMethod yX0_size, Cond.selects RX0 yX0_size yX0_size, Cond.initialized RX0, Cond.code yX0_size cX0_size 1 (some .int), Cond.fieldLink RX0 33 "Quarrelboard$Debate" "count" "I", Cond.methodLink RX3 65 yX1_standing, Cond.instanceMethod yX1_standing, Cond.selects RX1 yX1_standing yX1_standing, Cond.initialized RX1, Cond.code yX1_standing cX1_standing 3 (some .int), Cond.fieldLink RX1 15 "Quarrelboard$FactBook" "count" "I", Cond.fieldLink RX1 19 "Quarrelboard$FactBook" "withdrawn" "I", Cond.fieldLink RX1 22 "Quarrelboard$FactBook" "fallenSources" "I"]
def wsX3_stateByRounds_r2 : List Cond := [Cond.fieldLink RX1 9 "Quarrelboard$FactBook" "sources" "[I", Cond.static yX3_contains, Cond.code yX3_contains cX3_contains 2 (some .boolean), Cond.methodLink RX3 126 yX2_decideInRounds, Cond.instanceMethod yX2_decideInRounds, Cond.selects RX2 yX2_decideInRounds yX2_decideInRounds, Cond.initialized RX2, Cond.code yX2_decideInRounds cX2_decideInRounds 5 none, Cond.fieldLink RX2 9 "Quarrelboard$Judge" "debate" "LQuarrelboard$Debate;", Cond.methodLink RX2 36 yX2_openAll, Cond.instanceMethod yX2_openAll, Cond.selects RX2 yX2_openAll yX2_openAll, Cond.code yX2_openAll cX2_openAll 2 none, Cond.fieldLink RX2 19 "Quarrelboard$Judge" "queued" "I", Cond.fieldLink RX2 23 "Quarrelboard$Judge" "standingFacts" "I", Cond.fieldLink RX2 26 "Quarrelboard$Judge" "claimsIn" "I", Cond.fieldLink RX2 29 "Quarrelboard$Judge" "claimsOut" "I", Cond.methodLink RX2 40 yX0_size, Cond.methodLink RX2 52 yX2_decide, Cond.instanceMethod yX2_decide, Cond.selects RX2 yX2_decide yX2_decide, Cond.code yX2_decide cX2_decide 2 (some .boolean), Cond.methodLink RX2 59 yX0_fails, Cond.instanceMethod yX0_fails]
def wsX3_stateByRounds_r3 : List Cond := [Cond.selects RX0 yX0_fails yX0_fails, Cond.code yX0_fails cX0_fails 5 (some .boolean), Cond.fieldLink RX0 15 "Quarrelboard$Debate" "groundFacts" "[I", Cond.fieldLink RX0 18 "Quarrelboard$Debate" "groundClaims" "[I", Cond.fieldLink RX0 21 "Quarrelboard$Debate" "attackers" "[I", Cond.methodLink RX2 63 yX0_holds, Cond.instanceMethod yX0_holds, Cond.selects RX0 yX0_holds yX0_holds, Cond.code yX0_holds cX0_holds 5 (some .boolean), Cond.methodLink RX3 123 yX2_decisionOn, Cond.instanceMethod yX2_decisionOn, Cond.selects RX2 yX2_decisionOn yX2_decisionOn, Cond.code yX2_decisionOn cX2_decisionOn 2 (some .int)]
def wsX3_stateByRounds : List Cond := .code yX3_stateByRounds cX3_stateByRounds 2 (some .int) :: ((wsX3_stateByRounds_r1 ++ (wsX3_stateByRounds_r2 ++ wsX3_stateByRounds_r3)) ++ wsX30 ++ wsX00 ++ wsX10 ++ wsX20 ++ (vx_atS RX3 151 "java/lang/IndexOutOfBoundsException" ["java/lang/RuntimeException", "java/lang/Exception"]).filter goodWord)
def wsX3_scoreIf_r1 : List Cond := [Cond.fieldLink RX3 28 "Quarrelboard" "judge" "LQuarrelboard$Judge;", Cond.fieldLink RX3 19 "Quarrelboard" "debate" "LQuarrelboard$Debate;", Cond.methodLink RX3 120 yX2_decideByGoingOn, Cond.instanceMethod yX2_decideByGoingOn, Cond.selects RX2 yX2_decideByGoingOn yX2_decideByGoingOn, Cond.initialized RX2, Cond.code yX2_decideByGoingOn cX2_decideByGoingOn 3 none, Cond.fieldLink RX2 9 "Quarrelboard$Judge" "debate" "LQuarrelboard$Debate;", Cond.fieldLink RX2 19 "Quarrelboard$Judge" "queued" "I", Cond.fieldLink RX2 15 "Quarrelboard$Judge" "queue" "[I", Cond.methodLink RX2 36 yX2_openAll, Cond.instanceMethod yX2_openAll, Cond.selects RX2 yX2_openAll yX2_openAll, Cond.code yX2_openAll cX2_openAll 2 none, Cond.fieldLink RX2 23 "Quarrelboard$Judge" "standingFacts" "I", Cond.fieldLink RX2 26 "Quarrelboard$Judge" "claimsIn" "I", Cond.fieldLink RX2 29 "Quarrelboard$Judge" "claimsOut" "I", Cond.methodLink RX2 40 yX0_size, Cond.instanceMethod yX0_size, Cond.selects RX0 yX0_size yX0_size, Cond.initialized RX0, Cond.code yX0_size cX0_size 1 (some .int), Cond.fieldLink RX0 33 "Quarrelboard$Debate" "count" "I", Cond.methodLink RX2 46 yX2_decideAndQueue]
def wsX3_scoreIf_r2 : List Cond := [Cond.instanceMethod yX2_decideAndQueue, Cond.selects RX2 yX2_decideAndQueue yX2_decideAndQueue, Cond.code yX2_decideAndQueue cX2_decideAndQueue 2 none, Cond.methodLink RX2 52 yX2_decide, Cond.instanceMethod yX2_decide, Cond.selects RX2 yX2_decide yX2_decide, Cond.code yX2_decide cX2_decide 2 (some .boolean), Cond.static yX3_contains, Cond.initialized RX3, Cond.code yX3_contains cX3_contains 2 (some .boolean), Cond.methodLink RX2 59 yX0_fails, Cond.instanceMethod yX0_fails, Cond.selects RX0 yX0_fails yX0_fails, Cond.code yX0_fails cX0_fails 5 (some .boolean), Cond.fieldLink RX0 15 "Quarrelboard$Debate" "groundFacts" "[I", Cond.fieldLink RX0 18 "Quarrelboard$Debate" "groundClaims" "[I", Cond.fieldLink RX0 21 "Quarrelboard$Debate" "attackers" "[I", Cond.methodLink RX2 63 yX0_holds, Cond.instanceMethod yX0_holds, Cond.selects RX0 yX0_holds yX0_holds, Cond.code yX0_holds cX0_holds 5 (some .boolean), Cond.methodLink RX2 49 yX2_goOnFrom, Cond.instanceMethod yX2_goOnFrom, Cond.selects RX2 yX2_goOnFrom yX2_goOnFrom]
def wsX3_scoreIf_r3 : List Cond := [Cond.code yX2_goOnFrom cX2_goOnFrom 3 none, Cond.methodLink RX2 56 yX0_matters, Cond.instanceMethod yX0_matters, Cond.selects RX0 yX0_matters yX0_matters, Cond.code yX0_matters cX0_matters 3 (some .boolean), Cond.methodLink RX3 135 yX2_claimsIn, Cond.instanceMethod yX2_claimsIn, Cond.selects RX2 yX2_claimsIn yX2_claimsIn, Cond.code yX2_claimsIn cX2_claimsIn 1 (some .int), Cond.methodLink RX3 138 yX0_countOf, Cond.instanceMethod yX0_countOf, Cond.selects RX0 yX0_countOf yX0_countOf, Cond.code yX0_countOf cX0_countOf 5 (some .int), Cond.fieldLink RX0 9 "Quarrelboard$Debate" "owners" "[I"]
def wsX3_scoreIf : List Cond := .code yX3_scoreIf cX3_scoreIf 3 (some .int) :: ((wsX3_scoreIf_r1 ++ (wsX3_scoreIf_r2 ++ wsX3_scoreIf_r3)) ++ wsX30 ++ wsX20 ++ wsX00)
def wsX3_score_r1 : List Cond := [Cond.fieldLink RX3 10 "Quarrelboard" "book" "LQuarrelboard$FactBook;", Cond.methodLink RX3 114 yX3_checkPlayer, Cond.instanceMethod yX3_checkPlayer, Cond.selects RX3 yX3_checkPlayer yX3_checkPlayer, Cond.initialized RX3, Cond.code yX3_checkPlayer cX3_checkPlayer 2 none, Cond.classLink RX3 147 "java/lang/IndexOutOfBoundsException", Cond.initialized "java/lang/IndexOutOfBoundsException", Cond.methodLink RX3 65 yX1_standing, Cond.instanceMethod yX1_standing, Cond.selects RX1 yX1_standing yX1_standing, Cond.initialized RX1, Cond.code yX1_standing cX1_standing 3 (some .int), Cond.fieldLink RX1 15 "Quarrelboard$FactBook" "count" "I", Cond.fieldLink RX1 19 "Quarrelboard$FactBook" "withdrawn" "I", Cond.fieldLink RX1 22 "Quarrelboard$FactBook" "fallenSources" "I", Cond.fieldLink RX1 9 "Quarrelboard$FactBook" "sources" "[I", Cond.static yX3_contains, Cond.code yX3_contains cX3_contains 2 (some .boolean), Cond.methodLink RX3 129 yX3_scoreIf, Cond.instanceMethod yX3_scoreIf, Cond.selects RX3 yX3_scoreIf yX3_scoreIf, Cond.code yX3_scoreIf cX3_scoreIf 3 (some .int), Cond.fieldLink RX3 28 "Quarrelboard" "judge" "LQuarrelboard$Judge;"]
def wsX3_score_r2 : List Cond := [Cond.fieldLink RX3 19 "Quarrelboard" "debate" "LQuarrelboard$Debate;", Cond.methodLink RX3 120 yX2_decideByGoingOn, Cond.instanceMethod yX2_decideByGoingOn, Cond.selects RX2 yX2_decideByGoingOn yX2_decideByGoingOn, Cond.initialized RX2, Cond.code yX2_decideByGoingOn cX2_decideByGoingOn 3 none, Cond.fieldLink RX2 9 "Quarrelboard$Judge" "debate" "LQuarrelboard$Debate;", Cond.fieldLink RX2 19 "Quarrelboard$Judge" "queued" "I", Cond.fieldLink RX2 15 "Quarrelboard$Judge" "queue" "[I", Cond.methodLink RX2 36 yX2_openAll, Cond.instanceMethod yX2_openAll, Cond.selects RX2 yX2_openAll yX2_openAll, Cond.code yX2_openAll cX2_openAll 2 none, Cond.fieldLink RX2 23 "Quarrelboard$Judge" "standingFacts" "I", Cond.fieldLink RX2 26 "Quarrelboard$Judge" "claimsIn" "I", Cond.fieldLink RX2 29 "Quarrelboard$Judge" "claimsOut" "I", Cond.methodLink RX2 40 yX0_size, Cond.instanceMethod yX0_size, Cond.selects RX0 yX0_size yX0_size, Cond.initialized RX0, Cond.code yX0_size cX0_size 1 (some .int), Cond.fieldLink RX0 33 "Quarrelboard$Debate" "count" "I", Cond.methodLink RX2 46 yX2_decideAndQueue, Cond.instanceMethod yX2_decideAndQueue]
def wsX3_score_r3 : List Cond := [Cond.selects RX2 yX2_decideAndQueue yX2_decideAndQueue, Cond.code yX2_decideAndQueue cX2_decideAndQueue 2 none, Cond.methodLink RX2 52 yX2_decide, Cond.instanceMethod yX2_decide, Cond.selects RX2 yX2_decide yX2_decide, Cond.code yX2_decide cX2_decide 2 (some .boolean), Cond.methodLink RX2 59 yX0_fails, Cond.instanceMethod yX0_fails, Cond.selects RX0 yX0_fails yX0_fails, Cond.code yX0_fails cX0_fails 5 (some .boolean), Cond.fieldLink RX0 15 "Quarrelboard$Debate" "groundFacts" "[I", Cond.fieldLink RX0 18 "Quarrelboard$Debate" "groundClaims" "[I", Cond.fieldLink RX0 21 "Quarrelboard$Debate" "attackers" "[I", Cond.methodLink RX2 63 yX0_holds, Cond.instanceMethod yX0_holds, Cond.selects RX0 yX0_holds yX0_holds, Cond.code yX0_holds cX0_holds 5 (some .boolean), Cond.methodLink RX2 49 yX2_goOnFrom, Cond.instanceMethod yX2_goOnFrom, Cond.selects RX2 yX2_goOnFrom yX2_goOnFrom, Cond.code yX2_goOnFrom cX2_goOnFrom 3 none, Cond.methodLink RX2 56 yX0_matters, Cond.instanceMethod yX0_matters, Cond.selects RX0 yX0_matters yX0_matters]
def wsX3_score_r4 : List Cond := [Cond.code yX0_matters cX0_matters 3 (some .boolean), Cond.methodLink RX3 135 yX2_claimsIn, Cond.instanceMethod yX2_claimsIn, Cond.selects RX2 yX2_claimsIn yX2_claimsIn, Cond.code yX2_claimsIn cX2_claimsIn 1 (some .int), Cond.methodLink RX3 138 yX0_countOf, Cond.instanceMethod yX0_countOf, Cond.selects RX0 yX0_countOf yX0_countOf, Cond.code yX0_countOf cX0_countOf 5 (some .int), Cond.fieldLink RX0 9 "Quarrelboard$Debate" "owners" "[I"]
def wsX3_score : List Cond := .code yX3_score cX3_score 2 (some .int) :: ((wsX3_score_r1 ++ (wsX3_score_r2 ++ (wsX3_score_r3 ++ wsX3_score_r4))) ++ wsX30 ++ wsX10 ++ wsX20 ++ wsX00 ++ (vx_atS RX3 151 "java/lang/IndexOutOfBoundsException" ["java/lang/RuntimeException", "java/lang/Exception"]).filter goodWord)
def wsX3_without : List Cond := .code yX3_without cX3_without 2 (some .int) :: ([])
def wsX3_scoreWithout_r1 : List Cond := [Cond.fieldLink RX3 10 "Quarrelboard" "book" "LQuarrelboard$FactBook;", Cond.methodLink RX3 114 yX3_checkPlayer, Cond.instanceMethod yX3_checkPlayer, Cond.selects RX3 yX3_checkPlayer yX3_checkPlayer, Cond.initialized RX3, Cond.code yX3_checkPlayer cX3_checkPlayer 2 none, Cond.classLink RX3 147 "java/lang/IndexOutOfBoundsException", Cond.initialized "java/lang/IndexOutOfBoundsException", Cond.methodLink RX3 59 yX3_checkFact, Cond.instanceMethod yX3_checkFact, Cond.selects RX3 yX3_checkFact yX3_checkFact, Cond.code yX3_checkFact cX3_checkFact 2 none, Cond.methodLink RX3 73 yX1_size, Cond.instanceMethod yX1_size, Cond.selects RX1 yX1_size yX1_size, Cond.initialized RX1, Cond.code yX1_size cX1_size 1 (some .int), Cond.fieldLink RX1 15 "Quarrelboard$FactBook" "count" "I", Cond.methodLink RX3 65 yX1_standing, Cond.instanceMethod yX1_standing, Cond.selects RX1 yX1_standing yX1_standing, Cond.code yX1_standing cX1_standing 3 (some .int), Cond.fieldLink RX1 19 "Quarrelboard$FactBook" "withdrawn" "I", Cond.fieldLink RX1 22 "Quarrelboard$FactBook" "fallenSources" "I"]
def wsX3_scoreWithout_r2 : List Cond := [Cond.fieldLink RX1 9 "Quarrelboard$FactBook" "sources" "[I", Cond.static yX3_contains, Cond.code yX3_contains cX3_contains 2 (some .boolean), Cond.methodLink RX3 132 yX3_without, Cond.static yX3_without, Cond.code yX3_without cX3_without 2 (some .int), Cond.methodLink RX3 129 yX3_scoreIf, Cond.instanceMethod yX3_scoreIf, Cond.selects RX3 yX3_scoreIf yX3_scoreIf, Cond.code yX3_scoreIf cX3_scoreIf 3 (some .int), Cond.fieldLink RX3 28 "Quarrelboard" "judge" "LQuarrelboard$Judge;", Cond.fieldLink RX3 19 "Quarrelboard" "debate" "LQuarrelboard$Debate;", Cond.methodLink RX3 120 yX2_decideByGoingOn, Cond.instanceMethod yX2_decideByGoingOn, Cond.selects RX2 yX2_decideByGoingOn yX2_decideByGoingOn, Cond.initialized RX2, Cond.code yX2_decideByGoingOn cX2_decideByGoingOn 3 none, Cond.fieldLink RX2 9 "Quarrelboard$Judge" "debate" "LQuarrelboard$Debate;", Cond.fieldLink RX2 19 "Quarrelboard$Judge" "queued" "I", Cond.fieldLink RX2 15 "Quarrelboard$Judge" "queue" "[I", Cond.methodLink RX2 36 yX2_openAll, Cond.instanceMethod yX2_openAll, Cond.selects RX2 yX2_openAll yX2_openAll, Cond.code yX2_openAll cX2_openAll 2 none]
def wsX3_scoreWithout_r3 : List Cond := [Cond.fieldLink RX2 23 "Quarrelboard$Judge" "standingFacts" "I", Cond.fieldLink RX2 26 "Quarrelboard$Judge" "claimsIn" "I", Cond.fieldLink RX2 29 "Quarrelboard$Judge" "claimsOut" "I", Cond.methodLink RX2 40 yX0_size, Cond.instanceMethod yX0_size, Cond.selects RX0 yX0_size yX0_size, Cond.initialized RX0, Cond.code yX0_size cX0_size 1 (some .int), Cond.fieldLink RX0 33 "Quarrelboard$Debate" "count" "I", Cond.methodLink RX2 46 yX2_decideAndQueue, Cond.instanceMethod yX2_decideAndQueue, Cond.selects RX2 yX2_decideAndQueue yX2_decideAndQueue, Cond.code yX2_decideAndQueue cX2_decideAndQueue 2 none, Cond.methodLink RX2 52 yX2_decide, Cond.instanceMethod yX2_decide, Cond.selects RX2 yX2_decide yX2_decide, Cond.code yX2_decide cX2_decide 2 (some .boolean), Cond.methodLink RX2 59 yX0_fails, Cond.instanceMethod yX0_fails, Cond.selects RX0 yX0_fails yX0_fails, Cond.code yX0_fails cX0_fails 5 (some .boolean), Cond.fieldLink RX0 15 "Quarrelboard$Debate" "groundFacts" "[I", Cond.fieldLink RX0 18 "Quarrelboard$Debate" "groundClaims" "[I", Cond.fieldLink RX0 21 "Quarrelboard$Debate" "attackers" "[I"]
def wsX3_scoreWithout_r4 : List Cond := [Cond.methodLink RX2 63 yX0_holds, Cond.instanceMethod yX0_holds, Cond.selects RX0 yX0_holds yX0_holds, Cond.code yX0_holds cX0_holds 5 (some .boolean), Cond.methodLink RX2 49 yX2_goOnFrom, Cond.instanceMethod yX2_goOnFrom, Cond.selects RX2 yX2_goOnFrom yX2_goOnFrom, Cond.code yX2_goOnFrom cX2_goOnFrom 3 none, Cond.methodLink RX2 56 yX0_matters, Cond.instanceMethod yX0_matters, Cond.selects RX0 yX0_matters yX0_matters, Cond.code yX0_matters cX0_matters 3 (some .boolean), Cond.methodLink RX3 135 yX2_claimsIn, Cond.instanceMethod yX2_claimsIn, Cond.selects RX2 yX2_claimsIn yX2_claimsIn, Cond.code yX2_claimsIn cX2_claimsIn 1 (some .int), Cond.methodLink RX3 138 yX0_countOf, Cond.instanceMethod yX0_countOf, Cond.selects RX0 yX0_countOf yX0_countOf, Cond.code yX0_countOf cX0_countOf 5 (some .int), Cond.fieldLink RX0 9 "Quarrelboard$Debate" "owners" "[I"]
def wsX3_scoreWithout : List Cond := .code yX3_scoreWithout cX3_scoreWithout 3 (some .int) :: ((wsX3_scoreWithout_r1 ++ (wsX3_scoreWithout_r2 ++ (wsX3_scoreWithout_r3 ++ wsX3_scoreWithout_r4))) ++ wsX30 ++ wsX10 ++ wsX20 ++ wsX00 ++ (vx_atS RX3 151 "java/lang/IndexOutOfBoundsException" ["java/lang/RuntimeException", "java/lang/Exception"]).filter goodWord)
def wsX3_keyFact_r1 : List Cond := [Cond.fieldLink RX3 10 "Quarrelboard" "book" "LQuarrelboard$FactBook;", Cond.methodLink RX3 114 yX3_checkPlayer, Cond.instanceMethod yX3_checkPlayer, Cond.selects RX3 yX3_checkPlayer yX3_checkPlayer, Cond.initialized RX3, Cond.code yX3_checkPlayer cX3_checkPlayer 2 none, Cond.classLink RX3 147 "java/lang/IndexOutOfBoundsException", Cond.initialized "java/lang/IndexOutOfBoundsException", Cond.methodLink RX3 65 yX1_standing, Cond.instanceMethod yX1_standing, Cond.selects RX1 yX1_standing yX1_standing, Cond.initialized RX1, Cond.code yX1_standing cX1_standing 3 (some .int), Cond.fieldLink RX1 15 "Quarrelboard$FactBook" "count" "I", Cond.fieldLink RX1 19 "Quarrelboard$FactBook" "withdrawn" "I", Cond.fieldLink RX1 22 "Quarrelboard$FactBook" "fallenSources" "I", Cond.fieldLink RX1 9 "Quarrelboard$FactBook" "sources" "[I", Cond.static yX3_contains, Cond.code yX3_contains cX3_contains 2 (some .boolean), Cond.methodLink RX3 69 yX3_contains, Cond.methodLink RX3 132 yX3_without, Cond.static yX3_without, Cond.code yX3_without cX3_without 2 (some .int), Cond.methodLink RX3 129 yX3_scoreIf]
def wsX3_keyFact_r2 : List Cond := [Cond.instanceMethod yX3_scoreIf, Cond.selects RX3 yX3_scoreIf yX3_scoreIf, Cond.code yX3_scoreIf cX3_scoreIf 3 (some .int), Cond.fieldLink RX3 28 "Quarrelboard" "judge" "LQuarrelboard$Judge;", Cond.fieldLink RX3 19 "Quarrelboard" "debate" "LQuarrelboard$Debate;", Cond.methodLink RX3 120 yX2_decideByGoingOn, Cond.instanceMethod yX2_decideByGoingOn, Cond.selects RX2 yX2_decideByGoingOn yX2_decideByGoingOn, Cond.initialized RX2, Cond.code yX2_decideByGoingOn cX2_decideByGoingOn 3 none, Cond.fieldLink RX2 9 "Quarrelboard$Judge" "debate" "LQuarrelboard$Debate;", Cond.fieldLink RX2 19 "Quarrelboard$Judge" "queued" "I", Cond.fieldLink RX2 15 "Quarrelboard$Judge" "queue" "[I", Cond.methodLink RX2 36 yX2_openAll, Cond.instanceMethod yX2_openAll, Cond.selects RX2 yX2_openAll yX2_openAll, Cond.code yX2_openAll cX2_openAll 2 none, Cond.fieldLink RX2 23 "Quarrelboard$Judge" "standingFacts" "I", Cond.fieldLink RX2 26 "Quarrelboard$Judge" "claimsIn" "I", Cond.fieldLink RX2 29 "Quarrelboard$Judge" "claimsOut" "I", Cond.methodLink RX2 40 yX0_size, Cond.instanceMethod yX0_size, Cond.selects RX0 yX0_size yX0_size, Cond.initialized RX0]
def wsX3_keyFact_r3 : List Cond := [Cond.code yX0_size cX0_size 1 (some .int), Cond.fieldLink RX0 33 "Quarrelboard$Debate" "count" "I", Cond.methodLink RX2 46 yX2_decideAndQueue, Cond.instanceMethod yX2_decideAndQueue, Cond.selects RX2 yX2_decideAndQueue yX2_decideAndQueue, Cond.code yX2_decideAndQueue cX2_decideAndQueue 2 none, Cond.methodLink RX2 52 yX2_decide, Cond.instanceMethod yX2_decide, Cond.selects RX2 yX2_decide yX2_decide, Cond.code yX2_decide cX2_decide 2 (some .boolean), Cond.methodLink RX2 59 yX0_fails, Cond.instanceMethod yX0_fails, Cond.selects RX0 yX0_fails yX0_fails, Cond.code yX0_fails cX0_fails 5 (some .boolean), Cond.fieldLink RX0 15 "Quarrelboard$Debate" "groundFacts" "[I", Cond.fieldLink RX0 18 "Quarrelboard$Debate" "groundClaims" "[I", Cond.fieldLink RX0 21 "Quarrelboard$Debate" "attackers" "[I", Cond.methodLink RX2 63 yX0_holds, Cond.instanceMethod yX0_holds, Cond.selects RX0 yX0_holds yX0_holds, Cond.code yX0_holds cX0_holds 5 (some .boolean), Cond.methodLink RX2 49 yX2_goOnFrom, Cond.instanceMethod yX2_goOnFrom, Cond.selects RX2 yX2_goOnFrom yX2_goOnFrom]
def wsX3_keyFact_r4 : List Cond := [Cond.code yX2_goOnFrom cX2_goOnFrom 3 none, Cond.methodLink RX2 56 yX0_matters, Cond.instanceMethod yX0_matters, Cond.selects RX0 yX0_matters yX0_matters, Cond.code yX0_matters cX0_matters 3 (some .boolean), Cond.methodLink RX3 135 yX2_claimsIn, Cond.instanceMethod yX2_claimsIn, Cond.selects RX2 yX2_claimsIn yX2_claimsIn, Cond.code yX2_claimsIn cX2_claimsIn 1 (some .int), Cond.methodLink RX3 138 yX0_countOf, Cond.instanceMethod yX0_countOf, Cond.selects RX0 yX0_countOf yX0_countOf, Cond.code yX0_countOf cX0_countOf 5 (some .int), Cond.fieldLink RX0 9 "Quarrelboard$Debate" "owners" "[I"]
def wsX3_keyFact : List Cond := .code yX3_keyFact cX3_keyFact 7 (some .int) :: ((wsX3_keyFact_r1 ++ (wsX3_keyFact_r2 ++ (wsX3_keyFact_r3 ++ wsX3_keyFact_r4))) ++ wsX30 ++ wsX10 ++ wsX20 ++ wsX00 ++ (vx_atS RX3 151 "java/lang/IndexOutOfBoundsException" ["java/lang/RuntimeException", "java/lang/Exception"]).filter goodWord)
def wsX3_verdict_r1 : List Cond := [Cond.fieldLink RX3 28 "Quarrelboard" "judge" "LQuarrelboard$Judge;", Cond.fieldLink RX3 10 "Quarrelboard" "book" "LQuarrelboard$FactBook;", Cond.fieldLink RX3 19 "Quarrelboard" "debate" "LQuarrelboard$Debate;", Cond.methodLink RX3 65 yX1_standing, Cond.instanceMethod yX1_standing, Cond.selects RX1 yX1_standing yX1_standing, Cond.initialized RX1, Cond.code yX1_standing cX1_standing 3 (some .int), Cond.fieldLink RX1 15 "Quarrelboard$FactBook" "count" "I", Cond.fieldLink RX1 19 "Quarrelboard$FactBook" "withdrawn" "I", Cond.fieldLink RX1 22 "Quarrelboard$FactBook" "fallenSources" "I", Cond.fieldLink RX1 9 "Quarrelboard$FactBook" "sources" "[I", Cond.static yX3_contains, Cond.initialized RX3, Cond.code yX3_contains cX3_contains 2 (some .boolean), Cond.methodLink RX3 120 yX2_decideByGoingOn, Cond.instanceMethod yX2_decideByGoingOn, Cond.selects RX2 yX2_decideByGoingOn yX2_decideByGoingOn, Cond.initialized RX2, Cond.code yX2_decideByGoingOn cX2_decideByGoingOn 3 none, Cond.fieldLink RX2 9 "Quarrelboard$Judge" "debate" "LQuarrelboard$Debate;", Cond.fieldLink RX2 19 "Quarrelboard$Judge" "queued" "I", Cond.fieldLink RX2 15 "Quarrelboard$Judge" "queue" "[I", Cond.methodLink RX2 36 yX2_openAll]
def wsX3_verdict_r2 : List Cond := [Cond.instanceMethod yX2_openAll, Cond.selects RX2 yX2_openAll yX2_openAll, Cond.code yX2_openAll cX2_openAll 2 none, Cond.fieldLink RX2 23 "Quarrelboard$Judge" "standingFacts" "I", Cond.fieldLink RX2 26 "Quarrelboard$Judge" "claimsIn" "I", Cond.fieldLink RX2 29 "Quarrelboard$Judge" "claimsOut" "I", Cond.methodLink RX2 40 yX0_size, Cond.instanceMethod yX0_size, Cond.selects RX0 yX0_size yX0_size, Cond.initialized RX0, Cond.code yX0_size cX0_size 1 (some .int), Cond.fieldLink RX0 33 "Quarrelboard$Debate" "count" "I", Cond.methodLink RX2 46 yX2_decideAndQueue, Cond.instanceMethod yX2_decideAndQueue, Cond.selects RX2 yX2_decideAndQueue yX2_decideAndQueue, Cond.code yX2_decideAndQueue cX2_decideAndQueue 2 none, Cond.methodLink RX2 52 yX2_decide, Cond.instanceMethod yX2_decide, Cond.selects RX2 yX2_decide yX2_decide, Cond.code yX2_decide cX2_decide 2 (some .boolean), Cond.methodLink RX2 59 yX0_fails, Cond.instanceMethod yX0_fails, Cond.selects RX0 yX0_fails yX0_fails, Cond.code yX0_fails cX0_fails 5 (some .boolean)]
def wsX3_verdict_r3 : List Cond := [Cond.fieldLink RX0 15 "Quarrelboard$Debate" "groundFacts" "[I", Cond.fieldLink RX0 18 "Quarrelboard$Debate" "groundClaims" "[I", Cond.fieldLink RX0 21 "Quarrelboard$Debate" "attackers" "[I", Cond.methodLink RX2 63 yX0_holds, Cond.instanceMethod yX0_holds, Cond.selects RX0 yX0_holds yX0_holds, Cond.code yX0_holds cX0_holds 5 (some .boolean), Cond.methodLink RX2 49 yX2_goOnFrom, Cond.instanceMethod yX2_goOnFrom, Cond.selects RX2 yX2_goOnFrom yX2_goOnFrom, Cond.code yX2_goOnFrom cX2_goOnFrom 3 none, Cond.methodLink RX2 56 yX0_matters, Cond.instanceMethod yX0_matters, Cond.selects RX0 yX0_matters yX0_matters, Cond.code yX0_matters cX0_matters 3 (some .boolean), Cond.methodLink RX3 135 yX2_claimsIn, Cond.instanceMethod yX2_claimsIn, Cond.selects RX2 yX2_claimsIn yX2_claimsIn, Cond.code yX2_claimsIn cX2_claimsIn 1 (some .int), Cond.methodLink RX3 138 yX0_countOf, Cond.instanceMethod yX0_countOf, Cond.selects RX0 yX0_countOf yX0_countOf, Cond.code yX0_countOf cX0_countOf 5 (some .int), Cond.fieldLink RX0 9 "Quarrelboard$Debate" "owners" "[I"]
def wsX3_verdict : List Cond := .code yX3_verdict cX3_verdict 5 (some .int) :: ((wsX3_verdict_r1 ++ (wsX3_verdict_r2 ++ wsX3_verdict_r3)) ++ wsX30 ++ wsX10 ++ wsX20 ++ wsX00)
def wsX3_close_r1 : List Cond := [Cond.fieldLink RX3 10 "Quarrelboard" "book" "LQuarrelboard$FactBook;", Cond.fieldLink RX3 28 "Quarrelboard" "judge" "LQuarrelboard$Judge;", Cond.fieldLink RX3 19 "Quarrelboard" "debate" "LQuarrelboard$Debate;", Cond.fieldLink RX3 32 "Quarrelboard" "reputations" "[I", Cond.fieldLink RX3 36 "Quarrelboard" "closedDebates" "I", Cond.methodLink RX3 65 yX1_standing, Cond.instanceMethod yX1_standing, Cond.selects RX1 yX1_standing yX1_standing, Cond.initialized RX1, Cond.code yX1_standing cX1_standing 3 (some .int), Cond.fieldLink RX1 15 "Quarrelboard$FactBook" "count" "I", Cond.fieldLink RX1 19 "Quarrelboard$FactBook" "withdrawn" "I", Cond.fieldLink RX1 22 "Quarrelboard$FactBook" "fallenSources" "I", Cond.fieldLink RX1 9 "Quarrelboard$FactBook" "sources" "[I", Cond.static yX3_contains, Cond.initialized RX3, Cond.code yX3_contains cX3_contains 2 (some .boolean), Cond.methodLink RX3 120 yX2_decideByGoingOn, Cond.instanceMethod yX2_decideByGoingOn, Cond.selects RX2 yX2_decideByGoingOn yX2_decideByGoingOn, Cond.initialized RX2, Cond.code yX2_decideByGoingOn cX2_decideByGoingOn 3 none, Cond.fieldLink RX2 9 "Quarrelboard$Judge" "debate" "LQuarrelboard$Debate;", Cond.fieldLink RX2 19 "Quarrelboard$Judge" "queued" "I"]
def wsX3_close_r2 : List Cond := [Cond.fieldLink RX2 15 "Quarrelboard$Judge" "queue" "[I", Cond.methodLink RX2 36 yX2_openAll, Cond.instanceMethod yX2_openAll, Cond.selects RX2 yX2_openAll yX2_openAll, Cond.code yX2_openAll cX2_openAll 2 none, Cond.fieldLink RX2 23 "Quarrelboard$Judge" "standingFacts" "I", Cond.fieldLink RX2 26 "Quarrelboard$Judge" "claimsIn" "I", Cond.fieldLink RX2 29 "Quarrelboard$Judge" "claimsOut" "I", Cond.methodLink RX2 40 yX0_size, Cond.instanceMethod yX0_size, Cond.selects RX0 yX0_size yX0_size, Cond.initialized RX0, Cond.code yX0_size cX0_size 1 (some .int), Cond.fieldLink RX0 33 "Quarrelboard$Debate" "count" "I", Cond.methodLink RX2 46 yX2_decideAndQueue, Cond.instanceMethod yX2_decideAndQueue, Cond.selects RX2 yX2_decideAndQueue yX2_decideAndQueue, Cond.code yX2_decideAndQueue cX2_decideAndQueue 2 none, Cond.methodLink RX2 52 yX2_decide, Cond.instanceMethod yX2_decide, Cond.selects RX2 yX2_decide yX2_decide, Cond.code yX2_decide cX2_decide 2 (some .boolean), Cond.methodLink RX2 59 yX0_fails, Cond.instanceMethod yX0_fails]
def wsX3_close_r3 : List Cond := [Cond.selects RX0 yX0_fails yX0_fails, Cond.code yX0_fails cX0_fails 5 (some .boolean), Cond.fieldLink RX0 15 "Quarrelboard$Debate" "groundFacts" "[I", Cond.fieldLink RX0 18 "Quarrelboard$Debate" "groundClaims" "[I", Cond.fieldLink RX0 21 "Quarrelboard$Debate" "attackers" "[I", Cond.methodLink RX2 63 yX0_holds, Cond.instanceMethod yX0_holds, Cond.selects RX0 yX0_holds yX0_holds, Cond.code yX0_holds cX0_holds 5 (some .boolean), Cond.methodLink RX2 49 yX2_goOnFrom, Cond.instanceMethod yX2_goOnFrom, Cond.selects RX2 yX2_goOnFrom yX2_goOnFrom, Cond.code yX2_goOnFrom cX2_goOnFrom 3 none, Cond.methodLink RX2 56 yX0_matters, Cond.instanceMethod yX0_matters, Cond.selects RX0 yX0_matters yX0_matters, Cond.code yX0_matters cX0_matters 3 (some .boolean), Cond.methodLink RX3 141 yX0_illFounded, Cond.instanceMethod yX0_illFounded, Cond.selects RX0 yX0_illFounded yX0_illFounded, Cond.code yX0_illFounded cX0_illFounded 4 (some .int), Cond.methodLink RX3 135 yX2_claimsIn, Cond.instanceMethod yX2_claimsIn, Cond.selects RX2 yX2_claimsIn yX2_claimsIn]
def wsX3_close_r4 : List Cond := [Cond.code yX2_claimsIn cX2_claimsIn 1 (some .int), Cond.methodLink RX3 138 yX0_countOf, Cond.instanceMethod yX0_countOf, Cond.selects RX0 yX0_countOf yX0_countOf, Cond.code yX0_countOf cX0_countOf 5 (some .int), Cond.fieldLink RX0 9 "Quarrelboard$Debate" "owners" "[I", Cond.methodLink RX3 144 yX0_beginAgain, Cond.instanceMethod yX0_beginAgain, Cond.selects RX0 yX0_beginAgain yX0_beginAgain, Cond.code yX0_beginAgain cX0_beginAgain 1 none, Cond.fieldLink RX0 24 "Quarrelboard$Debate" "banks" "[I", Cond.fieldLink RX0 37 "Quarrelboard$Debate" "speaker" "I", Cond.methodLink RX0 27 yJ7_fill_53178, Cond.static yJ7_fill_53178, Cond.initialized RJ7, Cond.code yJ7_fill_53178 cJ7_fill_53178 4 none]
def wsX3_close : List Cond := .code yX3_close cX3_close 4 (some .int) :: ((wsX3_close_r1 ++ (wsX3_close_r2 ++ (wsX3_close_r3 ++ wsX3_close_r4))) ++ wsX30 ++ wsX10 ++ wsX20 ++ wsX00)
def wsX3_reputation : List Cond := .code yX3_reputation cX3_reputation 2 (some .int) :: ([.fieldLink RX3 32 "Quarrelboard" "reputations" "[I", .methodLink RX3 114 yX3_checkPlayer, .instanceMethod yX3_checkPlayer, .selects RX3 yX3_checkPlayer yX3_checkPlayer, .initialized RX3, .code yX3_checkPlayer cX3_checkPlayer 2 none, .classLink RX3 147 "java/lang/IndexOutOfBoundsException", .initialized "java/lang/IndexOutOfBoundsException"] ++ wsX30 ++ (vx_atS RX3 151 "java/lang/IndexOutOfBoundsException" ["java/lang/RuntimeException", "java/lang/Exception"]).filter goodWord)
def wsX4_init : List Cond := .code yX4_init cX4_init 1 none :: ([.methodLink RX4 1 objectInit, .instanceMethod objectInit, .code objectInit ⟨#[0xb1]⟩ 1 none, .arrayClass .boolean, .fieldLink RX4 7 "QuarrelboardModel" "hasFallen" "[Z", .arrayClass .int, .fieldLink RX4 13 "QuarrelboardModel" "sources" "[I", .fieldLink RX4 17 "QuarrelboardModel" "isWithdrawn" "[Z", .fieldLink RX4 20 "QuarrelboardModel" "banks" "[I", .fieldLink RX4 23 "QuarrelboardModel" "players" "[I", .fieldLink RX4 26 "QuarrelboardModel" "basis" "[I", .fieldLink RX4 29 "QuarrelboardModel" "rests" "[I", .fieldLink RX4 32 "QuarrelboardModel" "attackers" "[I", .fieldLink RX4 35 "QuarrelboardModel" "states" "[I", .fieldLink RX4 38 "QuarrelboardModel" "reputations" "[I"] ++ wsX40)
def wsX4_thrown : List Cond := .code yX4_thrown cX4_thrown 1 (some .int) :: ([.fieldLink RX4 41 "QuarrelboardModel" "thrown" "I"] ++ wsX40)
def wsX4_goes : List Cond := .code yX4_goes cX4_goes 2 (some .boolean) :: ([.fieldLink RX4 41 "QuarrelboardModel" "thrown" "I"] ++ wsX40)
def wsX4_isIn : List Cond := .code yX4_isIn cX4_isIn 3 (some .boolean) :: ([])
def wsX4_isSource : List Cond := .code yX4_isSource cX4_isSource 1 (some .boolean) :: ([.methodLink RX4 45 yX4_isIn, .static yX4_isIn, .initialized RX4, .code yX4_isIn cX4_isIn 3 (some .boolean)])
def wsX4_isFact : List Cond := .code yX4_isFact cX4_isFact 2 (some .boolean) :: ([.fieldLink RX4 49 "QuarrelboardModel" "facts" "I", .methodLink RX4 45 yX4_isIn, .static yX4_isIn, .initialized RX4, .code yX4_isIn cX4_isIn 3 (some .boolean)] ++ wsX40)
def wsX4_isPlayer : List Cond := .code yX4_isPlayer cX4_isPlayer 1 (some .boolean) :: ([.methodLink RX4 45 yX4_isIn, .static yX4_isIn, .initialized RX4, .code yX4_isIn cX4_isIn 3 (some .boolean)])
def wsX4_isClaim : List Cond := .code yX4_isClaim cX4_isClaim 2 (some .boolean) :: ([.fieldLink RX4 52 "QuarrelboardModel" "claims" "I", .methodLink RX4 45 yX4_isIn, .static yX4_isIn, .initialized RX4, .code yX4_isIn cX4_isIn 3 (some .boolean)] ++ wsX40)
def wsX4_addFact : List Cond := .code yX4_addFact cX4_addFact 2 (some .int) :: ([.fieldLink RX4 49 "QuarrelboardModel" "facts" "I", .fieldLink RX4 13 "QuarrelboardModel" "sources" "[I", .methodLink RX4 55 yX4_isSource, .static yX4_isSource, .initialized RX4, .code yX4_isSource cX4_isSource 1 (some .boolean), .methodLink RX4 45 yX4_isIn, .static yX4_isIn, .code yX4_isIn cX4_isIn 3 (some .boolean), .methodLink RX4 59 yX4_goes, .instanceMethod yX4_goes, .selects RX4 yX4_goes yX4_goes, .code yX4_goes cX4_goes 2 (some .boolean), .fieldLink RX4 41 "QuarrelboardModel" "thrown" "I"] ++ wsX40)
def wsX4_toggleSource : List Cond := .code yX4_toggleSource cX4_toggleSource 2 (some .boolean) :: ([.fieldLink RX4 7 "QuarrelboardModel" "hasFallen" "[Z", .methodLink RX4 55 yX4_isSource, .static yX4_isSource, .initialized RX4, .code yX4_isSource cX4_isSource 1 (some .boolean), .methodLink RX4 45 yX4_isIn, .static yX4_isIn, .code yX4_isIn cX4_isIn 3 (some .boolean), .methodLink RX4 59 yX4_goes, .instanceMethod yX4_goes, .selects RX4 yX4_goes yX4_goes, .code yX4_goes cX4_goes 2 (some .boolean), .fieldLink RX4 41 "QuarrelboardModel" "thrown" "I"] ++ wsX40)
def wsX4_withdraw : List Cond := .code yX4_withdraw cX4_withdraw 3 (some .boolean) :: ([.fieldLink RX4 17 "QuarrelboardModel" "isWithdrawn" "[Z", .methodLink RX4 62 yX4_isFact, .instanceMethod yX4_isFact, .selects RX4 yX4_isFact yX4_isFact, .initialized RX4, .code yX4_isFact cX4_isFact 2 (some .boolean), .fieldLink RX4 49 "QuarrelboardModel" "facts" "I", .methodLink RX4 45 yX4_isIn, .static yX4_isIn, .code yX4_isIn cX4_isIn 3 (some .boolean), .methodLink RX4 59 yX4_goes, .instanceMethod yX4_goes, .selects RX4 yX4_goes yX4_goes, .code yX4_goes cX4_goes 2 (some .boolean), .fieldLink RX4 41 "QuarrelboardModel" "thrown" "I"] ++ wsX40)
def wsX4_stands : List Cond := .code yX4_stands cX4_stands 2 (some .boolean) :: ([.fieldLink RX4 17 "QuarrelboardModel" "isWithdrawn" "[Z", .fieldLink RX4 7 "QuarrelboardModel" "hasFallen" "[Z", .fieldLink RX4 13 "QuarrelboardModel" "sources" "[I"] ++ wsX40)
def wsX4_factStands : List Cond := .code yX4_factStands cX4_factStands 2 (some .boolean) :: ([.methodLink RX4 62 yX4_isFact, .instanceMethod yX4_isFact, .selects RX4 yX4_isFact yX4_isFact, .initialized RX4, .code yX4_isFact cX4_isFact 2 (some .boolean), .fieldLink RX4 49 "QuarrelboardModel" "facts" "I", .methodLink RX4 45 yX4_isIn, .static yX4_isIn, .code yX4_isIn cX4_isIn 3 (some .boolean), .methodLink RX4 59 yX4_goes, .instanceMethod yX4_goes, .selects RX4 yX4_goes yX4_goes, .code yX4_goes cX4_goes 2 (some .boolean), .fieldLink RX4 41 "QuarrelboardModel" "thrown" "I", .methodLink RX4 65 yX4_stands, .instanceMethod yX4_stands, .selects RX4 yX4_stands yX4_stands, .code yX4_stands cX4_stands 2 (some .boolean), .fieldLink RX4 17 "QuarrelboardModel" "isWithdrawn" "[Z", .fieldLink RX4 7 "QuarrelboardModel" "hasFallen" "[Z", .fieldLink RX4 13 "QuarrelboardModel" "sources" "[I"] ++ wsX40)
def wsX4_facts : List Cond := .code yX4_facts cX4_facts 1 (some .int) :: ([.fieldLink RX4 41 "QuarrelboardModel" "thrown" "I", .fieldLink RX4 49 "QuarrelboardModel" "facts" "I"] ++ wsX40)
def wsX4_standing : List Cond := .code yX4_standing cX4_standing 4 (some .int) :: ([.fieldLink RX4 49 "QuarrelboardModel" "facts" "I", .methodLink RX4 65 yX4_stands, .instanceMethod yX4_stands, .selects RX4 yX4_stands yX4_stands, .initialized RX4, .code yX4_stands cX4_stands 2 (some .boolean), .fieldLink RX4 17 "QuarrelboardModel" "isWithdrawn" "[Z", .fieldLink RX4 7 "QuarrelboardModel" "hasFallen" "[Z", .fieldLink RX4 13 "QuarrelboardModel" "sources" "[I"] ++ wsX40)
def wsX4_next : List Cond := .code yX4_next cX4_next 1 none :: ([.fieldLink RX4 68 "QuarrelboardModel" "turn" "I"] ++ wsX40)
def wsX4_claim : List Cond := .code yX4_claim cX4_claim 4 (some .int) :: ([.fieldLink RX4 49 "QuarrelboardModel" "facts" "I", .fieldLink RX4 52 "QuarrelboardModel" "claims" "I", .fieldLink RX4 20 "QuarrelboardModel" "banks" "[I", .fieldLink RX4 68 "QuarrelboardModel" "turn" "I", .fieldLink RX4 23 "QuarrelboardModel" "players" "[I", .fieldLink RX4 26 "QuarrelboardModel" "basis" "[I", .fieldLink RX4 29 "QuarrelboardModel" "rests" "[I", .fieldLink RX4 32 "QuarrelboardModel" "attackers" "[I", .methodLink RX4 45 yX4_isIn, .static yX4_isIn, .initialized RX4, .code yX4_isIn cX4_isIn 3 (some .boolean), .methodLink RX4 59 yX4_goes, .instanceMethod yX4_goes, .selects RX4 yX4_goes yX4_goes, .code yX4_goes cX4_goes 2 (some .boolean), .fieldLink RX4 41 "QuarrelboardModel" "thrown" "I", .methodLink RX4 71 yX4_next, .instanceMethod yX4_next, .selects RX4 yX4_next yX4_next, .code yX4_next cX4_next 1 none] ++ wsX40)
def wsX4_skip : List Cond := .code yX4_skip cX4_skip 1 (some .int) :: ([.fieldLink RX4 41 "QuarrelboardModel" "thrown" "I", .fieldLink RX4 68 "QuarrelboardModel" "turn" "I", .methodLink RX4 71 yX4_next, .instanceMethod yX4_next, .selects RX4 yX4_next yX4_next, .initialized RX4, .code yX4_next cX4_next 1 none] ++ wsX40)
def wsX4_areTwo : List Cond := .code yX4_areTwo cX4_areTwo 3 (some .boolean) :: ([.methodLink RX4 74 yX4_isClaim, .instanceMethod yX4_isClaim, .selects RX4 yX4_isClaim yX4_isClaim, .initialized RX4, .code yX4_isClaim cX4_isClaim 2 (some .boolean), .fieldLink RX4 52 "QuarrelboardModel" "claims" "I", .methodLink RX4 45 yX4_isIn, .static yX4_isIn, .code yX4_isIn cX4_isIn 3 (some .boolean), .methodLink RX4 59 yX4_goes, .instanceMethod yX4_goes, .selects RX4 yX4_goes yX4_goes, .code yX4_goes cX4_goes 2 (some .boolean), .fieldLink RX4 41 "QuarrelboardModel" "thrown" "I"] ++ wsX40)
def wsX4_rest : List Cond := .code yX4_rest cX4_rest 3 (some .boolean) :: ([.fieldLink RX4 29 "QuarrelboardModel" "rests" "[I", .methodLink RX4 77 yX4_areTwo, .instanceMethod yX4_areTwo, .selects RX4 yX4_areTwo yX4_areTwo, .initialized RX4, .code yX4_areTwo cX4_areTwo 3 (some .boolean), .methodLink RX4 74 yX4_isClaim, .instanceMethod yX4_isClaim, .selects RX4 yX4_isClaim yX4_isClaim, .code yX4_isClaim cX4_isClaim 2 (some .boolean), .fieldLink RX4 52 "QuarrelboardModel" "claims" "I", .methodLink RX4 45 yX4_isIn, .static yX4_isIn, .code yX4_isIn cX4_isIn 3 (some .boolean), .methodLink RX4 59 yX4_goes, .instanceMethod yX4_goes, .selects RX4 yX4_goes yX4_goes, .code yX4_goes cX4_goes 2 (some .boolean), .fieldLink RX4 41 "QuarrelboardModel" "thrown" "I"] ++ wsX40)
def wsX4_attack : List Cond := .code yX4_attack cX4_attack 3 (some .boolean) :: ([.fieldLink RX4 32 "QuarrelboardModel" "attackers" "[I", .methodLink RX4 77 yX4_areTwo, .instanceMethod yX4_areTwo, .selects RX4 yX4_areTwo yX4_areTwo, .initialized RX4, .code yX4_areTwo cX4_areTwo 3 (some .boolean), .methodLink RX4 74 yX4_isClaim, .instanceMethod yX4_isClaim, .selects RX4 yX4_isClaim yX4_isClaim, .code yX4_isClaim cX4_isClaim 2 (some .boolean), .fieldLink RX4 52 "QuarrelboardModel" "claims" "I", .methodLink RX4 45 yX4_isIn, .static yX4_isIn, .code yX4_isIn cX4_isIn 3 (some .boolean), .methodLink RX4 59 yX4_goes, .instanceMethod yX4_goes, .selects RX4 yX4_goes yX4_goes, .code yX4_goes cX4_goes 2 (some .boolean), .fieldLink RX4 41 "QuarrelboardModel" "thrown" "I"] ++ wsX40)
def wsX4_claims : List Cond := .code yX4_claims cX4_claims 1 (some .int) :: ([.fieldLink RX4 41 "QuarrelboardModel" "thrown" "I", .fieldLink RX4 52 "QuarrelboardModel" "claims" "I"] ++ wsX40)
def wsX4_asks : List Cond := .code yX4_asks cX4_asks 2 (some .boolean) :: ([.methodLink RX4 74 yX4_isClaim, .instanceMethod yX4_isClaim, .selects RX4 yX4_isClaim yX4_isClaim, .initialized RX4, .code yX4_isClaim cX4_isClaim 2 (some .boolean), .fieldLink RX4 52 "QuarrelboardModel" "claims" "I", .methodLink RX4 45 yX4_isIn, .static yX4_isIn, .code yX4_isIn cX4_isIn 3 (some .boolean), .methodLink RX4 59 yX4_goes, .instanceMethod yX4_goes, .selects RX4 yX4_goes yX4_goes, .code yX4_goes cX4_goes 2 (some .boolean), .fieldLink RX4 41 "QuarrelboardModel" "thrown" "I"] ++ wsX40)
def wsX4_playerOf : List Cond := .code yX4_playerOf cX4_playerOf 2 (some .int) :: ([.fieldLink RX4 23 "QuarrelboardModel" "players" "[I", .methodLink RX4 81 yX4_asks, .instanceMethod yX4_asks, .selects RX4 yX4_asks yX4_asks, .initialized RX4, .code yX4_asks cX4_asks 2 (some .boolean), .methodLink RX4 74 yX4_isClaim, .instanceMethod yX4_isClaim, .selects RX4 yX4_isClaim yX4_isClaim, .code yX4_isClaim cX4_isClaim 2 (some .boolean), .fieldLink RX4 52 "QuarrelboardModel" "claims" "I", .methodLink RX4 45 yX4_isIn, .static yX4_isIn, .code yX4_isIn cX4_isIn 3 (some .boolean), .methodLink RX4 59 yX4_goes, .instanceMethod yX4_goes, .selects RX4 yX4_goes yX4_goes, .code yX4_goes cX4_goes 2 (some .boolean), .fieldLink RX4 41 "QuarrelboardModel" "thrown" "I"] ++ wsX40)
def wsX4_turn : List Cond := .code yX4_turn cX4_turn 1 (some .int) :: ([.fieldLink RX4 41 "QuarrelboardModel" "thrown" "I", .fieldLink RX4 68 "QuarrelboardModel" "turn" "I"] ++ wsX40)
def wsX4_asksPlayer : List Cond := .code yX4_asksPlayer cX4_asksPlayer 2 (some .boolean) :: ([.methodLink RX4 84 yX4_isPlayer, .static yX4_isPlayer, .initialized RX4, .code yX4_isPlayer cX4_isPlayer 1 (some .boolean), .methodLink RX4 45 yX4_isIn, .static yX4_isIn, .code yX4_isIn cX4_isIn 3 (some .boolean), .methodLink RX4 59 yX4_goes, .instanceMethod yX4_goes, .selects RX4 yX4_goes yX4_goes, .code yX4_goes cX4_goes 2 (some .boolean), .fieldLink RX4 41 "QuarrelboardModel" "thrown" "I"] ++ wsX40)
def wsX4_bank : List Cond := .code yX4_bank cX4_bank 2 (some .int) :: ([.fieldLink RX4 20 "QuarrelboardModel" "banks" "[I", .methodLink RX4 87 yX4_asksPlayer, .instanceMethod yX4_asksPlayer, .selects RX4 yX4_asksPlayer yX4_asksPlayer, .initialized RX4, .code yX4_asksPlayer cX4_asksPlayer 2 (some .boolean), .methodLink RX4 84 yX4_isPlayer, .static yX4_isPlayer, .code yX4_isPlayer cX4_isPlayer 1 (some .boolean), .methodLink RX4 45 yX4_isIn, .static yX4_isIn, .code yX4_isIn cX4_isIn 3 (some .boolean), .methodLink RX4 59 yX4_goes, .instanceMethod yX4_goes, .selects RX4 yX4_goes yX4_goes, .code yX4_goes cX4_goes 2 (some .boolean), .fieldLink RX4 41 "QuarrelboardModel" "thrown" "I"] ++ wsX40)
def wsX4_have : List Cond := .code yX4_have cX4_have 7 (some .boolean) :: ([.fieldLink RX4 52 "QuarrelboardModel" "claims" "I", .fieldLink RX4 35 "QuarrelboardModel" "states" "[I"] ++ wsX40)
def wsX4_decides : List Cond := .code yX4_decides cX4_decides 5 none :: ([.fieldLink RX4 52 "QuarrelboardModel" "claims" "I", .fieldLink RX4 35 "QuarrelboardModel" "states" "[I", .fieldLink RX4 26 "QuarrelboardModel" "basis" "[I", .fieldLink RX4 29 "QuarrelboardModel" "rests" "[I", .fieldLink RX4 32 "QuarrelboardModel" "attackers" "[I", .methodLink RX4 90 yX4_have, .instanceMethod yX4_have, .selects RX4 yX4_have yX4_have, .initialized RX4, .code yX4_have cX4_have 7 (some .boolean)] ++ wsX40)
def wsX4_stateNow_r1 : List Cond := [Cond.fieldLink RX4 35 "QuarrelboardModel" "states" "[I", Cond.methodLink RX4 81 yX4_asks, Cond.instanceMethod yX4_asks, Cond.selects RX4 yX4_asks yX4_asks, Cond.initialized RX4, Cond.code yX4_asks cX4_asks 2 (some .boolean), Cond.methodLink RX4 74 yX4_isClaim, Cond.instanceMethod yX4_isClaim, Cond.selects RX4 yX4_isClaim yX4_isClaim, Cond.code yX4_isClaim cX4_isClaim 2 (some .boolean), Cond.fieldLink RX4 52 "QuarrelboardModel" "claims" "I", Cond.methodLink RX4 45 yX4_isIn, Cond.static yX4_isIn, Cond.code yX4_isIn cX4_isIn 3 (some .boolean), Cond.methodLink RX4 59 yX4_goes, Cond.instanceMethod yX4_goes, Cond.selects RX4 yX4_goes yX4_goes, Cond.code yX4_goes cX4_goes 2 (some .boolean), Cond.fieldLink RX4 41 "QuarrelboardModel" "thrown" "I", Cond.methodLink RX4 94 yX4_standing, Cond.instanceMethod yX4_standing, Cond.selects RX4 yX4_standing yX4_standing, Cond.code yX4_standing cX4_standing 4 (some .int), Cond.fieldLink RX4 49 "QuarrelboardModel" "facts" "I"]
def wsX4_stateNow_r2 : List Cond := [Cond.methodLink RX4 65 yX4_stands, Cond.instanceMethod yX4_stands, Cond.selects RX4 yX4_stands yX4_stands, Cond.code yX4_stands cX4_stands 2 (some .boolean), Cond.fieldLink RX4 17 "QuarrelboardModel" "isWithdrawn" "[Z", Cond.fieldLink RX4 7 "QuarrelboardModel" "hasFallen" "[Z", Cond.fieldLink RX4 13 "QuarrelboardModel" "sources" "[I", Cond.methodLink RX4 98 yX4_decides, Cond.instanceMethod yX4_decides, Cond.selects RX4 yX4_decides yX4_decides, Cond.code yX4_decides cX4_decides 5 none, Cond.fieldLink RX4 26 "QuarrelboardModel" "basis" "[I", Cond.fieldLink RX4 29 "QuarrelboardModel" "rests" "[I", Cond.fieldLink RX4 32 "QuarrelboardModel" "attackers" "[I", Cond.methodLink RX4 90 yX4_have, Cond.instanceMethod yX4_have, Cond.selects RX4 yX4_have yX4_have, Cond.code yX4_have cX4_have 7 (some .boolean)]
def wsX4_stateNow : List Cond := .code yX4_stateNow cX4_stateNow 2 (some .int) :: ((wsX4_stateNow_r1 ++ wsX4_stateNow_r2) ++ wsX40)
def wsX4_stateOf_r1 : List Cond := [Cond.methodLink RX4 102 yX4_stateNow, Cond.instanceMethod yX4_stateNow, Cond.selects RX4 yX4_stateNow yX4_stateNow, Cond.initialized RX4, Cond.code yX4_stateNow cX4_stateNow 2 (some .int), Cond.fieldLink RX4 35 "QuarrelboardModel" "states" "[I", Cond.methodLink RX4 81 yX4_asks, Cond.instanceMethod yX4_asks, Cond.selects RX4 yX4_asks yX4_asks, Cond.code yX4_asks cX4_asks 2 (some .boolean), Cond.methodLink RX4 74 yX4_isClaim, Cond.instanceMethod yX4_isClaim, Cond.selects RX4 yX4_isClaim yX4_isClaim, Cond.code yX4_isClaim cX4_isClaim 2 (some .boolean), Cond.fieldLink RX4 52 "QuarrelboardModel" "claims" "I", Cond.methodLink RX4 45 yX4_isIn, Cond.static yX4_isIn, Cond.code yX4_isIn cX4_isIn 3 (some .boolean), Cond.methodLink RX4 59 yX4_goes, Cond.instanceMethod yX4_goes, Cond.selects RX4 yX4_goes yX4_goes, Cond.code yX4_goes cX4_goes 2 (some .boolean), Cond.fieldLink RX4 41 "QuarrelboardModel" "thrown" "I", Cond.methodLink RX4 94 yX4_standing]
def wsX4_stateOf_r2 : List Cond := [Cond.instanceMethod yX4_standing, Cond.selects RX4 yX4_standing yX4_standing, Cond.code yX4_standing cX4_standing 4 (some .int), Cond.fieldLink RX4 49 "QuarrelboardModel" "facts" "I", Cond.methodLink RX4 65 yX4_stands, Cond.instanceMethod yX4_stands, Cond.selects RX4 yX4_stands yX4_stands, Cond.code yX4_stands cX4_stands 2 (some .boolean), Cond.fieldLink RX4 17 "QuarrelboardModel" "isWithdrawn" "[Z", Cond.fieldLink RX4 7 "QuarrelboardModel" "hasFallen" "[Z", Cond.fieldLink RX4 13 "QuarrelboardModel" "sources" "[I", Cond.methodLink RX4 98 yX4_decides, Cond.instanceMethod yX4_decides, Cond.selects RX4 yX4_decides yX4_decides, Cond.code yX4_decides cX4_decides 5 none, Cond.fieldLink RX4 26 "QuarrelboardModel" "basis" "[I", Cond.fieldLink RX4 29 "QuarrelboardModel" "rests" "[I", Cond.fieldLink RX4 32 "QuarrelboardModel" "attackers" "[I", Cond.methodLink RX4 90 yX4_have, Cond.instanceMethod yX4_have, Cond.selects RX4 yX4_have yX4_have, Cond.code yX4_have cX4_have 7 (some .boolean)]
def wsX4_stateOf : List Cond := .code yX4_stateOf cX4_stateOf 2 (some .int) :: ((wsX4_stateOf_r1 ++ wsX4_stateOf_r2) ++ wsX40)
def wsX4_stateByRounds_r1 : List Cond := [Cond.methodLink RX4 102 yX4_stateNow, Cond.instanceMethod yX4_stateNow, Cond.selects RX4 yX4_stateNow yX4_stateNow, Cond.initialized RX4, Cond.code yX4_stateNow cX4_stateNow 2 (some .int), Cond.fieldLink RX4 35 "QuarrelboardModel" "states" "[I", Cond.methodLink RX4 81 yX4_asks, Cond.instanceMethod yX4_asks, Cond.selects RX4 yX4_asks yX4_asks, Cond.code yX4_asks cX4_asks 2 (some .boolean), Cond.methodLink RX4 74 yX4_isClaim, Cond.instanceMethod yX4_isClaim, Cond.selects RX4 yX4_isClaim yX4_isClaim, Cond.code yX4_isClaim cX4_isClaim 2 (some .boolean), Cond.fieldLink RX4 52 "QuarrelboardModel" "claims" "I", Cond.methodLink RX4 45 yX4_isIn, Cond.static yX4_isIn, Cond.code yX4_isIn cX4_isIn 3 (some .boolean), Cond.methodLink RX4 59 yX4_goes, Cond.instanceMethod yX4_goes, Cond.selects RX4 yX4_goes yX4_goes, Cond.code yX4_goes cX4_goes 2 (some .boolean), Cond.fieldLink RX4 41 "QuarrelboardModel" "thrown" "I", Cond.methodLink RX4 94 yX4_standing]
def wsX4_stateByRounds_r2 : List Cond := [Cond.instanceMethod yX4_standing, Cond.selects RX4 yX4_standing yX4_standing, Cond.code yX4_standing cX4_standing 4 (some .int), Cond.fieldLink RX4 49 "QuarrelboardModel" "facts" "I", Cond.methodLink RX4 65 yX4_stands, Cond.instanceMethod yX4_stands, Cond.selects RX4 yX4_stands yX4_stands, Cond.code yX4_stands cX4_stands 2 (some .boolean), Cond.fieldLink RX4 17 "QuarrelboardModel" "isWithdrawn" "[Z", Cond.fieldLink RX4 7 "QuarrelboardModel" "hasFallen" "[Z", Cond.fieldLink RX4 13 "QuarrelboardModel" "sources" "[I", Cond.methodLink RX4 98 yX4_decides, Cond.instanceMethod yX4_decides, Cond.selects RX4 yX4_decides yX4_decides, Cond.code yX4_decides cX4_decides 5 none, Cond.fieldLink RX4 26 "QuarrelboardModel" "basis" "[I", Cond.fieldLink RX4 29 "QuarrelboardModel" "rests" "[I", Cond.fieldLink RX4 32 "QuarrelboardModel" "attackers" "[I", Cond.methodLink RX4 90 yX4_have, Cond.instanceMethod yX4_have, Cond.selects RX4 yX4_have yX4_have, Cond.code yX4_have cX4_have 7 (some .boolean)]
def wsX4_stateByRounds : List Cond := .code yX4_stateByRounds cX4_stateByRounds 2 (some .int) :: ((wsX4_stateByRounds_r1 ++ wsX4_stateByRounds_r2) ++ wsX40)
def wsX4_scored_r1 : List Cond := [Cond.fieldLink RX4 52 "QuarrelboardModel" "claims" "I", Cond.fieldLink RX4 23 "QuarrelboardModel" "players" "[I", Cond.fieldLink RX4 35 "QuarrelboardModel" "states" "[I", Cond.methodLink RX4 94 yX4_standing, Cond.instanceMethod yX4_standing, Cond.selects RX4 yX4_standing yX4_standing, Cond.initialized RX4, Cond.code yX4_standing cX4_standing 4 (some .int), Cond.fieldLink RX4 49 "QuarrelboardModel" "facts" "I", Cond.methodLink RX4 65 yX4_stands, Cond.instanceMethod yX4_stands, Cond.selects RX4 yX4_stands yX4_stands, Cond.code yX4_stands cX4_stands 2 (some .boolean), Cond.fieldLink RX4 17 "QuarrelboardModel" "isWithdrawn" "[Z", Cond.fieldLink RX4 7 "QuarrelboardModel" "hasFallen" "[Z", Cond.fieldLink RX4 13 "QuarrelboardModel" "sources" "[I", Cond.methodLink RX4 98 yX4_decides, Cond.instanceMethod yX4_decides, Cond.selects RX4 yX4_decides yX4_decides, Cond.code yX4_decides cX4_decides 5 none, Cond.fieldLink RX4 26 "QuarrelboardModel" "basis" "[I", Cond.fieldLink RX4 29 "QuarrelboardModel" "rests" "[I", Cond.fieldLink RX4 32 "QuarrelboardModel" "attackers" "[I", Cond.methodLink RX4 90 yX4_have]
def wsX4_scored_r2 : List Cond := [Cond.instanceMethod yX4_have, Cond.selects RX4 yX4_have yX4_have, Cond.code yX4_have cX4_have 7 (some .boolean)]
def wsX4_scored : List Cond := .code yX4_scored cX4_scored 5 (some .int) :: ((wsX4_scored_r1 ++ wsX4_scored_r2) ++ wsX40)
def wsX4_score_r1 : List Cond := [Cond.methodLink RX4 87 yX4_asksPlayer, Cond.instanceMethod yX4_asksPlayer, Cond.selects RX4 yX4_asksPlayer yX4_asksPlayer, Cond.initialized RX4, Cond.code yX4_asksPlayer cX4_asksPlayer 2 (some .boolean), Cond.methodLink RX4 84 yX4_isPlayer, Cond.static yX4_isPlayer, Cond.code yX4_isPlayer cX4_isPlayer 1 (some .boolean), Cond.methodLink RX4 45 yX4_isIn, Cond.static yX4_isIn, Cond.code yX4_isIn cX4_isIn 3 (some .boolean), Cond.methodLink RX4 59 yX4_goes, Cond.instanceMethod yX4_goes, Cond.selects RX4 yX4_goes yX4_goes, Cond.code yX4_goes cX4_goes 2 (some .boolean), Cond.fieldLink RX4 41 "QuarrelboardModel" "thrown" "I", Cond.methodLink RX4 105 yX4_scored, Cond.instanceMethod yX4_scored, Cond.selects RX4 yX4_scored yX4_scored, Cond.code yX4_scored cX4_scored 5 (some .int), Cond.fieldLink RX4 52 "QuarrelboardModel" "claims" "I", Cond.fieldLink RX4 23 "QuarrelboardModel" "players" "[I", Cond.fieldLink RX4 35 "QuarrelboardModel" "states" "[I", Cond.methodLink RX4 94 yX4_standing]
def wsX4_score_r2 : List Cond := [Cond.instanceMethod yX4_standing, Cond.selects RX4 yX4_standing yX4_standing, Cond.code yX4_standing cX4_standing 4 (some .int), Cond.fieldLink RX4 49 "QuarrelboardModel" "facts" "I", Cond.methodLink RX4 65 yX4_stands, Cond.instanceMethod yX4_stands, Cond.selects RX4 yX4_stands yX4_stands, Cond.code yX4_stands cX4_stands 2 (some .boolean), Cond.fieldLink RX4 17 "QuarrelboardModel" "isWithdrawn" "[Z", Cond.fieldLink RX4 7 "QuarrelboardModel" "hasFallen" "[Z", Cond.fieldLink RX4 13 "QuarrelboardModel" "sources" "[I", Cond.methodLink RX4 98 yX4_decides, Cond.instanceMethod yX4_decides, Cond.selects RX4 yX4_decides yX4_decides, Cond.code yX4_decides cX4_decides 5 none, Cond.fieldLink RX4 26 "QuarrelboardModel" "basis" "[I", Cond.fieldLink RX4 29 "QuarrelboardModel" "rests" "[I", Cond.fieldLink RX4 32 "QuarrelboardModel" "attackers" "[I", Cond.methodLink RX4 90 yX4_have, Cond.instanceMethod yX4_have, Cond.selects RX4 yX4_have yX4_have, Cond.code yX4_have cX4_have 7 (some .boolean)]
def wsX4_score : List Cond := .code yX4_score cX4_score 2 (some .int) :: ((wsX4_score_r1 ++ wsX4_score_r2) ++ wsX40)
def wsX4_scoreWithout_r1 : List Cond := [Cond.methodLink RX4 84 yX4_isPlayer, Cond.static yX4_isPlayer, Cond.initialized RX4, Cond.code yX4_isPlayer cX4_isPlayer 1 (some .boolean), Cond.methodLink RX4 45 yX4_isIn, Cond.static yX4_isIn, Cond.code yX4_isIn cX4_isIn 3 (some .boolean), Cond.methodLink RX4 62 yX4_isFact, Cond.instanceMethod yX4_isFact, Cond.selects RX4 yX4_isFact yX4_isFact, Cond.code yX4_isFact cX4_isFact 2 (some .boolean), Cond.fieldLink RX4 49 "QuarrelboardModel" "facts" "I", Cond.methodLink RX4 59 yX4_goes, Cond.instanceMethod yX4_goes, Cond.selects RX4 yX4_goes yX4_goes, Cond.code yX4_goes cX4_goes 2 (some .boolean), Cond.fieldLink RX4 41 "QuarrelboardModel" "thrown" "I", Cond.methodLink RX4 105 yX4_scored, Cond.instanceMethod yX4_scored, Cond.selects RX4 yX4_scored yX4_scored, Cond.code yX4_scored cX4_scored 5 (some .int), Cond.fieldLink RX4 52 "QuarrelboardModel" "claims" "I", Cond.fieldLink RX4 23 "QuarrelboardModel" "players" "[I", Cond.fieldLink RX4 35 "QuarrelboardModel" "states" "[I"]
def wsX4_scoreWithout_r2 : List Cond := [Cond.methodLink RX4 94 yX4_standing, Cond.instanceMethod yX4_standing, Cond.selects RX4 yX4_standing yX4_standing, Cond.code yX4_standing cX4_standing 4 (some .int), Cond.methodLink RX4 65 yX4_stands, Cond.instanceMethod yX4_stands, Cond.selects RX4 yX4_stands yX4_stands, Cond.code yX4_stands cX4_stands 2 (some .boolean), Cond.fieldLink RX4 17 "QuarrelboardModel" "isWithdrawn" "[Z", Cond.fieldLink RX4 7 "QuarrelboardModel" "hasFallen" "[Z", Cond.fieldLink RX4 13 "QuarrelboardModel" "sources" "[I", Cond.methodLink RX4 98 yX4_decides, Cond.instanceMethod yX4_decides, Cond.selects RX4 yX4_decides yX4_decides, Cond.code yX4_decides cX4_decides 5 none, Cond.fieldLink RX4 26 "QuarrelboardModel" "basis" "[I", Cond.fieldLink RX4 29 "QuarrelboardModel" "rests" "[I", Cond.fieldLink RX4 32 "QuarrelboardModel" "attackers" "[I", Cond.methodLink RX4 90 yX4_have, Cond.instanceMethod yX4_have, Cond.selects RX4 yX4_have yX4_have, Cond.code yX4_have cX4_have 7 (some .boolean)]
def wsX4_scoreWithout : List Cond := .code yX4_scoreWithout cX4_scoreWithout 3 (some .int) :: ((wsX4_scoreWithout_r1 ++ wsX4_scoreWithout_r2) ++ wsX40)
def wsX4_keyFact_r1 : List Cond := [Cond.fieldLink RX4 49 "QuarrelboardModel" "facts" "I", Cond.methodLink RX4 87 yX4_asksPlayer, Cond.instanceMethod yX4_asksPlayer, Cond.selects RX4 yX4_asksPlayer yX4_asksPlayer, Cond.initialized RX4, Cond.code yX4_asksPlayer cX4_asksPlayer 2 (some .boolean), Cond.methodLink RX4 84 yX4_isPlayer, Cond.static yX4_isPlayer, Cond.code yX4_isPlayer cX4_isPlayer 1 (some .boolean), Cond.methodLink RX4 45 yX4_isIn, Cond.static yX4_isIn, Cond.code yX4_isIn cX4_isIn 3 (some .boolean), Cond.methodLink RX4 59 yX4_goes, Cond.instanceMethod yX4_goes, Cond.selects RX4 yX4_goes yX4_goes, Cond.code yX4_goes cX4_goes 2 (some .boolean), Cond.fieldLink RX4 41 "QuarrelboardModel" "thrown" "I", Cond.methodLink RX4 65 yX4_stands, Cond.instanceMethod yX4_stands, Cond.selects RX4 yX4_stands yX4_stands, Cond.code yX4_stands cX4_stands 2 (some .boolean), Cond.fieldLink RX4 17 "QuarrelboardModel" "isWithdrawn" "[Z", Cond.fieldLink RX4 7 "QuarrelboardModel" "hasFallen" "[Z", Cond.fieldLink RX4 13 "QuarrelboardModel" "sources" "[I"]
def wsX4_keyFact_r2 : List Cond := [Cond.methodLink RX4 105 yX4_scored, Cond.instanceMethod yX4_scored, Cond.selects RX4 yX4_scored yX4_scored, Cond.code yX4_scored cX4_scored 5 (some .int), Cond.fieldLink RX4 52 "QuarrelboardModel" "claims" "I", Cond.fieldLink RX4 23 "QuarrelboardModel" "players" "[I", Cond.fieldLink RX4 35 "QuarrelboardModel" "states" "[I", Cond.methodLink RX4 94 yX4_standing, Cond.instanceMethod yX4_standing, Cond.selects RX4 yX4_standing yX4_standing, Cond.code yX4_standing cX4_standing 4 (some .int), Cond.methodLink RX4 98 yX4_decides, Cond.instanceMethod yX4_decides, Cond.selects RX4 yX4_decides yX4_decides, Cond.code yX4_decides cX4_decides 5 none, Cond.fieldLink RX4 26 "QuarrelboardModel" "basis" "[I", Cond.fieldLink RX4 29 "QuarrelboardModel" "rests" "[I", Cond.fieldLink RX4 32 "QuarrelboardModel" "attackers" "[I", Cond.methodLink RX4 90 yX4_have, Cond.instanceMethod yX4_have, Cond.selects RX4 yX4_have yX4_have, Cond.code yX4_have cX4_have 7 (some .boolean)]
def wsX4_keyFact : List Cond := .code yX4_keyFact cX4_keyFact 6 (some .int) :: ((wsX4_keyFact_r1 ++ wsX4_keyFact_r2) ++ wsX40)
def wsX4_verdict_r1 : List Cond := [Cond.fieldLink RX4 41 "QuarrelboardModel" "thrown" "I", Cond.methodLink RX4 105 yX4_scored, Cond.instanceMethod yX4_scored, Cond.selects RX4 yX4_scored yX4_scored, Cond.initialized RX4, Cond.code yX4_scored cX4_scored 5 (some .int), Cond.fieldLink RX4 52 "QuarrelboardModel" "claims" "I", Cond.fieldLink RX4 23 "QuarrelboardModel" "players" "[I", Cond.fieldLink RX4 35 "QuarrelboardModel" "states" "[I", Cond.methodLink RX4 94 yX4_standing, Cond.instanceMethod yX4_standing, Cond.selects RX4 yX4_standing yX4_standing, Cond.code yX4_standing cX4_standing 4 (some .int), Cond.fieldLink RX4 49 "QuarrelboardModel" "facts" "I", Cond.methodLink RX4 65 yX4_stands, Cond.instanceMethod yX4_stands, Cond.selects RX4 yX4_stands yX4_stands, Cond.code yX4_stands cX4_stands 2 (some .boolean), Cond.fieldLink RX4 17 "QuarrelboardModel" "isWithdrawn" "[Z", Cond.fieldLink RX4 7 "QuarrelboardModel" "hasFallen" "[Z", Cond.fieldLink RX4 13 "QuarrelboardModel" "sources" "[I", Cond.methodLink RX4 98 yX4_decides, Cond.instanceMethod yX4_decides, Cond.selects RX4 yX4_decides yX4_decides]
def wsX4_verdict_r2 : List Cond := [Cond.code yX4_decides cX4_decides 5 none, Cond.fieldLink RX4 26 "QuarrelboardModel" "basis" "[I", Cond.fieldLink RX4 29 "QuarrelboardModel" "rests" "[I", Cond.fieldLink RX4 32 "QuarrelboardModel" "attackers" "[I", Cond.methodLink RX4 90 yX4_have, Cond.instanceMethod yX4_have, Cond.selects RX4 yX4_have yX4_have, Cond.code yX4_have cX4_have 7 (some .boolean)]
def wsX4_verdict : List Cond := .code yX4_verdict cX4_verdict 5 (some .int) :: ((wsX4_verdict_r1 ++ wsX4_verdict_r2) ++ wsX40)
def wsX4_close_r1 : List Cond := [Cond.fieldLink RX4 41 "QuarrelboardModel" "thrown" "I", Cond.fieldLink RX4 38 "QuarrelboardModel" "reputations" "[I", Cond.fieldLink RX4 20 "QuarrelboardModel" "banks" "[I", Cond.fieldLink RX4 52 "QuarrelboardModel" "claims" "I", Cond.fieldLink RX4 23 "QuarrelboardModel" "players" "[I", Cond.fieldLink RX4 26 "QuarrelboardModel" "basis" "[I", Cond.fieldLink RX4 68 "QuarrelboardModel" "turn" "I", Cond.fieldLink RX4 109 "QuarrelboardModel" "closed" "I", Cond.methodLink RX4 94 yX4_standing, Cond.instanceMethod yX4_standing, Cond.selects RX4 yX4_standing yX4_standing, Cond.initialized RX4, Cond.code yX4_standing cX4_standing 4 (some .int), Cond.fieldLink RX4 49 "QuarrelboardModel" "facts" "I", Cond.methodLink RX4 65 yX4_stands, Cond.instanceMethod yX4_stands, Cond.selects RX4 yX4_stands yX4_stands, Cond.code yX4_stands cX4_stands 2 (some .boolean), Cond.fieldLink RX4 17 "QuarrelboardModel" "isWithdrawn" "[Z", Cond.fieldLink RX4 7 "QuarrelboardModel" "hasFallen" "[Z", Cond.fieldLink RX4 13 "QuarrelboardModel" "sources" "[I", Cond.methodLink RX4 105 yX4_scored, Cond.instanceMethod yX4_scored, Cond.selects RX4 yX4_scored yX4_scored]
def wsX4_close_r2 : List Cond := [Cond.code yX4_scored cX4_scored 5 (some .int), Cond.fieldLink RX4 35 "QuarrelboardModel" "states" "[I", Cond.methodLink RX4 98 yX4_decides, Cond.instanceMethod yX4_decides, Cond.selects RX4 yX4_decides yX4_decides, Cond.code yX4_decides cX4_decides 5 none, Cond.fieldLink RX4 29 "QuarrelboardModel" "rests" "[I", Cond.fieldLink RX4 32 "QuarrelboardModel" "attackers" "[I", Cond.methodLink RX4 90 yX4_have, Cond.instanceMethod yX4_have, Cond.selects RX4 yX4_have yX4_have, Cond.code yX4_have cX4_have 7 (some .boolean)]
def wsX4_close : List Cond := .code yX4_close cX4_close 3 (some .int) :: ((wsX4_close_r1 ++ wsX4_close_r2) ++ wsX40)
def wsX4_reputation : List Cond := .code yX4_reputation cX4_reputation 2 (some .int) :: ([.fieldLink RX4 38 "QuarrelboardModel" "reputations" "[I", .methodLink RX4 87 yX4_asksPlayer, .instanceMethod yX4_asksPlayer, .selects RX4 yX4_asksPlayer yX4_asksPlayer, .initialized RX4, .code yX4_asksPlayer cX4_asksPlayer 2 (some .boolean), .methodLink RX4 84 yX4_isPlayer, .static yX4_isPlayer, .code yX4_isPlayer cX4_isPlayer 1 (some .boolean), .methodLink RX4 45 yX4_isIn, .static yX4_isIn, .code yX4_isIn cX4_isIn 3 (some .boolean), .methodLink RX4 59 yX4_goes, .instanceMethod yX4_goes, .selects RX4 yX4_goes yX4_goes, .code yX4_goes cX4_goes 2 (some .boolean), .fieldLink RX4 41 "QuarrelboardModel" "thrown" "I"] ++ wsX40)
def wsL_addFact : List Cond := .codeWith yL_addFact cL_addFact 4 (some .int) [(0, 9, 12, 13), (0, 9, 15, 15)] :: ([.classLink RL 13 "java/lang/IndexOutOfBoundsException", .classLink RL 15 "java/lang/IllegalStateException", .methodLink RL 7 yX3_addFact, .instanceMethod yX3_addFact, .selects RX3 yX3_addFact yX3_addFact, .initialized RX3, .code yX3_addFact cX3_addFact 3 (some .int), .classLink RX3 48 "java/lang/IllegalStateException", .initialized "java/lang/IllegalStateException", .fieldLink RX3 10 "Quarrelboard" "book" "LQuarrelboard$FactBook;", .methodLink RX3 40 yX3_checkSource, .instanceMethod yX3_checkSource, .selects RX3 yX3_checkSource yX3_checkSource, .code yX3_checkSource cX3_checkSource 2 none, .classLink RX3 147 "java/lang/IndexOutOfBoundsException", .initialized "java/lang/IndexOutOfBoundsException", .methodLink RX3 44 yX1_add, .instanceMethod yX1_add, .selects RX1 yX1_add yX1_add, .initialized RX1, .code yX1_add cX1_add 3 (some .int), .fieldLink RX1 15 "Quarrelboard$FactBook" "count" "I", .fieldLink RX1 9 "Quarrelboard$FactBook" "sources" "[I"] ++ wsX30 ++ wsX10 ++ (vx_atS RX3 52 "java/lang/IllegalStateException" ["java/lang/RuntimeException", "java/lang/Exception"]).filter goodWord ++ (vx_atS RX3 151 "java/lang/IndexOutOfBoundsException" ["java/lang/RuntimeException", "java/lang/Exception"]).filter goodWord)
def wsL_toggleSource : List Cond := .codeWith yL_toggleSource cL_toggleSource 4 (some .int) [(0, 16, 19, 13)] :: ([.classLink RL 13 "java/lang/IndexOutOfBoundsException", .methodLink RL 17 yX3_toggleSource, .instanceMethod yX3_toggleSource, .selects RX3 yX3_toggleSource yX3_toggleSource, .initialized RX3, .code yX3_toggleSource cX3_toggleSource 2 (some .boolean), .fieldLink RX3 10 "Quarrelboard" "book" "LQuarrelboard$FactBook;", .methodLink RX3 40 yX3_checkSource, .instanceMethod yX3_checkSource, .selects RX3 yX3_checkSource yX3_checkSource, .code yX3_checkSource cX3_checkSource 2 none, .classLink RX3 147 "java/lang/IndexOutOfBoundsException", .initialized "java/lang/IndexOutOfBoundsException", .methodLink RX3 55 yX1_flipSource, .instanceMethod yX1_flipSource, .selects RX1 yX1_flipSource yX1_flipSource, .initialized RX1, .code yX1_flipSource cX1_flipSource 2 (some .boolean), .fieldLink RX1 22 "Quarrelboard$FactBook" "fallenSources" "I", .static yX3_contains, .code yX3_contains cX3_contains 2 (some .boolean)] ++ wsX30 ++ wsX10 ++ (vx_atS RX3 151 "java/lang/IndexOutOfBoundsException" ["java/lang/RuntimeException", "java/lang/Exception"]).filter goodWord)
def wsL_withdraw_r1 : List Cond := [Cond.classLink RL 13 "java/lang/IndexOutOfBoundsException", Cond.methodLink RL 21 yX3_withdraw, Cond.instanceMethod yX3_withdraw, Cond.selects RX3 yX3_withdraw yX3_withdraw, Cond.initialized RX3, Cond.code yX3_withdraw cX3_withdraw 2 (some .boolean), Cond.fieldLink RX3 10 "Quarrelboard" "book" "LQuarrelboard$FactBook;", Cond.methodLink RX3 59 yX3_checkFact, Cond.instanceMethod yX3_checkFact, Cond.selects RX3 yX3_checkFact yX3_checkFact, Cond.code yX3_checkFact cX3_checkFact 2 none, Cond.classLink RX3 147 "java/lang/IndexOutOfBoundsException", Cond.initialized "java/lang/IndexOutOfBoundsException", Cond.methodLink RX3 73 yX1_size, Cond.instanceMethod yX1_size, Cond.selects RX1 yX1_size yX1_size, Cond.initialized RX1, Cond.code yX1_size cX1_size 1 (some .int), Cond.fieldLink RX1 15 "Quarrelboard$FactBook" "count" "I", Cond.methodLink RX3 62 yX1_takeBack, Cond.instanceMethod yX1_takeBack, Cond.selects RX1 yX1_takeBack yX1_takeBack, Cond.code yX1_takeBack cX1_takeBack 3 (some .boolean), Cond.fieldLink RX1 19 "Quarrelboard$FactBook" "withdrawn" "I"]
def wsL_withdraw_r2 : List Cond := [Cond.static yX3_contains, Cond.code yX3_contains cX3_contains 2 (some .boolean)]
def wsL_withdraw : List Cond := .codeWith yL_withdraw cL_withdraw 4 (some .int) [(0, 16, 19, 13)] :: ((wsL_withdraw_r1 ++ wsL_withdraw_r2) ++ wsX30 ++ wsX10 ++ (vx_atS RX3 151 "java/lang/IndexOutOfBoundsException" ["java/lang/RuntimeException", "java/lang/Exception"]).filter goodWord)
def wsL_factStands_r1 : List Cond := [Cond.classLink RL 13 "java/lang/IndexOutOfBoundsException", Cond.methodLink RL 24 yX3_factStands, Cond.instanceMethod yX3_factStands, Cond.selects RX3 yX3_factStands yX3_factStands, Cond.initialized RX3, Cond.code yX3_factStands cX3_factStands 2 (some .boolean), Cond.fieldLink RX3 10 "Quarrelboard" "book" "LQuarrelboard$FactBook;", Cond.methodLink RX3 59 yX3_checkFact, Cond.instanceMethod yX3_checkFact, Cond.selects RX3 yX3_checkFact yX3_checkFact, Cond.code yX3_checkFact cX3_checkFact 2 none, Cond.classLink RX3 147 "java/lang/IndexOutOfBoundsException", Cond.initialized "java/lang/IndexOutOfBoundsException", Cond.methodLink RX3 73 yX1_size, Cond.instanceMethod yX1_size, Cond.selects RX1 yX1_size yX1_size, Cond.initialized RX1, Cond.code yX1_size cX1_size 1 (some .int), Cond.fieldLink RX1 15 "Quarrelboard$FactBook" "count" "I", Cond.methodLink RX3 65 yX1_standing, Cond.instanceMethod yX1_standing, Cond.selects RX1 yX1_standing yX1_standing, Cond.code yX1_standing cX1_standing 3 (some .int), Cond.fieldLink RX1 19 "Quarrelboard$FactBook" "withdrawn" "I"]
def wsL_factStands_r2 : List Cond := [Cond.fieldLink RX1 22 "Quarrelboard$FactBook" "fallenSources" "I", Cond.fieldLink RX1 9 "Quarrelboard$FactBook" "sources" "[I", Cond.static yX3_contains, Cond.code yX3_contains cX3_contains 2 (some .boolean), Cond.methodLink RX3 69 yX3_contains]
def wsL_factStands : List Cond := .codeWith yL_factStands cL_factStands 4 (some .int) [(0, 16, 19, 13)] :: ((wsL_factStands_r1 ++ wsL_factStands_r2) ++ wsX30 ++ wsX10 ++ (vx_atS RX3 151 "java/lang/IndexOutOfBoundsException" ["java/lang/RuntimeException", "java/lang/Exception"]).filter goodWord)
def wsL_claim_r1 : List Cond := [Cond.classLink RL 31 "java/lang/IllegalArgumentException", Cond.classLink RL 15 "java/lang/IllegalStateException", Cond.methodLink RL 27 yX3_claim, Cond.instanceMethod yX3_claim, Cond.selects RX3 yX3_claim yX3_claim, Cond.initialized RX3, Cond.code yX3_claim cX3_claim 4 (some .int), Cond.classLink RX3 79 "java/lang/IllegalArgumentException", Cond.initialized "java/lang/IllegalArgumentException", Cond.classLink RX3 48 "java/lang/IllegalStateException", Cond.initialized "java/lang/IllegalStateException", Cond.fieldLink RX3 10 "Quarrelboard" "book" "LQuarrelboard$FactBook;", Cond.fieldLink RX3 19 "Quarrelboard" "debate" "LQuarrelboard$Debate;", Cond.methodLink RX3 76 yX1_hasAll, Cond.instanceMethod yX1_hasAll, Cond.selects RX1 yX1_hasAll yX1_hasAll, Cond.initialized RX1, Cond.code yX1_hasAll cX1_hasAll 2 (some .boolean), Cond.fieldLink RX1 15 "Quarrelboard$FactBook" "count" "I", Cond.methodLink RX3 86 yX0_add, Cond.instanceMethod yX0_add, Cond.selects RX0 yX0_add yX0_add, Cond.initialized RX0, Cond.code yX0_add cX0_add 4 (some .int)]
def wsL_claim_r2 : List Cond := [Cond.fieldLink RX0 33 "Quarrelboard$Debate" "count" "I", Cond.fieldLink RX0 24 "Quarrelboard$Debate" "banks" "[I", Cond.fieldLink RX0 37 "Quarrelboard$Debate" "speaker" "I", Cond.fieldLink RX0 9 "Quarrelboard$Debate" "owners" "[I", Cond.fieldLink RX0 15 "Quarrelboard$Debate" "groundFacts" "[I", Cond.fieldLink RX0 18 "Quarrelboard$Debate" "groundClaims" "[I", Cond.fieldLink RX0 21 "Quarrelboard$Debate" "attackers" "[I", Cond.methodLink RX0 40 yX0_passTurn, Cond.instanceMethod yX0_passTurn, Cond.selects RX0 yX0_passTurn yX0_passTurn, Cond.code yX0_passTurn cX0_passTurn 1 none]
def wsL_claim : List Cond := .codeWith yL_claim cL_claim 5 (some .int) [(0, 10, 13, 31), (0, 10, 17, 15)] :: ((wsL_claim_r1 ++ wsL_claim_r2) ++ wsX30 ++ wsX10 ++ wsX00 ++ (vx_atS RX3 83 "java/lang/IllegalArgumentException" ["java/lang/RuntimeException", "java/lang/Exception"]).filter goodWord ++ (vx_atS RX3 52 "java/lang/IllegalStateException" ["java/lang/RuntimeException", "java/lang/Exception"]).filter goodWord)
def wsL_rest_r1 : List Cond := [Cond.classLink RL 13 "java/lang/IndexOutOfBoundsException", Cond.classLink RL 31 "java/lang/IllegalArgumentException", Cond.methodLink RL 33 yX3_rest, Cond.instanceMethod yX3_rest, Cond.selects RX3 yX3_rest yX3_rest, Cond.initialized RX3, Cond.code yX3_rest cX3_rest 3 (some .boolean), Cond.fieldLink RX3 19 "Quarrelboard" "debate" "LQuarrelboard$Debate;", Cond.methodLink RX3 97 yX3_checkTwoClaims, Cond.instanceMethod yX3_checkTwoClaims, Cond.selects RX3 yX3_checkTwoClaims yX3_checkTwoClaims, Cond.code yX3_checkTwoClaims cX3_checkTwoClaims 3 none, Cond.classLink RX3 79 "java/lang/IllegalArgumentException", Cond.initialized "java/lang/IllegalArgumentException", Cond.methodLink RX3 108 yX3_checkClaim, Cond.instanceMethod yX3_checkClaim, Cond.selects RX3 yX3_checkClaim yX3_checkClaim, Cond.code yX3_checkClaim cX3_checkClaim 2 none, Cond.classLink RX3 147 "java/lang/IndexOutOfBoundsException", Cond.initialized "java/lang/IndexOutOfBoundsException", Cond.methodLink RX3 107 yX0_size, Cond.instanceMethod yX0_size, Cond.selects RX0 yX0_size yX0_size, Cond.initialized RX0]
def wsL_rest_r2 : List Cond := [Cond.code yX0_size cX0_size 1 (some .int), Cond.fieldLink RX0 33 "Quarrelboard$Debate" "count" "I", Cond.methodLink RX3 101 yX0_flipRest, Cond.instanceMethod yX0_flipRest, Cond.selects RX0 yX0_flipRest yX0_flipRest, Cond.code yX0_flipRest cX0_flipRest 3 (some .boolean), Cond.fieldLink RX0 18 "Quarrelboard$Debate" "groundClaims" "[I", Cond.static yX3_contains, Cond.code yX3_contains cX3_contains 2 (some .boolean)]
def wsL_rest : List Cond := .codeWith yL_rest cL_rest 5 (some .int) [(0, 17, 20, 13), (0, 17, 24, 31)] :: ((wsL_rest_r1 ++ wsL_rest_r2) ++ wsX30 ++ wsX00 ++ (vx_atS RX3 83 "java/lang/IllegalArgumentException" ["java/lang/RuntimeException", "java/lang/Exception"]).filter goodWord ++ (vx_atS RX3 151 "java/lang/IndexOutOfBoundsException" ["java/lang/RuntimeException", "java/lang/Exception"]).filter goodWord)
def wsL_attack_r1 : List Cond := [Cond.classLink RL 13 "java/lang/IndexOutOfBoundsException", Cond.classLink RL 31 "java/lang/IllegalArgumentException", Cond.methodLink RL 37 yX3_attack, Cond.instanceMethod yX3_attack, Cond.selects RX3 yX3_attack yX3_attack, Cond.initialized RX3, Cond.code yX3_attack cX3_attack 3 (some .boolean), Cond.fieldLink RX3 19 "Quarrelboard" "debate" "LQuarrelboard$Debate;", Cond.methodLink RX3 97 yX3_checkTwoClaims, Cond.instanceMethod yX3_checkTwoClaims, Cond.selects RX3 yX3_checkTwoClaims yX3_checkTwoClaims, Cond.code yX3_checkTwoClaims cX3_checkTwoClaims 3 none, Cond.classLink RX3 79 "java/lang/IllegalArgumentException", Cond.initialized "java/lang/IllegalArgumentException", Cond.methodLink RX3 108 yX3_checkClaim, Cond.instanceMethod yX3_checkClaim, Cond.selects RX3 yX3_checkClaim yX3_checkClaim, Cond.code yX3_checkClaim cX3_checkClaim 2 none, Cond.classLink RX3 147 "java/lang/IndexOutOfBoundsException", Cond.initialized "java/lang/IndexOutOfBoundsException", Cond.methodLink RX3 107 yX0_size, Cond.instanceMethod yX0_size, Cond.selects RX0 yX0_size yX0_size, Cond.initialized RX0]
def wsL_attack_r2 : List Cond := [Cond.code yX0_size cX0_size 1 (some .int), Cond.fieldLink RX0 33 "Quarrelboard$Debate" "count" "I", Cond.methodLink RX3 104 yX0_flipAttack, Cond.instanceMethod yX0_flipAttack, Cond.selects RX0 yX0_flipAttack yX0_flipAttack, Cond.code yX0_flipAttack cX0_flipAttack 3 (some .boolean), Cond.fieldLink RX0 21 "Quarrelboard$Debate" "attackers" "[I", Cond.static yX3_contains, Cond.code yX3_contains cX3_contains 2 (some .boolean)]
def wsL_attack : List Cond := .codeWith yL_attack cL_attack 5 (some .int) [(0, 17, 20, 13), (0, 17, 24, 31)] :: ((wsL_attack_r1 ++ wsL_attack_r2) ++ wsX30 ++ wsX00 ++ (vx_atS RX3 83 "java/lang/IllegalArgumentException" ["java/lang/RuntimeException", "java/lang/Exception"]).filter goodWord ++ (vx_atS RX3 151 "java/lang/IndexOutOfBoundsException" ["java/lang/RuntimeException", "java/lang/Exception"]).filter goodWord)
def wsL_playerOf : List Cond := .codeWith yL_playerOf cL_playerOf 4 (some .int) [(0, 9, 12, 13)] :: ([.classLink RL 13 "java/lang/IndexOutOfBoundsException", .methodLink RL 40 yX3_playerOf, .instanceMethod yX3_playerOf, .selects RX3 yX3_playerOf yX3_playerOf, .initialized RX3, .code yX3_playerOf cX3_playerOf 2 (some .int), .fieldLink RX3 19 "Quarrelboard" "debate" "LQuarrelboard$Debate;", .methodLink RX3 108 yX3_checkClaim, .instanceMethod yX3_checkClaim, .selects RX3 yX3_checkClaim yX3_checkClaim, .code yX3_checkClaim cX3_checkClaim 2 none, .classLink RX3 147 "java/lang/IndexOutOfBoundsException", .initialized "java/lang/IndexOutOfBoundsException", .methodLink RX3 107 yX0_size, .instanceMethod yX0_size, .selects RX0 yX0_size yX0_size, .initialized RX0, .code yX0_size cX0_size 1 (some .int), .fieldLink RX0 33 "Quarrelboard$Debate" "count" "I", .methodLink RX3 111 yX0_ownerOf, .instanceMethod yX0_ownerOf, .selects RX0 yX0_ownerOf yX0_ownerOf, .code yX0_ownerOf cX0_ownerOf 2 (some .int), .fieldLink RX0 9 "Quarrelboard$Debate" "owners" "[I"] ++ wsX30 ++ wsX00 ++ (vx_atS RX3 151 "java/lang/IndexOutOfBoundsException" ["java/lang/RuntimeException", "java/lang/Exception"]).filter goodWord)
def wsL_bank : List Cond := .codeWith yL_bank cL_bank 4 (some .int) [(0, 9, 12, 13)] :: ([.classLink RL 13 "java/lang/IndexOutOfBoundsException", .methodLink RL 43 yX3_bank, .instanceMethod yX3_bank, .selects RX3 yX3_bank yX3_bank, .initialized RX3, .code yX3_bank cX3_bank 2 (some .int), .fieldLink RX3 19 "Quarrelboard" "debate" "LQuarrelboard$Debate;", .methodLink RX3 114 yX3_checkPlayer, .instanceMethod yX3_checkPlayer, .selects RX3 yX3_checkPlayer yX3_checkPlayer, .code yX3_checkPlayer cX3_checkPlayer 2 none, .classLink RX3 147 "java/lang/IndexOutOfBoundsException", .initialized "java/lang/IndexOutOfBoundsException", .methodLink RX3 117 yX0_secondsLeft, .instanceMethod yX0_secondsLeft, .selects RX0 yX0_secondsLeft yX0_secondsLeft, .initialized RX0, .code yX0_secondsLeft cX0_secondsLeft 2 (some .int), .fieldLink RX0 24 "Quarrelboard$Debate" "banks" "[I"] ++ wsX30 ++ wsX00 ++ (vx_atS RX3 151 "java/lang/IndexOutOfBoundsException" ["java/lang/RuntimeException", "java/lang/Exception"]).filter goodWord)
def wsL_stateOf_r1 : List Cond := [Cond.classLink RL 13 "java/lang/IndexOutOfBoundsException", Cond.methodLink RL 46 yX3_stateOf, Cond.instanceMethod yX3_stateOf, Cond.selects RX3 yX3_stateOf yX3_stateOf, Cond.initialized RX3, Cond.code yX3_stateOf cX3_stateOf 2 (some .int), Cond.fieldLink RX3 28 "Quarrelboard" "judge" "LQuarrelboard$Judge;", Cond.fieldLink RX3 10 "Quarrelboard" "book" "LQuarrelboard$FactBook;", Cond.methodLink RX3 108 yX3_checkClaim, Cond.instanceMethod yX3_checkClaim, Cond.selects RX3 yX3_checkClaim yX3_checkClaim, Cond.code yX3_checkClaim cX3_checkClaim 2 none, Cond.classLink RX3 147 "java/lang/IndexOutOfBoundsException", Cond.initialized "java/lang/IndexOutOfBoundsException", Cond.fieldLink RX3 19 "Quarrelboard" "debate" "LQuarrelboard$Debate;", Cond.methodLink RX3 107 yX0_size, Cond.instanceMethod yX0_size, Cond.selects RX0 yX0_size yX0_size, Cond.initialized RX0, Cond.code yX0_size cX0_size 1 (some .int), Cond.fieldLink RX0 33 "Quarrelboard$Debate" "count" "I", Cond.methodLink RX3 65 yX1_standing, Cond.instanceMethod yX1_standing, Cond.selects RX1 yX1_standing yX1_standing]
def wsL_stateOf_r2 : List Cond := [Cond.initialized RX1, Cond.code yX1_standing cX1_standing 3 (some .int), Cond.fieldLink RX1 15 "Quarrelboard$FactBook" "count" "I", Cond.fieldLink RX1 19 "Quarrelboard$FactBook" "withdrawn" "I", Cond.fieldLink RX1 22 "Quarrelboard$FactBook" "fallenSources" "I", Cond.fieldLink RX1 9 "Quarrelboard$FactBook" "sources" "[I", Cond.static yX3_contains, Cond.code yX3_contains cX3_contains 2 (some .boolean), Cond.methodLink RX3 120 yX2_decideByGoingOn, Cond.instanceMethod yX2_decideByGoingOn, Cond.selects RX2 yX2_decideByGoingOn yX2_decideByGoingOn, Cond.initialized RX2, Cond.code yX2_decideByGoingOn cX2_decideByGoingOn 3 none, Cond.fieldLink RX2 9 "Quarrelboard$Judge" "debate" "LQuarrelboard$Debate;", Cond.fieldLink RX2 19 "Quarrelboard$Judge" "queued" "I", Cond.fieldLink RX2 15 "Quarrelboard$Judge" "queue" "[I", Cond.methodLink RX2 36 yX2_openAll, Cond.instanceMethod yX2_openAll, Cond.selects RX2 yX2_openAll yX2_openAll, Cond.code yX2_openAll cX2_openAll 2 none, Cond.fieldLink RX2 23 "Quarrelboard$Judge" "standingFacts" "I", Cond.fieldLink RX2 26 "Quarrelboard$Judge" "claimsIn" "I", Cond.fieldLink RX2 29 "Quarrelboard$Judge" "claimsOut" "I", Cond.methodLink RX2 40 yX0_size]
def wsL_stateOf_r3 : List Cond := [Cond.methodLink RX2 46 yX2_decideAndQueue, Cond.instanceMethod yX2_decideAndQueue, Cond.selects RX2 yX2_decideAndQueue yX2_decideAndQueue, Cond.code yX2_decideAndQueue cX2_decideAndQueue 2 none, Cond.methodLink RX2 52 yX2_decide, Cond.instanceMethod yX2_decide, Cond.selects RX2 yX2_decide yX2_decide, Cond.code yX2_decide cX2_decide 2 (some .boolean), Cond.methodLink RX2 59 yX0_fails, Cond.instanceMethod yX0_fails, Cond.selects RX0 yX0_fails yX0_fails, Cond.code yX0_fails cX0_fails 5 (some .boolean), Cond.fieldLink RX0 15 "Quarrelboard$Debate" "groundFacts" "[I", Cond.fieldLink RX0 18 "Quarrelboard$Debate" "groundClaims" "[I", Cond.fieldLink RX0 21 "Quarrelboard$Debate" "attackers" "[I", Cond.methodLink RX2 63 yX0_holds, Cond.instanceMethod yX0_holds, Cond.selects RX0 yX0_holds yX0_holds, Cond.code yX0_holds cX0_holds 5 (some .boolean), Cond.methodLink RX2 49 yX2_goOnFrom, Cond.instanceMethod yX2_goOnFrom, Cond.selects RX2 yX2_goOnFrom yX2_goOnFrom, Cond.code yX2_goOnFrom cX2_goOnFrom 3 none, Cond.methodLink RX2 56 yX0_matters]
def wsL_stateOf_r4 : List Cond := [Cond.instanceMethod yX0_matters, Cond.selects RX0 yX0_matters yX0_matters, Cond.code yX0_matters cX0_matters 3 (some .boolean), Cond.methodLink RX3 123 yX2_decisionOn, Cond.instanceMethod yX2_decisionOn, Cond.selects RX2 yX2_decisionOn yX2_decisionOn, Cond.code yX2_decisionOn cX2_decisionOn 2 (some .int)]
def wsL_stateOf : List Cond := .codeWith yL_stateOf cL_stateOf 4 (some .int) [(0, 9, 12, 13)] :: ((wsL_stateOf_r1 ++ (wsL_stateOf_r2 ++ (wsL_stateOf_r3 ++ wsL_stateOf_r4))) ++ wsX30 ++ wsX00 ++ wsX10 ++ wsX20 ++ (vx_atS RX3 151 "java/lang/IndexOutOfBoundsException" ["java/lang/RuntimeException", "java/lang/Exception"]).filter goodWord)
def wsL_stateByRounds_r1 : List Cond := [Cond.classLink RL 13 "java/lang/IndexOutOfBoundsException", Cond.methodLink RL 49 yX3_stateByRounds, Cond.instanceMethod yX3_stateByRounds, Cond.selects RX3 yX3_stateByRounds yX3_stateByRounds, Cond.initialized RX3, Cond.code yX3_stateByRounds cX3_stateByRounds 2 (some .int), Cond.fieldLink RX3 28 "Quarrelboard" "judge" "LQuarrelboard$Judge;", Cond.fieldLink RX3 10 "Quarrelboard" "book" "LQuarrelboard$FactBook;", Cond.methodLink RX3 108 yX3_checkClaim, Cond.instanceMethod yX3_checkClaim, Cond.selects RX3 yX3_checkClaim yX3_checkClaim, Cond.code yX3_checkClaim cX3_checkClaim 2 none, Cond.classLink RX3 147 "java/lang/IndexOutOfBoundsException", Cond.initialized "java/lang/IndexOutOfBoundsException", Cond.fieldLink RX3 19 "Quarrelboard" "debate" "LQuarrelboard$Debate;", Cond.methodLink RX3 107 yX0_size, Cond.instanceMethod yX0_size, Cond.selects RX0 yX0_size yX0_size, Cond.initialized RX0, Cond.code yX0_size cX0_size 1 (some .int), Cond.fieldLink RX0 33 "Quarrelboard$Debate" "count" "I", Cond.methodLink RX3 65 yX1_standing, Cond.instanceMethod yX1_standing, Cond.selects RX1 yX1_standing yX1_standing]
def wsL_stateByRounds_r2 : List Cond := [Cond.initialized RX1, Cond.code yX1_standing cX1_standing 3 (some .int), Cond.fieldLink RX1 15 "Quarrelboard$FactBook" "count" "I", Cond.fieldLink RX1 19 "Quarrelboard$FactBook" "withdrawn" "I", Cond.fieldLink RX1 22 "Quarrelboard$FactBook" "fallenSources" "I", Cond.fieldLink RX1 9 "Quarrelboard$FactBook" "sources" "[I", Cond.static yX3_contains, Cond.code yX3_contains cX3_contains 2 (some .boolean), Cond.methodLink RX3 126 yX2_decideInRounds, Cond.instanceMethod yX2_decideInRounds, Cond.selects RX2 yX2_decideInRounds yX2_decideInRounds, Cond.initialized RX2, Cond.code yX2_decideInRounds cX2_decideInRounds 5 none, Cond.fieldLink RX2 9 "Quarrelboard$Judge" "debate" "LQuarrelboard$Debate;", Cond.methodLink RX2 36 yX2_openAll, Cond.instanceMethod yX2_openAll, Cond.selects RX2 yX2_openAll yX2_openAll, Cond.code yX2_openAll cX2_openAll 2 none, Cond.fieldLink RX2 19 "Quarrelboard$Judge" "queued" "I", Cond.fieldLink RX2 23 "Quarrelboard$Judge" "standingFacts" "I", Cond.fieldLink RX2 26 "Quarrelboard$Judge" "claimsIn" "I", Cond.fieldLink RX2 29 "Quarrelboard$Judge" "claimsOut" "I", Cond.methodLink RX2 40 yX0_size, Cond.methodLink RX2 52 yX2_decide]
def wsL_stateByRounds_r3 : List Cond := [Cond.instanceMethod yX2_decide, Cond.selects RX2 yX2_decide yX2_decide, Cond.code yX2_decide cX2_decide 2 (some .boolean), Cond.methodLink RX2 59 yX0_fails, Cond.instanceMethod yX0_fails, Cond.selects RX0 yX0_fails yX0_fails, Cond.code yX0_fails cX0_fails 5 (some .boolean), Cond.fieldLink RX0 15 "Quarrelboard$Debate" "groundFacts" "[I", Cond.fieldLink RX0 18 "Quarrelboard$Debate" "groundClaims" "[I", Cond.fieldLink RX0 21 "Quarrelboard$Debate" "attackers" "[I", Cond.methodLink RX2 63 yX0_holds, Cond.instanceMethod yX0_holds, Cond.selects RX0 yX0_holds yX0_holds, Cond.code yX0_holds cX0_holds 5 (some .boolean), Cond.methodLink RX3 123 yX2_decisionOn, Cond.instanceMethod yX2_decisionOn, Cond.selects RX2 yX2_decisionOn yX2_decisionOn, Cond.code yX2_decisionOn cX2_decisionOn 2 (some .int)]
def wsL_stateByRounds : List Cond := .codeWith yL_stateByRounds cL_stateByRounds 4 (some .int) [(0, 9, 12, 13)] :: ((wsL_stateByRounds_r1 ++ (wsL_stateByRounds_r2 ++ wsL_stateByRounds_r3)) ++ wsX30 ++ wsX00 ++ wsX10 ++ wsX20 ++ (vx_atS RX3 151 "java/lang/IndexOutOfBoundsException" ["java/lang/RuntimeException", "java/lang/Exception"]).filter goodWord)
def wsL_score_r1 : List Cond := [Cond.classLink RL 13 "java/lang/IndexOutOfBoundsException", Cond.methodLink RL 52 yX3_score, Cond.instanceMethod yX3_score, Cond.selects RX3 yX3_score yX3_score, Cond.initialized RX3, Cond.code yX3_score cX3_score 2 (some .int), Cond.fieldLink RX3 10 "Quarrelboard" "book" "LQuarrelboard$FactBook;", Cond.methodLink RX3 114 yX3_checkPlayer, Cond.instanceMethod yX3_checkPlayer, Cond.selects RX3 yX3_checkPlayer yX3_checkPlayer, Cond.code yX3_checkPlayer cX3_checkPlayer 2 none, Cond.classLink RX3 147 "java/lang/IndexOutOfBoundsException", Cond.initialized "java/lang/IndexOutOfBoundsException", Cond.methodLink RX3 65 yX1_standing, Cond.instanceMethod yX1_standing, Cond.selects RX1 yX1_standing yX1_standing, Cond.initialized RX1, Cond.code yX1_standing cX1_standing 3 (some .int), Cond.fieldLink RX1 15 "Quarrelboard$FactBook" "count" "I", Cond.fieldLink RX1 19 "Quarrelboard$FactBook" "withdrawn" "I", Cond.fieldLink RX1 22 "Quarrelboard$FactBook" "fallenSources" "I", Cond.fieldLink RX1 9 "Quarrelboard$FactBook" "sources" "[I", Cond.static yX3_contains, Cond.code yX3_contains cX3_contains 2 (some .boolean)]
def wsL_score_r2 : List Cond := [Cond.methodLink RX3 129 yX3_scoreIf, Cond.instanceMethod yX3_scoreIf, Cond.selects RX3 yX3_scoreIf yX3_scoreIf, Cond.code yX3_scoreIf cX3_scoreIf 3 (some .int), Cond.fieldLink RX3 28 "Quarrelboard" "judge" "LQuarrelboard$Judge;", Cond.fieldLink RX3 19 "Quarrelboard" "debate" "LQuarrelboard$Debate;", Cond.methodLink RX3 120 yX2_decideByGoingOn, Cond.instanceMethod yX2_decideByGoingOn, Cond.selects RX2 yX2_decideByGoingOn yX2_decideByGoingOn, Cond.initialized RX2, Cond.code yX2_decideByGoingOn cX2_decideByGoingOn 3 none, Cond.fieldLink RX2 9 "Quarrelboard$Judge" "debate" "LQuarrelboard$Debate;", Cond.fieldLink RX2 19 "Quarrelboard$Judge" "queued" "I", Cond.fieldLink RX2 15 "Quarrelboard$Judge" "queue" "[I", Cond.methodLink RX2 36 yX2_openAll, Cond.instanceMethod yX2_openAll, Cond.selects RX2 yX2_openAll yX2_openAll, Cond.code yX2_openAll cX2_openAll 2 none, Cond.fieldLink RX2 23 "Quarrelboard$Judge" "standingFacts" "I", Cond.fieldLink RX2 26 "Quarrelboard$Judge" "claimsIn" "I", Cond.fieldLink RX2 29 "Quarrelboard$Judge" "claimsOut" "I", Cond.methodLink RX2 40 yX0_size, Cond.instanceMethod yX0_size, Cond.selects RX0 yX0_size yX0_size]
def wsL_score_r3 : List Cond := [Cond.initialized RX0, Cond.code yX0_size cX0_size 1 (some .int), Cond.fieldLink RX0 33 "Quarrelboard$Debate" "count" "I", Cond.methodLink RX2 46 yX2_decideAndQueue, Cond.instanceMethod yX2_decideAndQueue, Cond.selects RX2 yX2_decideAndQueue yX2_decideAndQueue, Cond.code yX2_decideAndQueue cX2_decideAndQueue 2 none, Cond.methodLink RX2 52 yX2_decide, Cond.instanceMethod yX2_decide, Cond.selects RX2 yX2_decide yX2_decide, Cond.code yX2_decide cX2_decide 2 (some .boolean), Cond.methodLink RX2 59 yX0_fails, Cond.instanceMethod yX0_fails, Cond.selects RX0 yX0_fails yX0_fails, Cond.code yX0_fails cX0_fails 5 (some .boolean), Cond.fieldLink RX0 15 "Quarrelboard$Debate" "groundFacts" "[I", Cond.fieldLink RX0 18 "Quarrelboard$Debate" "groundClaims" "[I", Cond.fieldLink RX0 21 "Quarrelboard$Debate" "attackers" "[I", Cond.methodLink RX2 63 yX0_holds, Cond.instanceMethod yX0_holds, Cond.selects RX0 yX0_holds yX0_holds, Cond.code yX0_holds cX0_holds 5 (some .boolean), Cond.methodLink RX2 49 yX2_goOnFrom, Cond.instanceMethod yX2_goOnFrom]
def wsL_score_r4 : List Cond := [Cond.selects RX2 yX2_goOnFrom yX2_goOnFrom, Cond.code yX2_goOnFrom cX2_goOnFrom 3 none, Cond.methodLink RX2 56 yX0_matters, Cond.instanceMethod yX0_matters, Cond.selects RX0 yX0_matters yX0_matters, Cond.code yX0_matters cX0_matters 3 (some .boolean), Cond.methodLink RX3 135 yX2_claimsIn, Cond.instanceMethod yX2_claimsIn, Cond.selects RX2 yX2_claimsIn yX2_claimsIn, Cond.code yX2_claimsIn cX2_claimsIn 1 (some .int), Cond.methodLink RX3 138 yX0_countOf, Cond.instanceMethod yX0_countOf, Cond.selects RX0 yX0_countOf yX0_countOf, Cond.code yX0_countOf cX0_countOf 5 (some .int), Cond.fieldLink RX0 9 "Quarrelboard$Debate" "owners" "[I"]
def wsL_score : List Cond := .codeWith yL_score cL_score 4 (some .int) [(0, 9, 12, 13)] :: ((wsL_score_r1 ++ (wsL_score_r2 ++ (wsL_score_r3 ++ wsL_score_r4))) ++ wsX30 ++ wsX10 ++ wsX20 ++ wsX00 ++ (vx_atS RX3 151 "java/lang/IndexOutOfBoundsException" ["java/lang/RuntimeException", "java/lang/Exception"]).filter goodWord)
def wsL_scoreWithout_r1 : List Cond := [Cond.classLink RL 13 "java/lang/IndexOutOfBoundsException", Cond.methodLink RL 55 yX3_scoreWithout, Cond.instanceMethod yX3_scoreWithout, Cond.selects RX3 yX3_scoreWithout yX3_scoreWithout, Cond.initialized RX3, Cond.code yX3_scoreWithout cX3_scoreWithout 3 (some .int), Cond.fieldLink RX3 10 "Quarrelboard" "book" "LQuarrelboard$FactBook;", Cond.methodLink RX3 114 yX3_checkPlayer, Cond.instanceMethod yX3_checkPlayer, Cond.selects RX3 yX3_checkPlayer yX3_checkPlayer, Cond.code yX3_checkPlayer cX3_checkPlayer 2 none, Cond.classLink RX3 147 "java/lang/IndexOutOfBoundsException", Cond.initialized "java/lang/IndexOutOfBoundsException", Cond.methodLink RX3 59 yX3_checkFact, Cond.instanceMethod yX3_checkFact, Cond.selects RX3 yX3_checkFact yX3_checkFact, Cond.code yX3_checkFact cX3_checkFact 2 none, Cond.methodLink RX3 73 yX1_size, Cond.instanceMethod yX1_size, Cond.selects RX1 yX1_size yX1_size, Cond.initialized RX1, Cond.code yX1_size cX1_size 1 (some .int), Cond.fieldLink RX1 15 "Quarrelboard$FactBook" "count" "I", Cond.methodLink RX3 65 yX1_standing]
def wsL_scoreWithout_r2 : List Cond := [Cond.instanceMethod yX1_standing, Cond.selects RX1 yX1_standing yX1_standing, Cond.code yX1_standing cX1_standing 3 (some .int), Cond.fieldLink RX1 19 "Quarrelboard$FactBook" "withdrawn" "I", Cond.fieldLink RX1 22 "Quarrelboard$FactBook" "fallenSources" "I", Cond.fieldLink RX1 9 "Quarrelboard$FactBook" "sources" "[I", Cond.static yX3_contains, Cond.code yX3_contains cX3_contains 2 (some .boolean), Cond.methodLink RX3 132 yX3_without, Cond.static yX3_without, Cond.code yX3_without cX3_without 2 (some .int), Cond.methodLink RX3 129 yX3_scoreIf, Cond.instanceMethod yX3_scoreIf, Cond.selects RX3 yX3_scoreIf yX3_scoreIf, Cond.code yX3_scoreIf cX3_scoreIf 3 (some .int), Cond.fieldLink RX3 28 "Quarrelboard" "judge" "LQuarrelboard$Judge;", Cond.fieldLink RX3 19 "Quarrelboard" "debate" "LQuarrelboard$Debate;", Cond.methodLink RX3 120 yX2_decideByGoingOn, Cond.instanceMethod yX2_decideByGoingOn, Cond.selects RX2 yX2_decideByGoingOn yX2_decideByGoingOn, Cond.initialized RX2, Cond.code yX2_decideByGoingOn cX2_decideByGoingOn 3 none, Cond.fieldLink RX2 9 "Quarrelboard$Judge" "debate" "LQuarrelboard$Debate;", Cond.fieldLink RX2 19 "Quarrelboard$Judge" "queued" "I"]
def wsL_scoreWithout_r3 : List Cond := [Cond.fieldLink RX2 15 "Quarrelboard$Judge" "queue" "[I", Cond.methodLink RX2 36 yX2_openAll, Cond.instanceMethod yX2_openAll, Cond.selects RX2 yX2_openAll yX2_openAll, Cond.code yX2_openAll cX2_openAll 2 none, Cond.fieldLink RX2 23 "Quarrelboard$Judge" "standingFacts" "I", Cond.fieldLink RX2 26 "Quarrelboard$Judge" "claimsIn" "I", Cond.fieldLink RX2 29 "Quarrelboard$Judge" "claimsOut" "I", Cond.methodLink RX2 40 yX0_size, Cond.instanceMethod yX0_size, Cond.selects RX0 yX0_size yX0_size, Cond.initialized RX0, Cond.code yX0_size cX0_size 1 (some .int), Cond.fieldLink RX0 33 "Quarrelboard$Debate" "count" "I", Cond.methodLink RX2 46 yX2_decideAndQueue, Cond.instanceMethod yX2_decideAndQueue, Cond.selects RX2 yX2_decideAndQueue yX2_decideAndQueue, Cond.code yX2_decideAndQueue cX2_decideAndQueue 2 none, Cond.methodLink RX2 52 yX2_decide, Cond.instanceMethod yX2_decide, Cond.selects RX2 yX2_decide yX2_decide, Cond.code yX2_decide cX2_decide 2 (some .boolean), Cond.methodLink RX2 59 yX0_fails, Cond.instanceMethod yX0_fails]
def wsL_scoreWithout_r4 : List Cond := [Cond.selects RX0 yX0_fails yX0_fails, Cond.code yX0_fails cX0_fails 5 (some .boolean), Cond.fieldLink RX0 15 "Quarrelboard$Debate" "groundFacts" "[I", Cond.fieldLink RX0 18 "Quarrelboard$Debate" "groundClaims" "[I", Cond.fieldLink RX0 21 "Quarrelboard$Debate" "attackers" "[I", Cond.methodLink RX2 63 yX0_holds, Cond.instanceMethod yX0_holds, Cond.selects RX0 yX0_holds yX0_holds, Cond.code yX0_holds cX0_holds 5 (some .boolean), Cond.methodLink RX2 49 yX2_goOnFrom, Cond.instanceMethod yX2_goOnFrom, Cond.selects RX2 yX2_goOnFrom yX2_goOnFrom, Cond.code yX2_goOnFrom cX2_goOnFrom 3 none, Cond.methodLink RX2 56 yX0_matters, Cond.instanceMethod yX0_matters, Cond.selects RX0 yX0_matters yX0_matters, Cond.code yX0_matters cX0_matters 3 (some .boolean), Cond.methodLink RX3 135 yX2_claimsIn, Cond.instanceMethod yX2_claimsIn, Cond.selects RX2 yX2_claimsIn yX2_claimsIn, Cond.code yX2_claimsIn cX2_claimsIn 1 (some .int), Cond.methodLink RX3 138 yX0_countOf, Cond.instanceMethod yX0_countOf, Cond.selects RX0 yX0_countOf yX0_countOf]
def wsL_scoreWithout_r5 : List Cond := [Cond.code yX0_countOf cX0_countOf 5 (some .int), Cond.fieldLink RX0 9 "Quarrelboard$Debate" "owners" "[I"]
def wsL_scoreWithout : List Cond := .codeWith yL_scoreWithout cL_scoreWithout 5 (some .int) [(0, 10, 13, 13)] :: ((wsL_scoreWithout_r1 ++ (wsL_scoreWithout_r2 ++ (wsL_scoreWithout_r3 ++ (wsL_scoreWithout_r4 ++ wsL_scoreWithout_r5)))) ++ wsX30 ++ wsX10 ++ wsX20 ++ wsX00 ++ (vx_atS RX3 151 "java/lang/IndexOutOfBoundsException" ["java/lang/RuntimeException", "java/lang/Exception"]).filter goodWord)
def wsL_keyFact_r1 : List Cond := [Cond.classLink RL 13 "java/lang/IndexOutOfBoundsException", Cond.methodLink RL 58 yX3_keyFact, Cond.instanceMethod yX3_keyFact, Cond.selects RX3 yX3_keyFact yX3_keyFact, Cond.initialized RX3, Cond.code yX3_keyFact cX3_keyFact 7 (some .int), Cond.fieldLink RX3 10 "Quarrelboard" "book" "LQuarrelboard$FactBook;", Cond.methodLink RX3 114 yX3_checkPlayer, Cond.instanceMethod yX3_checkPlayer, Cond.selects RX3 yX3_checkPlayer yX3_checkPlayer, Cond.code yX3_checkPlayer cX3_checkPlayer 2 none, Cond.classLink RX3 147 "java/lang/IndexOutOfBoundsException", Cond.initialized "java/lang/IndexOutOfBoundsException", Cond.methodLink RX3 65 yX1_standing, Cond.instanceMethod yX1_standing, Cond.selects RX1 yX1_standing yX1_standing, Cond.initialized RX1, Cond.code yX1_standing cX1_standing 3 (some .int), Cond.fieldLink RX1 15 "Quarrelboard$FactBook" "count" "I", Cond.fieldLink RX1 19 "Quarrelboard$FactBook" "withdrawn" "I", Cond.fieldLink RX1 22 "Quarrelboard$FactBook" "fallenSources" "I", Cond.fieldLink RX1 9 "Quarrelboard$FactBook" "sources" "[I", Cond.static yX3_contains, Cond.code yX3_contains cX3_contains 2 (some .boolean)]
def wsL_keyFact_r2 : List Cond := [Cond.methodLink RX3 69 yX3_contains, Cond.methodLink RX3 132 yX3_without, Cond.static yX3_without, Cond.code yX3_without cX3_without 2 (some .int), Cond.methodLink RX3 129 yX3_scoreIf, Cond.instanceMethod yX3_scoreIf, Cond.selects RX3 yX3_scoreIf yX3_scoreIf, Cond.code yX3_scoreIf cX3_scoreIf 3 (some .int), Cond.fieldLink RX3 28 "Quarrelboard" "judge" "LQuarrelboard$Judge;", Cond.fieldLink RX3 19 "Quarrelboard" "debate" "LQuarrelboard$Debate;", Cond.methodLink RX3 120 yX2_decideByGoingOn, Cond.instanceMethod yX2_decideByGoingOn, Cond.selects RX2 yX2_decideByGoingOn yX2_decideByGoingOn, Cond.initialized RX2, Cond.code yX2_decideByGoingOn cX2_decideByGoingOn 3 none, Cond.fieldLink RX2 9 "Quarrelboard$Judge" "debate" "LQuarrelboard$Debate;", Cond.fieldLink RX2 19 "Quarrelboard$Judge" "queued" "I", Cond.fieldLink RX2 15 "Quarrelboard$Judge" "queue" "[I", Cond.methodLink RX2 36 yX2_openAll, Cond.instanceMethod yX2_openAll, Cond.selects RX2 yX2_openAll yX2_openAll, Cond.code yX2_openAll cX2_openAll 2 none, Cond.fieldLink RX2 23 "Quarrelboard$Judge" "standingFacts" "I", Cond.fieldLink RX2 26 "Quarrelboard$Judge" "claimsIn" "I"]
def wsL_keyFact_r3 : List Cond := [Cond.fieldLink RX2 29 "Quarrelboard$Judge" "claimsOut" "I", Cond.methodLink RX2 40 yX0_size, Cond.instanceMethod yX0_size, Cond.selects RX0 yX0_size yX0_size, Cond.initialized RX0, Cond.code yX0_size cX0_size 1 (some .int), Cond.fieldLink RX0 33 "Quarrelboard$Debate" "count" "I", Cond.methodLink RX2 46 yX2_decideAndQueue, Cond.instanceMethod yX2_decideAndQueue, Cond.selects RX2 yX2_decideAndQueue yX2_decideAndQueue, Cond.code yX2_decideAndQueue cX2_decideAndQueue 2 none, Cond.methodLink RX2 52 yX2_decide, Cond.instanceMethod yX2_decide, Cond.selects RX2 yX2_decide yX2_decide, Cond.code yX2_decide cX2_decide 2 (some .boolean), Cond.methodLink RX2 59 yX0_fails, Cond.instanceMethod yX0_fails, Cond.selects RX0 yX0_fails yX0_fails, Cond.code yX0_fails cX0_fails 5 (some .boolean), Cond.fieldLink RX0 15 "Quarrelboard$Debate" "groundFacts" "[I", Cond.fieldLink RX0 18 "Quarrelboard$Debate" "groundClaims" "[I", Cond.fieldLink RX0 21 "Quarrelboard$Debate" "attackers" "[I", Cond.methodLink RX2 63 yX0_holds, Cond.instanceMethod yX0_holds]
def wsL_keyFact_r4 : List Cond := [Cond.selects RX0 yX0_holds yX0_holds, Cond.code yX0_holds cX0_holds 5 (some .boolean), Cond.methodLink RX2 49 yX2_goOnFrom, Cond.instanceMethod yX2_goOnFrom, Cond.selects RX2 yX2_goOnFrom yX2_goOnFrom, Cond.code yX2_goOnFrom cX2_goOnFrom 3 none, Cond.methodLink RX2 56 yX0_matters, Cond.instanceMethod yX0_matters, Cond.selects RX0 yX0_matters yX0_matters, Cond.code yX0_matters cX0_matters 3 (some .boolean), Cond.methodLink RX3 135 yX2_claimsIn, Cond.instanceMethod yX2_claimsIn, Cond.selects RX2 yX2_claimsIn yX2_claimsIn, Cond.code yX2_claimsIn cX2_claimsIn 1 (some .int), Cond.methodLink RX3 138 yX0_countOf, Cond.instanceMethod yX0_countOf, Cond.selects RX0 yX0_countOf yX0_countOf, Cond.code yX0_countOf cX0_countOf 5 (some .int), Cond.fieldLink RX0 9 "Quarrelboard$Debate" "owners" "[I"]
def wsL_keyFact : List Cond := .codeWith yL_keyFact cL_keyFact 4 (some .int) [(0, 9, 12, 13)] :: ((wsL_keyFact_r1 ++ (wsL_keyFact_r2 ++ (wsL_keyFact_r3 ++ wsL_keyFact_r4))) ++ wsX30 ++ wsX10 ++ wsX20 ++ wsX00 ++ (vx_atS RX3 151 "java/lang/IndexOutOfBoundsException" ["java/lang/RuntimeException", "java/lang/Exception"]).filter goodWord)
def wsL_reputation : List Cond := .codeWith yL_reputation cL_reputation 4 (some .int) [(0, 9, 12, 13)] :: ([.classLink RL 13 "java/lang/IndexOutOfBoundsException", .methodLink RL 61 yX3_reputation, .instanceMethod yX3_reputation, .selects RX3 yX3_reputation yX3_reputation, .initialized RX3, .code yX3_reputation cX3_reputation 2 (some .int), .fieldLink RX3 32 "Quarrelboard" "reputations" "[I", .methodLink RX3 114 yX3_checkPlayer, .instanceMethod yX3_checkPlayer, .selects RX3 yX3_checkPlayer yX3_checkPlayer, .code yX3_checkPlayer cX3_checkPlayer 2 none, .classLink RX3 147 "java/lang/IndexOutOfBoundsException", .initialized "java/lang/IndexOutOfBoundsException"] ++ wsX30 ++ (vx_atS RX3 151 "java/lang/IndexOutOfBoundsException" ["java/lang/RuntimeException", "java/lang/Exception"]).filter goodWord)
abbrev vwCl : List vw_C := [(RX0, TX0, 7), (RX1, TX1, 4), (RX2, TX2, 6), (RX3, TX3, 5), (RX4, TX4, 15)]
/-! ===== END printed: names ===== -/
end
section
/-! ===== Int32 by its bits: bt x i ===== -/
def bt (x : Int32) (i : Nat) : Bool := x.toBitVec.getLsbD i
theorem b_ext {x y : Int32} (h : ∀ i, i < 32 → bt x i = bt y i) : x = y := Int32.toBitVec_inj.mp (BitVec.eq_of_getLsbD_eq (fun i hi => h i hi))
theorem b_or (x y : Int32) (i : Nat) : bt (x ||| y) i = (bt x i || bt y i) := by unfold bt; rw [Int32.toBitVec_or, BitVec.getLsbD_or]
theorem b_and (x y : Int32) (i : Nat) : bt (x &&& y) i = (bt x i && bt y i) := by unfold bt; rw [Int32.toBitVec_and, BitVec.getLsbD_and]
theorem b_xor (x y : Int32) (i : Nat) : bt (x ^^^ y) i = (bt x i ^^ bt y i) := by unfold bt; rw [Int32.toBitVec_xor, BitVec.getLsbD_xor]
theorem b_big {x : Int32} {i : Nat} (h : 32 ≤ i) : bt x i = false := BitVec.getLsbD_of_ge _ _ h
theorem b_255 (i : Nat) : bt 255 i = decide (i < 8) := by
  rcases Nat.lt_or_ge i 32 with h | h
  · exact (by decide +kernel : ∀ i, i < 32 → bt 255 i = decide (i < 8)) i h
  · rw [b_big h, decide_eq_false (by omega)]
theorem b_65535 (i : Nat) : bt 65535 i = decide (i < 16) := by
  rcases Nat.lt_or_ge i 32 with h | h
  · exact (by decide +kernel : ∀ i, i < 32 → bt 65535 i = decide (i < 16)) i h
  · rw [b_big h, decide_eq_false (by omega)]
theorem b_m1 : ∀ i, i < 32 → bt (-1) i = true := by decide +kernel
theorem b_0 (i : Nat) : bt 0 i = false := BitVec.getLsbD_zero
theorem s_l : ∀ n, n < 32 → ((nI n &&& 31).toBitVec.smod 32).toNat = n := by decide +kernel
theorem s_u : ∀ n, n < 32 → (((nI n).toUInt32 &&& Int32.toUInt32 31).toBitVec % 32).toNat = n := by decide +kernel
theorem b_shl (n : Nat) (hn : n < 32) (x : Int32) {i : Nat} (hi : i < 32) : bt (x <<< (nI n &&& 31)) i = (decide (n ≤ i) && bt x (i - n)) := by
  unfold bt
  rw [Int32.toBitVec_shiftLeft]
  show (x.toBitVec <<< ((nI n &&& 31).toBitVec.smod 32).toNat).getLsbD i = _
  rw [s_l n hn, BitVec.getLsbD_shiftLeft]
  rcases Nat.lt_or_ge i n with h | h
  · simp [h, Nat.not_le.mpr h]
  · simp [hi, h, Nat.not_lt.mpr h]
theorem b_ushr (n : Nat) (hn : n < 32) (x : Int32) (i : Nat) : bt ((x.toUInt32 >>> ((nI n).toUInt32 &&& Int32.toUInt32 31)).toInt32) i = bt x (n + i) := by
  show (x.toUInt32 >>> ((nI n).toUInt32 &&& Int32.toUInt32 31)).toBitVec.getLsbD i = x.toUInt32.toBitVec.getLsbD (n + i)
  rw [UInt32.toBitVec_shiftRight]
  show (x.toUInt32.toBitVec >>> (((nI n).toUInt32 &&& Int32.toUInt32 31).toBitVec % 32).toNat).getLsbD i = _
  rw [s_u n hn, BitVec.getLsbD_ushiftRight]
theorem b_sshr (n : Nat) (hn : n < 32) (x : Int32) {i : Nat} (hi : i < 32) : bt (x >>> (nI n &&& 31)) i = if n + i < 32 then bt x (n + i) else bt x 31 := by
  unfold bt
  rw [Int32.toBitVec_shiftRight]
  show (x.toBitVec.sshiftRight ((nI n &&& 31).toBitVec.smod 32).toNat).getLsbD i = _
  rw [s_l n hn, BitVec.getLsbD_sshiftRight, BitVec.msb_eq_getLsbD_last]
  simp [hi]
theorem b_shl8 (x : Int32) {i : Nat} (hi : i < 32) : bt (x <<< ((8 : Int32) &&& 31)) i = (decide (8 ≤ i) && bt x (i - 8)) := b_shl 8 (by omega) x hi
theorem b_shl16 (x : Int32) {i : Nat} (hi : i < 32) : bt (x <<< ((16 : Int32) &&& 31)) i = (decide (16 ≤ i) && bt x (i - 16)) := b_shl 16 (by omega) x hi
theorem b_shl24 (x : Int32) {i : Nat} (hi : i < 32) : bt (x <<< ((24 : Int32) &&& 31)) i = (decide (24 ≤ i) && bt x (i - 24)) := b_shl 24 (by omega) x hi
theorem b_sshr8 (x : Int32) {i : Nat} (hi : i < 32) : bt (x >>> ((8 : Int32) &&& 31)) i = if 8 + i < 32 then bt x (8 + i) else bt x 31 := b_sshr 8 (by omega) x hi
theorem nf_sh : ∀ l, l < 32 → ((1 : Int32) <<< (nI l &&& 31)).toBitVec = BitVec.twoPow 32 l := by decide +kernel
/-! ===== ours: truth values as ints, one bit, rows of numbers ===== -/
def zI (b : Bool) : Int32 := if b then 1 else 0
theorem zI_f {b : Bool} (h : zI b = 0) : b = false := by cases b with | false => rfl | true => exact absurd h (by decide)
theorem zI_t {b : Bool} (h : ¬ zI b = 0) : b = true := by cases b with | true => rfl | false => exact absurd rfl h
theorem zI_nar (b : Bool) : narrow .boolean (.int (zI b)) = .int (zI b) := by cases b <;> rfl
theorem zI_vnar (b : Bool) : vp_nar .boolean (zI b) = zI b := by cases b <;> rfl
/-- the one bit j -/
def m1 (j : Nat) : Int32 := (1 : Int32) <<< (nI j &&& 31)
theorem bt_1 : ∀ i, i < 32 → bt 1 i = decide (i = 0) := by decide +kernel
theorem bt_m1 {j i : Nat} (hj : j < 32) (hi : i < 32) : bt (m1 j) i = decide (i = j) := by
  unfold m1
  rw [b_shl j hj 1 hi]
  by_cases h : j ≤ i
  · rw [bt_1 (i - j) (by omega)]
    simp only [h, decide_true, Bool.true_and]
    exact decide_eq_decide.mpr (by omega)
  · simp only [h, decide_false, Bool.false_and]
    exact (decide_eq_false (by omega)).symm
theorem bt_and0 {s : Int32} {j : Nat} (hj : j < 32) : (s &&& m1 j) = 0 ↔ bt s j = false := by
  constructor
  · intro h
    have h2 : bt (s &&& m1 j) j = bt 0 j := by rw [h]
    rw [b_and, bt_m1 hj hj, b_0] at h2
    simpa using h2
  · intro h
    refine b_ext fun i hi => ?_
    rw [b_and, bt_m1 hj hi, b_0]
    by_cases e : i = j
    · subst e; rw [h]; rfl
    · simp [e]
theorem bt_neg1 {i : Nat} (hi : i < 32) (x : Int32) : bt (x ^^^ (-1)) i = !bt x i := by rw [b_xor, b_m1 i hi]; cases bt x i <;> rfl
theorem bt_zero {x : Int32} : x = 0 ↔ ∀ i, i < 32 → bt x i = false := ⟨fun h i _ => by rw [h, b_0], fun h => b_ext fun i hi => by rw [h i hi, b_0]⟩
abbrev upN (f : Nat → Nat) (j x : Nat) : Nat → Nat := fun i => if i = j then x else f i
theorem upd_nI (f : Nat → Nat) (j x : Nat) : upd (fun i => nI (f i)) j (nI x) = fun i => nI (upN f j x i) := by
  funext i
  unfold upd
  show _ = nI (if i = j then x else f i)
  by_cases h : i = j
  · rw [if_pos h, if_pos h]
  · rw [if_neg h, if_neg h]
abbrev upB (f : Nat → Bool) (j : Nat) (x : Bool) : Nat → Bool := fun i => if i = j then x else f i
theorem upd_zI (f : Nat → Bool) (j : Nat) (x : Bool) : upd (fun i => zI (f i)) j (zI x) = fun i => zI (upB f j x i) := by
  funext i
  unfold upd
  show _ = zI (if i = j then x else f i)
  by_cases h : i = j
  · rw [if_pos h, if_pos h]
  · rw [if_neg h, if_neg h]
/-! ===== what the tables say for all methods; a method's start ===== -/
abbrev gE : Type := va_G × ClassId × ClassId × ClassId
def kS (E : gE) (U : State) : Prop := va_K E.1 vwCl [(E.2.1, .int), (E.2.2.1, .boolean), (E.2.2.2, .long)] U ∧ va_Nw (.methodLinkNest RX0 43 yX3_contains RX3) U ∧ va_Nw (.methodLinkNest RX1 25 yX3_contains RX3) U ∧ va_Nw (.methodLinkNest RX2 32 yX3_contains RX3) U
theorem kS.warm {E : gE} {s U : State} (hW : s.WarmedH U.vm) (h : kS E s) : kS E U := ⟨va_K.moved hW.alike h.1, va_Nw.warmM hW h.2.1, va_Nw.warmM hW h.2.2.1, va_Nw.warmM hW h.2.2.2⟩
theorem kS.calling {E : gE} {U : State} {g : JFrame} {mk : MethodId} {a : Array Value} (h : kS E U) : kS E (U.calling g mk a) := ⟨va_K.moved (u := U) (U := U.calling g mk a) (Vm.Alike.refl U.vm) h.1, va_Nw.same rfl rfl h.2.1, va_Nw.same rfl rfl h.2.2.1, va_Nw.same rfl rfl h.2.2.2⟩
def pR (E : gE) (W : va_W) (U : State) : Prop := va_P E.1 vwCl W U.heap ∧ kS E U
def pW (E : gE) (W : va_W) (sz : Nat) (U : State) : Prop := U.heap.size = sz ∧ va_P E.1 vwCl W U.heap ∧ kS E U ∧ va_D (fun _ => True) W
theorem pR_blind {av : List Value} {E : gE} {W : va_W} : FrameBlind (va_Pc av (pR E W)) := fun _ _ _ _ q => ⟨q.1, q.2.1, q.2.2.calling⟩
theorem pW_blind {av : List Value} {E : gE} {W : va_W} {sz : Nat} : FrameBlind (va_Pc av (pW E W sz)) := fun _ _ _ _ q => ⟨q.1, q.2.1, q.2.2.1, q.2.2.2.1.calling, q.2.2.2.2⟩
section OURS
variable {p : Program} {l : Launch} {e : Env} {R : Room} {s : State} {m : MethodId} {args : Array Value} {below : List Frame} {meth : Method} {c : Code} {H : Heap} {locs : List Loc} {cells slots : Nat} {Q : State → Prop}
variable {cc : ByteArray} {pc : Nat} {ls : Array Slot} {rest st0 : List Value} {E : gE} {A : Nat → Prop} {H0 : Heap} {ws : va_W} {a : Nat}
variable {y : MethodName} {bytes : ByteArray} {maxL nL mc ms n index : Nat} {ret : Option FieldType} {wsy : List Cond} {rm : Room} {Ts : List Cond} {own C host : String} {b : Addr} {As : List Value}
/-- rows at a number -/
theorem k_iald (hexec : p.tables.exec = Jvm.exec) (hb : c.code = cc) (hK : kS E s) (hP : va_P E.1 vwCl ws H) (q0 : Nat) {N : Nat} {f : Nat → Int32} (j : Nat) (ha : ws[q0]? = some (a, .inl (E.2.1, N, .inl f))) (hj : j < N) (hN : N < 2 ^ 31) (hdg : decode cc pc = .ok (.iaload, 1))
    (kk : W p l e R s m args below meth c H locs cells slots Q (F0 m (pc + 1) ls (.int (f j) :: rest))) : W p l e R s m args below meth c H locs cells slots Q (F0 m pc ls (.int (nI j) :: .ref a :: rest)) := by
  refine va_iald hexec hb hK.1 hP q0 0 ha rfl (vp_in_nI hj hN) hdg ?_
  rw [nI_clamp (by omega)]
  exact kk
theorem k_zald (hexec : p.tables.exec = Jvm.exec) (hb : c.code = cc) (hK : kS E s) (hP : va_P E.1 vwCl ws H) (q0 : Nat) {N : Nat} {f : Nat → Int32} (j : Nat) (ha : ws[q0]? = some (a, .inl (E.2.2.1, N, .inl f))) (hj : j < N) (hN : N < 2 ^ 31) (hdg : decode cc pc = .ok (.baload, 1))
    (kk : W p l e R s m args below meth c H locs cells slots Q (F0 m (pc + 1) ls (.int (f j) :: rest))) : W p l e R s m args below meth c H locs cells slots Q (F0 m pc ls (.int (nI j) :: .ref a :: rest)) := by
  refine va_zald hexec hb hK.1 hP q0 1 ha rfl (vp_in_nI hj hN) hdg ?_
  rw [nI_clamp (by omega)]
  exact kk
theorem k_iast (hexec : p.tables.exec = Jvm.exec) (hb : c.code = cc) (hK : kS E s) (hP : va_P E.1 vwCl ws H) (hD : va_D A ws) (hS : va_S A H0 H locs) (q0 : Nat) {N : Nat} {f : Nat → Int32} (j : Nat) {x : Int32} (ha : ws[q0]? = some (a, .inl (E.2.1, N, .inl f))) (hj : j < N) (hN : N < 2 ^ 31) (hdg : decode cc pc = .ok (.iastore, 1))
    (kk : ∀ (H1 : Heap) (locs1 : List Loc), va_P E.1 vwCl (ws.set q0 (a, .inl (E.2.1, N, .inl (upd f j x)))) H1 → va_D A (ws.set q0 (a, .inl (E.2.1, N, .inl (upd f j x)))) → va_S A H0 H1 locs1 → W p l e R s m args below meth c H1 locs1 cells slots Q (F0 m (pc + 1) ls rest)) : W p l e R s m args below meth c H locs cells slots Q (F0 m pc ls (.int x :: .int (nI j) :: .ref a :: rest)) := by
  refine va_iast hexec hb hK.1 hP hD hS q0 0 ha rfl (vp_in_nI hj hN) hdg ?_
  rw [nI_clamp (by omega)]
  exact kk
theorem k_iastN (hexec : p.tables.exec = Jvm.exec) (hb : c.code = cc) (hK : kS E s) (hP : va_P E.1 vwCl ws H) (hD : va_D A ws) (hS : va_S A H0 H locs) (q0 : Nat) {N : Nat} {f : Nat → Nat} (j x : Nat) (ha : ws[q0]? = some (a, .inl (E.2.1, N, .inl (fun i => nI (f i))))) (hj : j < N) (hN : N < 2 ^ 31) (hdg : decode cc pc = .ok (.iastore, 1))
    (kk : ∀ (H1 : Heap) (locs1 : List Loc), va_P E.1 vwCl (ws.set q0 (a, .inl (E.2.1, N, .inl (fun i => nI (upN f j x i))))) H1 → va_D A (ws.set q0 (a, .inl (E.2.1, N, .inl (fun i => nI (upN f j x i))))) → va_S A H0 H1 locs1 → W p l e R s m args below meth c H1 locs1 cells slots Q (F0 m (pc + 1) ls rest)) : W p l e R s m args below meth c H locs cells slots Q (F0 m pc ls (.int (nI x) :: .int (nI j) :: .ref a :: rest)) := by
  refine k_iast hexec hb hK hP hD hS q0 j ha hj hN hdg ?_
  rw [upd_nI]
  exact kk
theorem k_zastB (hexec : p.tables.exec = Jvm.exec) (hb : c.code = cc) (hK : kS E s) (hP : va_P E.1 vwCl ws H) (hD : va_D A ws) (hS : va_S A H0 H locs) (q0 : Nat) {N : Nat} {f : Nat → Bool} (j : Nat) (x : Bool) (ha : ws[q0]? = some (a, .inl (E.2.2.1, N, .inl (fun i => zI (f i))))) (hj : j < N) (hN : N < 2 ^ 31) (hdg : decode cc pc = .ok (.bastore, 1))
    (kk : ∀ (H1 : Heap) (locs1 : List Loc), va_P E.1 vwCl (ws.set q0 (a, .inl (E.2.2.1, N, .inl (fun i => zI (upB f j x i))))) H1 → va_D A (ws.set q0 (a, .inl (E.2.2.1, N, .inl (fun i => zI (upB f j x i))))) → va_S A H0 H1 locs1 → W p l e R s m args below meth c H1 locs1 cells slots Q (F0 m (pc + 1) ls rest)) : W p l e R s m args below meth c H locs cells slots Q (F0 m pc ls (.int (zI x) :: .int (nI j) :: .ref a :: rest)) := by
  refine va_zast hexec hb hK.1 hP hD hS q0 1 ha rfl (vp_in_nI hj hN) hdg ?_
  rw [nI_clamp (by omega), zI_vnar, upd_zI]
  exact kk
/-- a call of a method that only reads -/
theorem cl_S {Wc : va_W} {ans : Int32} (S : CallFix p m c cc nL s args Ts own) (hM : Met l y wsy rm (va_Pc (Value.ref b :: As) (pR E Wc)) (vp_Si (fun r => r = ans)) 0 0 (fun _ => False)) (cw : CallW R s args own C index y bytes maxL ret wsy rm 0 0 n) (hK : kS E s) (hP : va_P E.1 vwCl Wc H)
    (hrv : ∃ cell : Cell, H[b]? = some cell ∧ cell.vm.isStatics = false ∧ s.vm.findClass C = some cell.cls) (hn : As.length = n) (hsize : ls.size = nL) (hst : st0 = As.reverse ++ .ref b :: rest) (hWd : (rest.map fun v => v.category).sum ≤ 8) (hdg : decode cc pc = .ok (.invokevirtual index, 3)) (hf : cells ≤ R.cells ∧ slots ≤ R.slots)
    (kk : W p l e R s m args below meth c H locs cells slots Q (F0 m (pc + 3) ls (.int ans :: rest))) : W p l e R s m args below meth c H locs cells slots Q (F0 m pc ls st0) := by
  refine vp_callSi (va_Run.run (va_runV (As := As) (rest := rest) S hM cw ⟨pR_blind, hrv, fun U hU hW => ⟨rfl, by rw [hU]; exact hP, hK.warm hW⟩⟩ rfl hn hsize hst (lv_room hWd) hdg ⟨hf.1, hf.2⟩)) (fun r er => ?_)
  subst er
  exact kk
theorem cl_Sv {Wc : va_W} (S : CallFix p m c cc nL s args Ts own) (hM : Met l y wsy rm (va_Pc (Value.ref b :: As) (pR E Wc)) (va_Sv (fun _ => True)) 0 0 (fun _ => False)) (cw : CallW R s args own C index y bytes maxL ret wsy rm 0 0 n) (hK : kS E s) (hP : va_P E.1 vwCl Wc H)
    (hrv : ∃ cell : Cell, H[b]? = some cell ∧ cell.vm.isStatics = false ∧ s.vm.findClass C = some cell.cls) (hn : As.length = n) (hsize : ls.size = nL) (hst : st0 = As.reverse ++ .ref b :: rest) (hWd : (rest.map fun v => v.category).sum ≤ 8) (hdg : decode cc pc = .ok (.invokevirtual index, 3)) (hf : cells ≤ R.cells ∧ slots ≤ R.slots)
    (kk : W p l e R s m args below meth c H locs cells slots Q (F0 m (pc + 3) ls rest)) : W p l e R s m args below meth c H locs cells slots Q (F0 m pc ls st0) :=
  va_csv (va_Run.run (va_runV (As := As) (rest := rest) S hM cw ⟨pR_blind, hrv, fun U hU hW => ⟨rfl, by rw [hU]; exact hP, hK.warm hW⟩⟩ rfl hn hsize hst (lv_room hWd) hdg ⟨hf.1, hf.2⟩)) (fun _ => kk)
/-- .. a static one of the own class -/
theorem cl_SS {Wc : va_W} {ans : Int32} (S : CallFix p m c cc nL s args Ts own) (hM : Met l y wsy rm (va_Pc As (pR E Wc)) (vp_Si (fun r => r = ans)) 0 0 (fun _ => False)) (cw : CallB R s args own index y bytes maxL ret wsy rm 0 0 n ∧ (Cond.static y).before args s = true) (hK : kS E s) (hP : va_P E.1 vwCl Wc H)
    (hn : As.length = n) (hsize : ls.size = nL) (hst : st0 = As.reverse ++ rest) (hWd : (rest.map fun v => v.category).sum ≤ 8) (hdg : decode cc pc = .ok (.invokestatic index, 3)) (hf : cells ≤ R.cells ∧ slots ≤ R.slots)
    (kk : W p l e R s m args below meth c H locs cells slots Q (F0 m (pc + 3) ls (.int ans :: rest))) : W p l e R s m args below meth c H locs cells slots Q (F0 m pc ls st0) := by
  refine vp_callSi (va_Run.run (va_runS (As := As) (rest := rest) S hM cw ⟨pR_blind, fun U hU hW => ⟨rfl, by rw [hU]; exact hP, hK.warm hW⟩⟩ rfl hn hsize hst (lv_room hWd) hdg ⟨hf.1, hf.2⟩)) (fun r er => ?_)
  subst er
  exact kk
/-- .. a private static one of the nest's host -/
theorem cl_SN {Wc : va_W} {ans : Int32} (S : CallFix p m c cc nL s args Ts own) (hM : Met l y wsy rm (va_Pc As (pR E Wc)) (vp_Si (fun r => r = ans)) 0 0 (fun _ => False)) (cw : va_CN R s args own index y host bytes maxL ret wsy rm 0 0 n ∧ (Cond.static y).before args s = true ∧ True) (hK : kS E s) (hP : va_P E.1 vwCl Wc H)
    (hn : As.length = n) (hsize : ls.size = nL) (hst : st0 = As.reverse ++ rest) (hWd : (rest.map fun v => v.category).sum ≤ 8) (hdg : decode cc pc = .ok (.invokestatic index, 3)) (hf : cells ≤ R.cells ∧ slots ≤ R.slots)
    (kk : W p l e R s m args below meth c H locs cells slots Q (F0 m (pc + 3) ls (.int ans :: rest))) : W p l e R s m args below meth c H locs cells slots Q (F0 m pc ls st0) := by
  refine vp_callSi (va_Run.run (va_runSN (As := As) (rest := rest) S hM cw ⟨pR_blind, fun U hU hW => ⟨rfl, by rw [hU]; exact hP, hK.warm hW⟩⟩ rfl hn hsize hst (lv_room hWd) hdg ⟨hf.1, hf.2⟩)) (fun r er => ?_)
  subst er
  exact kk
/-- a method's end: its world -/
abbrev eW (E : gE) (A : Nat → Prop) (W' : va_W) (t : State) : Prop := va_P E.1 vwCl W' t.heap ∧ va_D A W'
/-- the caller's world behind a call: the rest, what came back, in the order that is wanted -/
theorem cl_join {Wl Wc Wr W1 W2 : va_W} {H1 : Heap} (hP : va_P E.1 vwCl Wl H) (hD : va_D A Wl) (isC isR pm : List Nat) (hC : isC.map (fun i => Wl[i]?) = Wc.map some) (hR : isR.map (fun i => Wl[i]?) = Wr.map some) (hn : va_nd isR = true) (hdis : ∀ i ∈ isR, i ∉ isC)
    (hm : pm.map (fun i => (Wr ++ W1)[i]?) = W2.map some) (hnm : va_nd pm = true)
    (hk : ∀ q : Nat, q < H.size → ¬ va_A Wc H.size q → H1[q]? = H[q]?) (hF : ∀ q, va_A Wc H.size q → A q) (hP1 : va_P E.1 vwCl W1 H1) (hD1 : va_D (va_A Wc H.size) W1) : va_P E.1 vwCl W2 H1 ∧ va_D A W2 := by
  obtain ⟨h1, h2⟩ := va_join (wr := Wr) (w1 := W1) hP hD isC isR hC hR hn hdis hk hF hP1 hD1
  refine ⟨?_, h2.sub pm hnm hm⟩
  intro k q hq
  have h3 : (W2.map some)[k]? = some (some q) := by rw [List.getElem?_map, hq]; rfl
  rw [← hm, List.getElem?_map] at h3
  cases h4 : pm[k]? with
  | none => rw [h4] at h3; cases h3
  | some i =>
    rw [h4] at h3
    exact h1 i q (Option.some.inj h3)
/-- a call of a method that writes -/
theorem cl_W {Wl Wc Wr W1 W2 : va_W} {ans : Int32} (S : CallFix p m c cc nL s args Ts own) (hM : Met l y wsy rm (va_Pc (Value.ref b :: As) (pW E Wc H.size)) (va_Qi (fun r (_ : Unit) => r = ans) (fun _ => eW E (va_A Wc H.size) W1) (va_A Wc H.size)) mc ms (va_A Wc H.size)) (cw : CallW R s args own C index y bytes maxL ret wsy rm mc ms n) (hK : kS E s)
    (hP : va_P E.1 vwCl Wl H) (hD : va_D A Wl) (hS : va_S A H0 H locs) (hA : ∀ q, H0.size ≤ q → A q) (isC isR pm : List Nat) (hC0 : isC.filterMap (fun i => Wl[i]?) = Wc) (hC : isC.map (fun i => Wl[i]?) = Wc.map some) (hnC : va_nd isC = true) (hR : isR.map (fun i => Wl[i]?) = Wr.map some) (hnd : va_nd isR = true) (hdis : ∀ i ∈ isR, i ∉ isC)
    (hm : pm.map (fun i => (Wr ++ W1)[i]?) = W2.map some) (hnm : va_nd pm = true)
    (hrv : ∃ cell : Cell, H[b]? = some cell ∧ cell.vm.isStatics = false ∧ s.vm.findClass C = some cell.cls) (hn : As.length = n) (hsize : ls.size = nL) (hst : st0 = As.reverse ++ .ref b :: rest) (hWd : (rest.map fun v => v.category).sum ≤ 8) (hdg : decode cc pc = .ok (.invokevirtual index, 3)) (hf : cells + mc ≤ R.cells ∧ slots + ms ≤ R.slots)
    (kk : ∀ (H1 : Heap) (locs1 : List Loc), va_P E.1 vwCl W2 H1 → va_D A W2 → va_S A H0 H1 locs1 → W p l e R s m args below meth c H1 locs1 (cells + mc) (slots + ms) Q (F0 m (pc + 3) ls (.int ans :: rest))) : W p l e R s m args below meth c H locs cells slots Q (F0 m pc ls st0) := by
  have hFc := va_free (wc := Wc) hD hS hA isC hC
  refine va_calli (va_runV (As := As) (rest := rest) S hM cw ⟨pW_blind, hrv, fun U hU hW => ⟨rfl, by rw [hU], by rw [hU]; exact hP.sub isC hC0, hK.warm hW, (hD.sub isC hnC hC).weaken (fun _ _ _ _ => trivial)⟩⟩ rfl hn hsize hst (lv_room hWd) hdg hf) hS (fun q _ h => hFc q h) hFc (fun r u t H1 locs1 ht hvm hw hB hz1 hk1 hS1 => ?_)
  subst hw
  obtain ⟨hP1, hD1⟩ := hB
  rw [ht] at hP1
  obtain ⟨hP2, hD2⟩ := cl_join hP hD isC isR pm hC hR hnd hdis hm hnm hk1 hFc hP1 hD1
  exact kk H1 locs1 hP2 hD2 hS1
theorem cl_Wv {Wl Wc Wr W1 W2 : va_W} (S : CallFix p m c cc nL s args Ts own) (hM : Met l y wsy rm (va_Pc (Value.ref b :: As) (pW E Wc H.size)) (va_Qv (fun (_ : Unit) => True) (fun _ => eW E (va_A Wc H.size) W1) (va_A Wc H.size)) mc ms (va_A Wc H.size)) (cw : CallW R s args own C index y bytes maxL ret wsy rm mc ms n) (hK : kS E s)
    (hP : va_P E.1 vwCl Wl H) (hD : va_D A Wl) (hS : va_S A H0 H locs) (hA : ∀ q, H0.size ≤ q → A q) (isC isR pm : List Nat) (hC0 : isC.filterMap (fun i => Wl[i]?) = Wc) (hC : isC.map (fun i => Wl[i]?) = Wc.map some) (hnC : va_nd isC = true) (hR : isR.map (fun i => Wl[i]?) = Wr.map some) (hnd : va_nd isR = true) (hdis : ∀ i ∈ isR, i ∉ isC)
    (hm : pm.map (fun i => (Wr ++ W1)[i]?) = W2.map some) (hnm : va_nd pm = true)
    (hrv : ∃ cell : Cell, H[b]? = some cell ∧ cell.vm.isStatics = false ∧ s.vm.findClass C = some cell.cls) (hn : As.length = n) (hsize : ls.size = nL) (hst : st0 = As.reverse ++ .ref b :: rest) (hWd : (rest.map fun v => v.category).sum ≤ 8) (hdg : decode cc pc = .ok (.invokevirtual index, 3)) (hf : cells + mc ≤ R.cells ∧ slots + ms ≤ R.slots)
    (kk : ∀ (H1 : Heap) (locs1 : List Loc), va_P E.1 vwCl W2 H1 → va_D A W2 → va_S A H0 H1 locs1 → W p l e R s m args below meth c H1 locs1 (cells + mc) (slots + ms) Q (F0 m (pc + 3) ls rest)) : W p l e R s m args below meth c H locs cells slots Q (F0 m pc ls st0) := by
  have hFc := va_free (wc := Wc) hD hS hA isC hC
  refine va_callv (va_runV (As := As) (rest := rest) S hM cw ⟨pW_blind, hrv, fun U hU hW => ⟨rfl, by rw [hU], by rw [hU]; exact hP.sub isC hC0, hK.warm hW, (hD.sub isC hnC hC).weaken (fun _ _ _ _ => trivial)⟩⟩ rfl hn hsize hst (lv_room hWd) hdg hf) hS (fun q _ h => hFc q h) hFc (fun u t H1 locs1 ht hvm hw hB hz1 hk1 hS1 => ?_)
  obtain ⟨hP1, hD1⟩ := hB
  rw [ht] at hP1
  obtain ⟨hP2, hD2⟩ := cl_join hP hD isC isR pm hC hR hnd hdis hm hnm hk1 hFc hP1 hD1
  exact kk H1 locs1 hP2 hD2 hS1
end OURS
end
section
set_option maxRecDepth 20000 in
theorem ggX0_init_J7_fill_53178 : GoodIn wsX0_init wsJ7_fill_53178 := goodIn_r _ [15] (by decide +kernel) (by decide +kernel)
set_option maxRecDepth 20000 in
theorem gX0_init_J7_fill_53178 : GoodIn wsX0_init (va_wsS RX0 27 yJ7_fill_53178 wsJ7_fill_53178) := goodIn_app (goodIn_of _ (by decide +kernel)) ggX0_init_J7_fill_53178
theorem dX0_init_0 : decode cX0_init 0 = .ok (.aload_n 0, 1) := by decide +kernel
theorem dX0_init_1 : decode cX0_init 1 = .ok (.invokespecial 3, 3) := by decide +kernel
theorem dX0_init_4 : decode cX0_init 4 = .ok (.aload_n 0, 1) := by decide +kernel
theorem dX0_init_5 : decode cX0_init 5 = .ok (.bipush 16, 2) := by decide +kernel
theorem dX0_init_7 : decode cX0_init 7 = .ok (.newarray .int, 2) := by decide +kernel
theorem dX0_init_9 : decode cX0_init 9 = .ok (.putfield 9, 3) := by decide +kernel
theorem dX0_init_12 : decode cX0_init 12 = .ok (.aload_n 0, 1) := by decide +kernel
theorem dX0_init_13 : decode cX0_init 13 = .ok (.bipush 16, 2) := by decide +kernel
theorem dX0_init_15 : decode cX0_init 15 = .ok (.newarray .int, 2) := by decide +kernel
theorem dX0_init_17 : decode cX0_init 17 = .ok (.putfield 15, 3) := by decide +kernel
theorem dX0_init_20 : decode cX0_init 20 = .ok (.aload_n 0, 1) := by decide +kernel
theorem dX0_init_21 : decode cX0_init 21 = .ok (.bipush 16, 2) := by decide +kernel
theorem dX0_init_23 : decode cX0_init 23 = .ok (.newarray .int, 2) := by decide +kernel
theorem dX0_init_25 : decode cX0_init 25 = .ok (.putfield 18, 3) := by decide +kernel
theorem dX0_init_28 : decode cX0_init 28 = .ok (.aload_n 0, 1) := by decide +kernel
theorem dX0_init_29 : decode cX0_init 29 = .ok (.bipush 16, 2) := by decide +kernel
theorem dX0_init_31 : decode cX0_init 31 = .ok (.newarray .int, 2) := by decide +kernel
theorem dX0_init_33 : decode cX0_init 33 = .ok (.putfield 21, 3) := by decide +kernel
theorem dX0_init_36 : decode cX0_init 36 = .ok (.aload_n 0, 1) := by decide +kernel
theorem dX0_init_37 : decode cX0_init 37 = .ok (.iconst 3, 1) := by decide +kernel
theorem dX0_init_38 : decode cX0_init 38 = .ok (.newarray .int, 2) := by decide +kernel
theorem dX0_init_40 : decode cX0_init 40 = .ok (.putfield 24, 3) := by decide +kernel
theorem dX0_init_43 : decode cX0_init 43 = .ok (.aload_n 0, 1) := by decide +kernel
theorem dX0_init_44 : decode cX0_init 44 = .ok (.getfield 24, 3) := by decide +kernel
theorem dX0_init_47 : decode cX0_init 47 = .ok (.sipush 300, 3) := by decide +kernel
theorem dX0_init_50 : decode cX0_init 50 = .ok (.invokestatic 27, 3) := by decide +kernel
theorem dX0_init_53 : decode cX0_init 53 = .ok (.aload_n 0, 1) := by decide +kernel
theorem dX0_init_54 : decode cX0_init 54 = .ok (.iconst 0, 1) := by decide +kernel
theorem dX0_init_55 : decode cX0_init 55 = .ok (.putfield 33, 3) := by decide +kernel
theorem dX0_init_58 : decode cX0_init 58 = .ok (.aload_n 0, 1) := by decide +kernel
theorem dX0_init_59 : decode cX0_init 59 = .ok (.iconst 0, 1) := by decide +kernel
theorem dX0_init_60 : decode cX0_init 60 = .ok (.putfield 37, 3) := by decide +kernel
theorem dX0_init_63 : decode cX0_init 63 = .ok (.return_, 1) := by decide +kernel
set_option maxRecDepth 20000 in
theorem ggX0_beginAgain_J7_fill_53178 : GoodIn wsX0_beginAgain wsJ7_fill_53178 := goodIn_r _ [7] (by decide +kernel) (by decide +kernel)
set_option maxRecDepth 20000 in
theorem gX0_beginAgain_J7_fill_53178 : GoodIn wsX0_beginAgain (va_wsS RX0 27 yJ7_fill_53178 wsJ7_fill_53178) := goodIn_app (goodIn_of _ (by decide +kernel)) ggX0_beginAgain_J7_fill_53178
theorem dX0_beginAgain_0 : decode cX0_beginAgain 0 = .ok (.aload_n 0, 1) := by decide +kernel
theorem dX0_beginAgain_1 : decode cX0_beginAgain 1 = .ok (.getfield 24, 3) := by decide +kernel
theorem dX0_beginAgain_4 : decode cX0_beginAgain 4 = .ok (.sipush 300, 3) := by decide +kernel
theorem dX0_beginAgain_7 : decode cX0_beginAgain 7 = .ok (.invokestatic 27, 3) := by decide +kernel
theorem dX0_beginAgain_10 : decode cX0_beginAgain 10 = .ok (.aload_n 0, 1) := by decide +kernel
theorem dX0_beginAgain_11 : decode cX0_beginAgain 11 = .ok (.iconst 0, 1) := by decide +kernel
theorem dX0_beginAgain_12 : decode cX0_beginAgain 12 = .ok (.putfield 33, 3) := by decide +kernel
theorem dX0_beginAgain_15 : decode cX0_beginAgain 15 = .ok (.aload_n 0, 1) := by decide +kernel
theorem dX0_beginAgain_16 : decode cX0_beginAgain 16 = .ok (.iconst 0, 1) := by decide +kernel
theorem dX0_beginAgain_17 : decode cX0_beginAgain 17 = .ok (.putfield 37, 3) := by decide +kernel
theorem dX0_beginAgain_20 : decode cX0_beginAgain 20 = .ok (.return_, 1) := by decide +kernel
theorem dX0_size_0 : decode cX0_size 0 = .ok (.aload_n 0, 1) := by decide +kernel
theorem dX0_size_1 : decode cX0_size 1 = .ok (.getfield 33, 3) := by decide +kernel
theorem dX0_size_4 : decode cX0_size 4 = .ok (.ireturn, 1) := by decide +kernel
theorem dX0_speaker_0 : decode cX0_speaker 0 = .ok (.aload_n 0, 1) := by decide +kernel
theorem dX0_speaker_1 : decode cX0_speaker 1 = .ok (.getfield 37, 3) := by decide +kernel
theorem dX0_speaker_4 : decode cX0_speaker 4 = .ok (.ireturn, 1) := by decide +kernel
theorem dX0_secondsLeft_0 : decode cX0_secondsLeft 0 = .ok (.aload_n 0, 1) := by decide +kernel
theorem dX0_secondsLeft_1 : decode cX0_secondsLeft 1 = .ok (.getfield 24, 3) := by decide +kernel
theorem dX0_secondsLeft_4 : decode cX0_secondsLeft 4 = .ok (.iload_n 1, 1) := by decide +kernel
theorem dX0_secondsLeft_5 : decode cX0_secondsLeft 5 = .ok (.iaload, 1) := by decide +kernel
theorem dX0_secondsLeft_6 : decode cX0_secondsLeft 6 = .ok (.ireturn, 1) := by decide +kernel
theorem dX0_ownerOf_0 : decode cX0_ownerOf 0 = .ok (.aload_n 0, 1) := by decide +kernel
theorem dX0_ownerOf_1 : decode cX0_ownerOf 1 = .ok (.getfield 9, 3) := by decide +kernel
theorem dX0_ownerOf_4 : decode cX0_ownerOf 4 = .ok (.iload_n 1, 1) := by decide +kernel
theorem dX0_ownerOf_5 : decode cX0_ownerOf 5 = .ok (.iaload, 1) := by decide +kernel
theorem dX0_ownerOf_6 : decode cX0_ownerOf 6 = .ok (.ireturn, 1) := by decide +kernel
set_option maxRecDepth 20000 in
theorem ggX0_add_X0_passTurn : GoodIn wsX0_add wsX0_passTurn := goodIn_r _ [12, 3, 13, 14, 15, 16, 17, 18, 19] (by decide +kernel) (by decide +kernel)
set_option maxRecDepth 20000 in
theorem gX0_add_X0_passTurn : GoodIn wsX0_add (wsV RX0 40 RX0 yX0_passTurn wsX0_passTurn) := goodIn_app (goodIn_of _ (by decide +kernel)) ggX0_add_X0_passTurn
theorem dX0_add_0 : decode cX0_add 0 = .ok (.aload_n 0, 1) := by decide +kernel
theorem dX0_add_1 : decode cX0_add 1 = .ok (.getfield 33, 3) := by decide +kernel
theorem dX0_add_4 : decode cX0_add 4 = .ok (.bipush 16, 2) := by decide +kernel
theorem dX0_add_6 : decode cX0_add 6 = .ok (.if_icmp .ge 16, 3) := by decide +kernel
theorem dX0_add_9 : decode cX0_add 9 = .ok (.aload_n 0, 1) := by decide +kernel
theorem dX0_add_10 : decode cX0_add 10 = .ok (.getfield 24, 3) := by decide +kernel
theorem dX0_add_13 : decode cX0_add 13 = .ok (.aload_n 0, 1) := by decide +kernel
theorem dX0_add_14 : decode cX0_add 14 = .ok (.getfield 37, 3) := by decide +kernel
theorem dX0_add_17 : decode cX0_add 17 = .ok (.iaload, 1) := by decide +kernel
theorem dX0_add_18 : decode cX0_add 18 = .ok (.iload_n 2, 1) := by decide +kernel
theorem dX0_add_19 : decode cX0_add 19 = .ok (.if_icmp .ge 5, 3) := by decide +kernel
theorem dX0_add_22 : decode cX0_add 22 = .ok (.iconst (-1), 1) := by decide +kernel
theorem dX0_add_23 : decode cX0_add 23 = .ok (.ireturn, 1) := by decide +kernel
theorem dX0_add_24 : decode cX0_add 24 = .ok (.aload_n 0, 1) := by decide +kernel
theorem dX0_add_25 : decode cX0_add 25 = .ok (.getfield 33, 3) := by decide +kernel
theorem dX0_add_28 : decode cX0_add 28 = .ok (.istore_n 3, 1) := by decide +kernel
theorem dX0_add_29 : decode cX0_add 29 = .ok (.aload_n 0, 1) := by decide +kernel
theorem dX0_add_30 : decode cX0_add 30 = .ok (.getfield 9, 3) := by decide +kernel
theorem dX0_add_33 : decode cX0_add 33 = .ok (.iload_n 3, 1) := by decide +kernel
theorem dX0_add_34 : decode cX0_add 34 = .ok (.aload_n 0, 1) := by decide +kernel
theorem dX0_add_35 : decode cX0_add 35 = .ok (.getfield 37, 3) := by decide +kernel
theorem dX0_add_38 : decode cX0_add 38 = .ok (.iastore, 1) := by decide +kernel
theorem dX0_add_39 : decode cX0_add 39 = .ok (.aload_n 0, 1) := by decide +kernel
theorem dX0_add_40 : decode cX0_add 40 = .ok (.getfield 15, 3) := by decide +kernel
theorem dX0_add_43 : decode cX0_add 43 = .ok (.iload_n 3, 1) := by decide +kernel
theorem dX0_add_44 : decode cX0_add 44 = .ok (.iload_n 1, 1) := by decide +kernel
theorem dX0_add_45 : decode cX0_add 45 = .ok (.iastore, 1) := by decide +kernel
theorem dX0_add_46 : decode cX0_add 46 = .ok (.aload_n 0, 1) := by decide +kernel
theorem dX0_add_47 : decode cX0_add 47 = .ok (.getfield 18, 3) := by decide +kernel
theorem dX0_add_50 : decode cX0_add 50 = .ok (.iload_n 3, 1) := by decide +kernel
theorem dX0_add_51 : decode cX0_add 51 = .ok (.iconst 0, 1) := by decide +kernel
theorem dX0_add_52 : decode cX0_add 52 = .ok (.iastore, 1) := by decide +kernel
theorem dX0_add_53 : decode cX0_add 53 = .ok (.aload_n 0, 1) := by decide +kernel
theorem dX0_add_54 : decode cX0_add 54 = .ok (.getfield 21, 3) := by decide +kernel
theorem dX0_add_57 : decode cX0_add 57 = .ok (.iload_n 3, 1) := by decide +kernel
theorem dX0_add_58 : decode cX0_add 58 = .ok (.iconst 0, 1) := by decide +kernel
theorem dX0_add_59 : decode cX0_add 59 = .ok (.iastore, 1) := by decide +kernel
theorem dX0_add_60 : decode cX0_add 60 = .ok (.aload_n 0, 1) := by decide +kernel
theorem dX0_add_61 : decode cX0_add 61 = .ok (.dup, 1) := by decide +kernel
theorem dX0_add_62 : decode cX0_add 62 = .ok (.getfield 33, 3) := by decide +kernel
theorem dX0_add_65 : decode cX0_add 65 = .ok (.iconst 1, 1) := by decide +kernel
theorem dX0_add_66 : decode cX0_add 66 = .ok (.iadd, 1) := by decide +kernel
theorem dX0_add_67 : decode cX0_add 67 = .ok (.putfield 33, 3) := by decide +kernel
theorem dX0_add_70 : decode cX0_add 70 = .ok (.aload_n 0, 1) := by decide +kernel
theorem dX0_add_71 : decode cX0_add 71 = .ok (.getfield 24, 3) := by decide +kernel
theorem dX0_add_74 : decode cX0_add 74 = .ok (.aload_n 0, 1) := by decide +kernel
theorem dX0_add_75 : decode cX0_add 75 = .ok (.getfield 37, 3) := by decide +kernel
theorem dX0_add_78 : decode cX0_add 78 = .ok (.dup2, 1) := by decide +kernel
theorem dX0_add_79 : decode cX0_add 79 = .ok (.iaload, 1) := by decide +kernel
theorem dX0_add_80 : decode cX0_add 80 = .ok (.iload_n 2, 1) := by decide +kernel
theorem dX0_add_81 : decode cX0_add 81 = .ok (.isub, 1) := by decide +kernel
theorem dX0_add_82 : decode cX0_add 82 = .ok (.iastore, 1) := by decide +kernel
theorem dX0_add_83 : decode cX0_add 83 = .ok (.aload_n 0, 1) := by decide +kernel
theorem dX0_add_84 : decode cX0_add 84 = .ok (.invokevirtual 40, 3) := by decide +kernel
theorem dX0_add_87 : decode cX0_add 87 = .ok (.iload_n 3, 1) := by decide +kernel
theorem dX0_add_88 : decode cX0_add 88 = .ok (.ireturn, 1) := by decide +kernel
theorem dX0_passTurn_0 : decode cX0_passTurn 0 = .ok (.aload_n 0, 1) := by decide +kernel
theorem dX0_passTurn_1 : decode cX0_passTurn 1 = .ok (.aload_n 0, 1) := by decide +kernel
theorem dX0_passTurn_2 : decode cX0_passTurn 2 = .ok (.getfield 37, 3) := by decide +kernel
theorem dX0_passTurn_5 : decode cX0_passTurn 5 = .ok (.iconst 2, 1) := by decide +kernel
theorem dX0_passTurn_6 : decode cX0_passTurn 6 = .ok (.if_icmp .ge 12, 3) := by decide +kernel
theorem dX0_passTurn_9 : decode cX0_passTurn 9 = .ok (.aload_n 0, 1) := by decide +kernel
theorem dX0_passTurn_10 : decode cX0_passTurn 10 = .ok (.getfield 37, 3) := by decide +kernel
theorem dX0_passTurn_13 : decode cX0_passTurn 13 = .ok (.iconst 1, 1) := by decide +kernel
theorem dX0_passTurn_14 : decode cX0_passTurn 14 = .ok (.iadd, 1) := by decide +kernel
theorem dX0_passTurn_15 : decode cX0_passTurn 15 = .ok (.goto 4, 3) := by decide +kernel
theorem dX0_passTurn_18 : decode cX0_passTurn 18 = .ok (.iconst 0, 1) := by decide +kernel
theorem dX0_passTurn_19 : decode cX0_passTurn 19 = .ok (.putfield 37, 3) := by decide +kernel
theorem dX0_passTurn_22 : decode cX0_passTurn 22 = .ok (.return_, 1) := by decide +kernel
set_option maxRecDepth 20000 in
theorem ggX0_flipRest_X3_contains : GoodIn wsX0_flipRest wsX3_contains := goodIn_r _ [4] (by decide +kernel) (by decide +kernel)
set_option maxRecDepth 20000 in
theorem gX0_flipRest_X3_contains_n43 : GoodIn wsX0_flipRest (wsX3_contains) := ggX0_flipRest_X3_contains
theorem dX0_flipRest_0 : decode cX0_flipRest 0 = .ok (.aload_n 0, 1) := by decide +kernel
theorem dX0_flipRest_1 : decode cX0_flipRest 1 = .ok (.getfield 18, 3) := by decide +kernel
theorem dX0_flipRest_4 : decode cX0_flipRest 4 = .ok (.iload_n 1, 1) := by decide +kernel
theorem dX0_flipRest_5 : decode cX0_flipRest 5 = .ok (.dup2, 1) := by decide +kernel
theorem dX0_flipRest_6 : decode cX0_flipRest 6 = .ok (.iaload, 1) := by decide +kernel
theorem dX0_flipRest_7 : decode cX0_flipRest 7 = .ok (.iconst 1, 1) := by decide +kernel
theorem dX0_flipRest_8 : decode cX0_flipRest 8 = .ok (.iload_n 2, 1) := by decide +kernel
theorem dX0_flipRest_9 : decode cX0_flipRest 9 = .ok (.ishl, 1) := by decide +kernel
theorem dX0_flipRest_10 : decode cX0_flipRest 10 = .ok (.ixor, 1) := by decide +kernel
theorem dX0_flipRest_11 : decode cX0_flipRest 11 = .ok (.iastore, 1) := by decide +kernel
theorem dX0_flipRest_12 : decode cX0_flipRest 12 = .ok (.aload_n 0, 1) := by decide +kernel
theorem dX0_flipRest_13 : decode cX0_flipRest 13 = .ok (.getfield 18, 3) := by decide +kernel
theorem dX0_flipRest_16 : decode cX0_flipRest 16 = .ok (.iload_n 1, 1) := by decide +kernel
theorem dX0_flipRest_17 : decode cX0_flipRest 17 = .ok (.iaload, 1) := by decide +kernel
theorem dX0_flipRest_18 : decode cX0_flipRest 18 = .ok (.iload_n 2, 1) := by decide +kernel
theorem dX0_flipRest_19 : decode cX0_flipRest 19 = .ok (.invokestatic 43, 3) := by decide +kernel
theorem dX0_flipRest_22 : decode cX0_flipRest 22 = .ok (.ireturn, 1) := by decide +kernel
set_option maxRecDepth 20000 in
theorem ggX0_flipAttack_X3_contains : GoodIn wsX0_flipAttack wsX3_contains := goodIn_r _ [4] (by decide +kernel) (by decide +kernel)
set_option maxRecDepth 20000 in
theorem gX0_flipAttack_X3_contains_n43 : GoodIn wsX0_flipAttack (wsX3_contains) := ggX0_flipAttack_X3_contains
theorem dX0_flipAttack_0 : decode cX0_flipAttack 0 = .ok (.aload_n 0, 1) := by decide +kernel
theorem dX0_flipAttack_1 : decode cX0_flipAttack 1 = .ok (.getfield 21, 3) := by decide +kernel
theorem dX0_flipAttack_4 : decode cX0_flipAttack 4 = .ok (.iload_n 2, 1) := by decide +kernel
theorem dX0_flipAttack_5 : decode cX0_flipAttack 5 = .ok (.dup2, 1) := by decide +kernel
theorem dX0_flipAttack_6 : decode cX0_flipAttack 6 = .ok (.iaload, 1) := by decide +kernel
theorem dX0_flipAttack_7 : decode cX0_flipAttack 7 = .ok (.iconst 1, 1) := by decide +kernel
theorem dX0_flipAttack_8 : decode cX0_flipAttack 8 = .ok (.iload_n 1, 1) := by decide +kernel
theorem dX0_flipAttack_9 : decode cX0_flipAttack 9 = .ok (.ishl, 1) := by decide +kernel
theorem dX0_flipAttack_10 : decode cX0_flipAttack 10 = .ok (.ixor, 1) := by decide +kernel
theorem dX0_flipAttack_11 : decode cX0_flipAttack 11 = .ok (.iastore, 1) := by decide +kernel
theorem dX0_flipAttack_12 : decode cX0_flipAttack 12 = .ok (.aload_n 0, 1) := by decide +kernel
theorem dX0_flipAttack_13 : decode cX0_flipAttack 13 = .ok (.getfield 21, 3) := by decide +kernel
theorem dX0_flipAttack_16 : decode cX0_flipAttack 16 = .ok (.iload_n 2, 1) := by decide +kernel
theorem dX0_flipAttack_17 : decode cX0_flipAttack 17 = .ok (.iaload, 1) := by decide +kernel
theorem dX0_flipAttack_18 : decode cX0_flipAttack 18 = .ok (.iload_n 1, 1) := by decide +kernel
theorem dX0_flipAttack_19 : decode cX0_flipAttack 19 = .ok (.invokestatic 43, 3) := by decide +kernel
theorem dX0_flipAttack_22 : decode cX0_flipAttack 22 = .ok (.ireturn, 1) := by decide +kernel
theorem dX0_holds_0 : decode cX0_holds 0 = .ok (.aload_n 0, 1) := by decide +kernel
theorem dX0_holds_1 : decode cX0_holds 1 = .ok (.getfield 15, 3) := by decide +kernel
theorem dX0_holds_4 : decode cX0_holds 4 = .ok (.iload_n 1, 1) := by decide +kernel
theorem dX0_holds_5 : decode cX0_holds 5 = .ok (.iaload, 1) := by decide +kernel
theorem dX0_holds_6 : decode cX0_holds 6 = .ok (.iload_n 2, 1) := by decide +kernel
theorem dX0_holds_7 : decode cX0_holds 7 = .ok (.iconst (-1), 1) := by decide +kernel
theorem dX0_holds_8 : decode cX0_holds 8 = .ok (.ixor, 1) := by decide +kernel
theorem dX0_holds_9 : decode cX0_holds 9 = .ok (.iand, 1) := by decide +kernel
theorem dX0_holds_10 : decode cX0_holds 10 = .ok (.ifCond .ne 34, 3) := by decide +kernel
theorem dX0_holds_13 : decode cX0_holds 13 = .ok (.aload_n 0, 1) := by decide +kernel
theorem dX0_holds_14 : decode cX0_holds 14 = .ok (.getfield 18, 3) := by decide +kernel
theorem dX0_holds_17 : decode cX0_holds 17 = .ok (.iload_n 1, 1) := by decide +kernel
theorem dX0_holds_18 : decode cX0_holds 18 = .ok (.iaload, 1) := by decide +kernel
theorem dX0_holds_19 : decode cX0_holds 19 = .ok (.iload_n 3, 1) := by decide +kernel
theorem dX0_holds_20 : decode cX0_holds 20 = .ok (.iconst (-1), 1) := by decide +kernel
theorem dX0_holds_21 : decode cX0_holds 21 = .ok (.ixor, 1) := by decide +kernel
theorem dX0_holds_22 : decode cX0_holds 22 = .ok (.iand, 1) := by decide +kernel
theorem dX0_holds_23 : decode cX0_holds 23 = .ok (.ifCond .ne 21, 3) := by decide +kernel
theorem dX0_holds_26 : decode cX0_holds 26 = .ok (.aload_n 0, 1) := by decide +kernel
theorem dX0_holds_27 : decode cX0_holds 27 = .ok (.getfield 21, 3) := by decide +kernel
theorem dX0_holds_30 : decode cX0_holds 30 = .ok (.iload_n 1, 1) := by decide +kernel
theorem dX0_holds_31 : decode cX0_holds 31 = .ok (.iaload, 1) := by decide +kernel
theorem dX0_holds_32 : decode cX0_holds 32 = .ok (.iload 4, 2) := by decide +kernel
theorem dX0_holds_34 : decode cX0_holds 34 = .ok (.iconst (-1), 1) := by decide +kernel
theorem dX0_holds_35 : decode cX0_holds 35 = .ok (.ixor, 1) := by decide +kernel
theorem dX0_holds_36 : decode cX0_holds 36 = .ok (.iand, 1) := by decide +kernel
theorem dX0_holds_37 : decode cX0_holds 37 = .ok (.ifCond .ne 7, 3) := by decide +kernel
theorem dX0_holds_40 : decode cX0_holds 40 = .ok (.iconst 1, 1) := by decide +kernel
theorem dX0_holds_41 : decode cX0_holds 41 = .ok (.goto 4, 3) := by decide +kernel
theorem dX0_holds_44 : decode cX0_holds 44 = .ok (.iconst 0, 1) := by decide +kernel
theorem dX0_holds_45 : decode cX0_holds 45 = .ok (.ireturn, 1) := by decide +kernel
theorem dX0_fails_0 : decode cX0_fails 0 = .ok (.aload_n 0, 1) := by decide +kernel
theorem dX0_fails_1 : decode cX0_fails 1 = .ok (.getfield 15, 3) := by decide +kernel
theorem dX0_fails_4 : decode cX0_fails 4 = .ok (.iload_n 1, 1) := by decide +kernel
theorem dX0_fails_5 : decode cX0_fails 5 = .ok (.iaload, 1) := by decide +kernel
theorem dX0_fails_6 : decode cX0_fails 6 = .ok (.iload_n 2, 1) := by decide +kernel
theorem dX0_fails_7 : decode cX0_fails 7 = .ok (.iconst (-1), 1) := by decide +kernel
theorem dX0_fails_8 : decode cX0_fails 8 = .ok (.ixor, 1) := by decide +kernel
theorem dX0_fails_9 : decode cX0_fails 9 = .ok (.iand, 1) := by decide +kernel
theorem dX0_fails_10 : decode cX0_fails 10 = .ok (.ifCond .ne 26, 3) := by decide +kernel
theorem dX0_fails_13 : decode cX0_fails 13 = .ok (.aload_n 0, 1) := by decide +kernel
theorem dX0_fails_14 : decode cX0_fails 14 = .ok (.getfield 18, 3) := by decide +kernel
theorem dX0_fails_17 : decode cX0_fails 17 = .ok (.iload_n 1, 1) := by decide +kernel
theorem dX0_fails_18 : decode cX0_fails 18 = .ok (.iaload, 1) := by decide +kernel
theorem dX0_fails_19 : decode cX0_fails 19 = .ok (.iload 4, 2) := by decide +kernel
theorem dX0_fails_21 : decode cX0_fails 21 = .ok (.iand, 1) := by decide +kernel
theorem dX0_fails_22 : decode cX0_fails 22 = .ok (.ifCond .ne 14, 3) := by decide +kernel
theorem dX0_fails_25 : decode cX0_fails 25 = .ok (.aload_n 0, 1) := by decide +kernel
theorem dX0_fails_26 : decode cX0_fails 26 = .ok (.getfield 21, 3) := by decide +kernel
theorem dX0_fails_29 : decode cX0_fails 29 = .ok (.iload_n 1, 1) := by decide +kernel
theorem dX0_fails_30 : decode cX0_fails 30 = .ok (.iaload, 1) := by decide +kernel
theorem dX0_fails_31 : decode cX0_fails 31 = .ok (.iload_n 3, 1) := by decide +kernel
theorem dX0_fails_32 : decode cX0_fails 32 = .ok (.iand, 1) := by decide +kernel
theorem dX0_fails_33 : decode cX0_fails 33 = .ok (.ifCond .eq 7, 3) := by decide +kernel
theorem dX0_fails_36 : decode cX0_fails 36 = .ok (.iconst 1, 1) := by decide +kernel
theorem dX0_fails_37 : decode cX0_fails 37 = .ok (.goto 4, 3) := by decide +kernel
theorem dX0_fails_40 : decode cX0_fails 40 = .ok (.iconst 0, 1) := by decide +kernel
theorem dX0_fails_41 : decode cX0_fails 41 = .ok (.ireturn, 1) := by decide +kernel
set_option maxRecDepth 20000 in
theorem ggX0_matters_X3_contains : GoodIn wsX0_matters wsX3_contains := goodIn_r _ [5] (by decide +kernel) (by decide +kernel)
set_option maxRecDepth 20000 in
theorem gX0_matters_X3_contains_n43 : GoodIn wsX0_matters (wsX3_contains) := ggX0_matters_X3_contains
theorem dX0_matters_0 : decode cX0_matters 0 = .ok (.aload_n 0, 1) := by decide +kernel
theorem dX0_matters_1 : decode cX0_matters 1 = .ok (.getfield 18, 3) := by decide +kernel
theorem dX0_matters_4 : decode cX0_matters 4 = .ok (.iload_n 1, 1) := by decide +kernel
theorem dX0_matters_5 : decode cX0_matters 5 = .ok (.iaload, 1) := by decide +kernel
theorem dX0_matters_6 : decode cX0_matters 6 = .ok (.aload_n 0, 1) := by decide +kernel
theorem dX0_matters_7 : decode cX0_matters 7 = .ok (.getfield 21, 3) := by decide +kernel
theorem dX0_matters_10 : decode cX0_matters 10 = .ok (.iload_n 1, 1) := by decide +kernel
theorem dX0_matters_11 : decode cX0_matters 11 = .ok (.iaload, 1) := by decide +kernel
theorem dX0_matters_12 : decode cX0_matters 12 = .ok (.ior, 1) := by decide +kernel
theorem dX0_matters_13 : decode cX0_matters 13 = .ok (.iload_n 2, 1) := by decide +kernel
theorem dX0_matters_14 : decode cX0_matters 14 = .ok (.invokestatic 43, 3) := by decide +kernel
theorem dX0_matters_17 : decode cX0_matters 17 = .ok (.ireturn, 1) := by decide +kernel
theorem dX0_illFounded_0 : decode cX0_illFounded 0 = .ok (.iconst 0, 1) := by decide +kernel
theorem dX0_illFounded_1 : decode cX0_illFounded 1 = .ok (.istore_n 2, 1) := by decide +kernel
theorem dX0_illFounded_2 : decode cX0_illFounded 2 = .ok (.iconst 0, 1) := by decide +kernel
theorem dX0_illFounded_3 : decode cX0_illFounded 3 = .ok (.istore_n 3, 1) := by decide +kernel
theorem dX0_illFounded_4 : decode cX0_illFounded 4 = .ok (.iload_n 3, 1) := by decide +kernel
theorem dX0_illFounded_5 : decode cX0_illFounded 5 = .ok (.aload_n 0, 1) := by decide +kernel
theorem dX0_illFounded_6 : decode cX0_illFounded 6 = .ok (.getfield 33, 3) := by decide +kernel
theorem dX0_illFounded_9 : decode cX0_illFounded 9 = .ok (.if_icmp .ge 28, 3) := by decide +kernel
theorem dX0_illFounded_12 : decode cX0_illFounded 12 = .ok (.aload_n 0, 1) := by decide +kernel
theorem dX0_illFounded_13 : decode cX0_illFounded 13 = .ok (.getfield 15, 3) := by decide +kernel
theorem dX0_illFounded_16 : decode cX0_illFounded 16 = .ok (.iload_n 3, 1) := by decide +kernel
theorem dX0_illFounded_17 : decode cX0_illFounded 17 = .ok (.iaload, 1) := by decide +kernel
theorem dX0_illFounded_18 : decode cX0_illFounded 18 = .ok (.iload_n 1, 1) := by decide +kernel
theorem dX0_illFounded_19 : decode cX0_illFounded 19 = .ok (.iconst (-1), 1) := by decide +kernel
theorem dX0_illFounded_20 : decode cX0_illFounded 20 = .ok (.ixor, 1) := by decide +kernel
theorem dX0_illFounded_21 : decode cX0_illFounded 21 = .ok (.iand, 1) := by decide +kernel
theorem dX0_illFounded_22 : decode cX0_illFounded 22 = .ok (.ifCond .eq 9, 3) := by decide +kernel
theorem dX0_illFounded_25 : decode cX0_illFounded 25 = .ok (.iload_n 2, 1) := by decide +kernel
theorem dX0_illFounded_26 : decode cX0_illFounded 26 = .ok (.iconst 1, 1) := by decide +kernel
theorem dX0_illFounded_27 : decode cX0_illFounded 27 = .ok (.iload_n 3, 1) := by decide +kernel
theorem dX0_illFounded_28 : decode cX0_illFounded 28 = .ok (.ishl, 1) := by decide +kernel
theorem dX0_illFounded_29 : decode cX0_illFounded 29 = .ok (.ior, 1) := by decide +kernel
theorem dX0_illFounded_30 : decode cX0_illFounded 30 = .ok (.istore_n 2, 1) := by decide +kernel
theorem dX0_illFounded_31 : decode cX0_illFounded 31 = .ok (.iinc 3 1, 3) := by decide +kernel
theorem dX0_illFounded_34 : decode cX0_illFounded 34 = .ok (.goto (-30), 3) := by decide +kernel
theorem dX0_illFounded_37 : decode cX0_illFounded 37 = .ok (.iload_n 2, 1) := by decide +kernel
theorem dX0_illFounded_38 : decode cX0_illFounded 38 = .ok (.ireturn, 1) := by decide +kernel
set_option maxRecDepth 20000 in
theorem ggX0_countOf_X3_contains : GoodIn wsX0_countOf wsX3_contains := goodIn_r _ [5] (by decide +kernel) (by decide +kernel)
set_option maxRecDepth 20000 in
theorem gX0_countOf_X3_contains_n43 : GoodIn wsX0_countOf (wsX3_contains) := ggX0_countOf_X3_contains
theorem dX0_countOf_0 : decode cX0_countOf 0 = .ok (.iconst 0, 1) := by decide +kernel
theorem dX0_countOf_1 : decode cX0_countOf 1 = .ok (.istore_n 3, 1) := by decide +kernel
theorem dX0_countOf_2 : decode cX0_countOf 2 = .ok (.iconst 0, 1) := by decide +kernel
theorem dX0_countOf_3 : decode cX0_countOf 3 = .ok (.istore 4, 2) := by decide +kernel
theorem dX0_countOf_5 : decode cX0_countOf 5 = .ok (.iload 4, 2) := by decide +kernel
theorem dX0_countOf_7 : decode cX0_countOf 7 = .ok (.aload_n 0, 1) := by decide +kernel
theorem dX0_countOf_8 : decode cX0_countOf 8 = .ok (.getfield 33, 3) := by decide +kernel
theorem dX0_countOf_11 : decode cX0_countOf 11 = .ok (.if_icmp .ge 32, 3) := by decide +kernel
theorem dX0_countOf_14 : decode cX0_countOf 14 = .ok (.aload_n 0, 1) := by decide +kernel
theorem dX0_countOf_15 : decode cX0_countOf 15 = .ok (.getfield 9, 3) := by decide +kernel
theorem dX0_countOf_18 : decode cX0_countOf 18 = .ok (.iload 4, 2) := by decide +kernel
theorem dX0_countOf_20 : decode cX0_countOf 20 = .ok (.iaload, 1) := by decide +kernel
theorem dX0_countOf_21 : decode cX0_countOf 21 = .ok (.iload_n 1, 1) := by decide +kernel
theorem dX0_countOf_22 : decode cX0_countOf 22 = .ok (.if_icmp .ne 15, 3) := by decide +kernel
theorem dX0_countOf_25 : decode cX0_countOf 25 = .ok (.iload_n 2, 1) := by decide +kernel
theorem dX0_countOf_26 : decode cX0_countOf 26 = .ok (.iload 4, 2) := by decide +kernel
theorem dX0_countOf_28 : decode cX0_countOf 28 = .ok (.invokestatic 43, 3) := by decide +kernel
theorem dX0_countOf_31 : decode cX0_countOf 31 = .ok (.ifCond .eq 6, 3) := by decide +kernel
theorem dX0_countOf_34 : decode cX0_countOf 34 = .ok (.iinc 3 1, 3) := by decide +kernel
theorem dX0_countOf_37 : decode cX0_countOf 37 = .ok (.iinc 4 1, 3) := by decide +kernel
theorem dX0_countOf_40 : decode cX0_countOf 40 = .ok (.goto (-35), 3) := by decide +kernel
theorem dX0_countOf_43 : decode cX0_countOf 43 = .ok (.iload_n 3, 1) := by decide +kernel
theorem dX0_countOf_44 : decode cX0_countOf 44 = .ok (.ireturn, 1) := by decide +kernel
theorem dX1_init_0 : decode cX1_init 0 = .ok (.aload_n 0, 1) := by decide +kernel
theorem dX1_init_1 : decode cX1_init 1 = .ok (.invokespecial 3, 3) := by decide +kernel
theorem dX1_init_4 : decode cX1_init 4 = .ok (.aload_n 0, 1) := by decide +kernel
theorem dX1_init_5 : decode cX1_init 5 = .ok (.bipush 14, 2) := by decide +kernel
theorem dX1_init_7 : decode cX1_init 7 = .ok (.newarray .int, 2) := by decide +kernel
theorem dX1_init_9 : decode cX1_init 9 = .ok (.putfield 9, 3) := by decide +kernel
theorem dX1_init_12 : decode cX1_init 12 = .ok (.aload_n 0, 1) := by decide +kernel
theorem dX1_init_13 : decode cX1_init 13 = .ok (.iconst 0, 1) := by decide +kernel
theorem dX1_init_14 : decode cX1_init 14 = .ok (.putfield 15, 3) := by decide +kernel
theorem dX1_init_17 : decode cX1_init 17 = .ok (.aload_n 0, 1) := by decide +kernel
theorem dX1_init_18 : decode cX1_init 18 = .ok (.iconst 0, 1) := by decide +kernel
theorem dX1_init_19 : decode cX1_init 19 = .ok (.putfield 19, 3) := by decide +kernel
theorem dX1_init_22 : decode cX1_init 22 = .ok (.aload_n 0, 1) := by decide +kernel
theorem dX1_init_23 : decode cX1_init 23 = .ok (.iconst 0, 1) := by decide +kernel
theorem dX1_init_24 : decode cX1_init 24 = .ok (.putfield 22, 3) := by decide +kernel
theorem dX1_init_27 : decode cX1_init 27 = .ok (.return_, 1) := by decide +kernel
theorem dX1_size_0 : decode cX1_size 0 = .ok (.aload_n 0, 1) := by decide +kernel
theorem dX1_size_1 : decode cX1_size 1 = .ok (.getfield 15, 3) := by decide +kernel
theorem dX1_size_4 : decode cX1_size 4 = .ok (.ireturn, 1) := by decide +kernel
theorem dX1_hasAll_0 : decode cX1_hasAll 0 = .ok (.iload_n 1, 1) := by decide +kernel
theorem dX1_hasAll_1 : decode cX1_hasAll 1 = .ok (.ifCond .lt 17, 3) := by decide +kernel
theorem dX1_hasAll_4 : decode cX1_hasAll 4 = .ok (.iload_n 1, 1) := by decide +kernel
theorem dX1_hasAll_5 : decode cX1_hasAll 5 = .ok (.iconst 1, 1) := by decide +kernel
theorem dX1_hasAll_6 : decode cX1_hasAll 6 = .ok (.aload_n 0, 1) := by decide +kernel
theorem dX1_hasAll_7 : decode cX1_hasAll 7 = .ok (.getfield 15, 3) := by decide +kernel
theorem dX1_hasAll_10 : decode cX1_hasAll 10 = .ok (.ishl, 1) := by decide +kernel
theorem dX1_hasAll_11 : decode cX1_hasAll 11 = .ok (.if_icmp .ge 7, 3) := by decide +kernel
theorem dX1_hasAll_14 : decode cX1_hasAll 14 = .ok (.iconst 1, 1) := by decide +kernel
theorem dX1_hasAll_15 : decode cX1_hasAll 15 = .ok (.goto 4, 3) := by decide +kernel
theorem dX1_hasAll_18 : decode cX1_hasAll 18 = .ok (.iconst 0, 1) := by decide +kernel
theorem dX1_hasAll_19 : decode cX1_hasAll 19 = .ok (.ireturn, 1) := by decide +kernel
theorem dX1_add_0 : decode cX1_add 0 = .ok (.aload_n 0, 1) := by decide +kernel
theorem dX1_add_1 : decode cX1_add 1 = .ok (.getfield 15, 3) := by decide +kernel
theorem dX1_add_4 : decode cX1_add 4 = .ok (.bipush 14, 2) := by decide +kernel
theorem dX1_add_6 : decode cX1_add 6 = .ok (.if_icmp .lt 5, 3) := by decide +kernel
theorem dX1_add_9 : decode cX1_add 9 = .ok (.iconst (-1), 1) := by decide +kernel
theorem dX1_add_10 : decode cX1_add 10 = .ok (.ireturn, 1) := by decide +kernel
theorem dX1_add_11 : decode cX1_add 11 = .ok (.aload_n 0, 1) := by decide +kernel
theorem dX1_add_12 : decode cX1_add 12 = .ok (.getfield 15, 3) := by decide +kernel
theorem dX1_add_15 : decode cX1_add 15 = .ok (.istore_n 2, 1) := by decide +kernel
theorem dX1_add_16 : decode cX1_add 16 = .ok (.aload_n 0, 1) := by decide +kernel
theorem dX1_add_17 : decode cX1_add 17 = .ok (.getfield 9, 3) := by decide +kernel
theorem dX1_add_20 : decode cX1_add 20 = .ok (.iload_n 2, 1) := by decide +kernel
theorem dX1_add_21 : decode cX1_add 21 = .ok (.iload_n 1, 1) := by decide +kernel
theorem dX1_add_22 : decode cX1_add 22 = .ok (.iastore, 1) := by decide +kernel
theorem dX1_add_23 : decode cX1_add 23 = .ok (.aload_n 0, 1) := by decide +kernel
theorem dX1_add_24 : decode cX1_add 24 = .ok (.dup, 1) := by decide +kernel
theorem dX1_add_25 : decode cX1_add 25 = .ok (.getfield 15, 3) := by decide +kernel
theorem dX1_add_28 : decode cX1_add 28 = .ok (.iconst 1, 1) := by decide +kernel
theorem dX1_add_29 : decode cX1_add 29 = .ok (.iadd, 1) := by decide +kernel
theorem dX1_add_30 : decode cX1_add 30 = .ok (.putfield 15, 3) := by decide +kernel
theorem dX1_add_33 : decode cX1_add 33 = .ok (.iload_n 2, 1) := by decide +kernel
theorem dX1_add_34 : decode cX1_add 34 = .ok (.ireturn, 1) := by decide +kernel
set_option maxRecDepth 20000 in
theorem ggX1_flipSource_X3_contains : GoodIn wsX1_flipSource wsX3_contains := goodIn_r _ [4] (by decide +kernel) (by decide +kernel)
set_option maxRecDepth 20000 in
theorem gX1_flipSource_X3_contains_n25 : GoodIn wsX1_flipSource (wsX3_contains) := ggX1_flipSource_X3_contains
theorem dX1_flipSource_0 : decode cX1_flipSource 0 = .ok (.aload_n 0, 1) := by decide +kernel
theorem dX1_flipSource_1 : decode cX1_flipSource 1 = .ok (.dup, 1) := by decide +kernel
theorem dX1_flipSource_2 : decode cX1_flipSource 2 = .ok (.getfield 22, 3) := by decide +kernel
theorem dX1_flipSource_5 : decode cX1_flipSource 5 = .ok (.iconst 1, 1) := by decide +kernel
theorem dX1_flipSource_6 : decode cX1_flipSource 6 = .ok (.iload_n 1, 1) := by decide +kernel
theorem dX1_flipSource_7 : decode cX1_flipSource 7 = .ok (.ishl, 1) := by decide +kernel
theorem dX1_flipSource_8 : decode cX1_flipSource 8 = .ok (.ixor, 1) := by decide +kernel
theorem dX1_flipSource_9 : decode cX1_flipSource 9 = .ok (.putfield 22, 3) := by decide +kernel
theorem dX1_flipSource_12 : decode cX1_flipSource 12 = .ok (.aload_n 0, 1) := by decide +kernel
theorem dX1_flipSource_13 : decode cX1_flipSource 13 = .ok (.getfield 22, 3) := by decide +kernel
theorem dX1_flipSource_16 : decode cX1_flipSource 16 = .ok (.iload_n 1, 1) := by decide +kernel
theorem dX1_flipSource_17 : decode cX1_flipSource 17 = .ok (.invokestatic 25, 3) := by decide +kernel
theorem dX1_flipSource_20 : decode cX1_flipSource 20 = .ok (.ifCond .ne 7, 3) := by decide +kernel
theorem dX1_flipSource_23 : decode cX1_flipSource 23 = .ok (.iconst 1, 1) := by decide +kernel
theorem dX1_flipSource_24 : decode cX1_flipSource 24 = .ok (.goto 4, 3) := by decide +kernel
theorem dX1_flipSource_27 : decode cX1_flipSource 27 = .ok (.iconst 0, 1) := by decide +kernel
theorem dX1_flipSource_28 : decode cX1_flipSource 28 = .ok (.ireturn, 1) := by decide +kernel
set_option maxRecDepth 20000 in
theorem ggX1_takeBack_X3_contains : GoodIn wsX1_takeBack wsX3_contains := goodIn_r _ [4] (by decide +kernel) (by decide +kernel)
set_option maxRecDepth 20000 in
theorem gX1_takeBack_X3_contains_n25 : GoodIn wsX1_takeBack (wsX3_contains) := ggX1_takeBack_X3_contains
theorem dX1_takeBack_0 : decode cX1_takeBack 0 = .ok (.aload_n 0, 1) := by decide +kernel
theorem dX1_takeBack_1 : decode cX1_takeBack 1 = .ok (.getfield 19, 3) := by decide +kernel
theorem dX1_takeBack_4 : decode cX1_takeBack 4 = .ok (.iload_n 1, 1) := by decide +kernel
theorem dX1_takeBack_5 : decode cX1_takeBack 5 = .ok (.invokestatic 25, 3) := by decide +kernel
theorem dX1_takeBack_8 : decode cX1_takeBack 8 = .ok (.ifCond .ne 7, 3) := by decide +kernel
theorem dX1_takeBack_11 : decode cX1_takeBack 11 = .ok (.iconst 1, 1) := by decide +kernel
theorem dX1_takeBack_12 : decode cX1_takeBack 12 = .ok (.goto 4, 3) := by decide +kernel
theorem dX1_takeBack_15 : decode cX1_takeBack 15 = .ok (.iconst 0, 1) := by decide +kernel
theorem dX1_takeBack_16 : decode cX1_takeBack 16 = .ok (.istore_n 2, 1) := by decide +kernel
theorem dX1_takeBack_17 : decode cX1_takeBack 17 = .ok (.aload_n 0, 1) := by decide +kernel
theorem dX1_takeBack_18 : decode cX1_takeBack 18 = .ok (.dup, 1) := by decide +kernel
theorem dX1_takeBack_19 : decode cX1_takeBack 19 = .ok (.getfield 19, 3) := by decide +kernel
theorem dX1_takeBack_22 : decode cX1_takeBack 22 = .ok (.iconst 1, 1) := by decide +kernel
theorem dX1_takeBack_23 : decode cX1_takeBack 23 = .ok (.iload_n 1, 1) := by decide +kernel
theorem dX1_takeBack_24 : decode cX1_takeBack 24 = .ok (.ishl, 1) := by decide +kernel
theorem dX1_takeBack_25 : decode cX1_takeBack 25 = .ok (.ior, 1) := by decide +kernel
theorem dX1_takeBack_26 : decode cX1_takeBack 26 = .ok (.putfield 19, 3) := by decide +kernel
theorem dX1_takeBack_29 : decode cX1_takeBack 29 = .ok (.iload_n 2, 1) := by decide +kernel
theorem dX1_takeBack_30 : decode cX1_takeBack 30 = .ok (.ireturn, 1) := by decide +kernel
set_option maxRecDepth 20000 in
theorem ggX1_standing_X3_contains : GoodIn wsX1_standing wsX3_contains := goodIn_r _ [7] (by decide +kernel) (by decide +kernel)
set_option maxRecDepth 20000 in
theorem gX1_standing_X3_contains_n25 : GoodIn wsX1_standing (wsX3_contains) := ggX1_standing_X3_contains
theorem dX1_standing_0 : decode cX1_standing 0 = .ok (.iconst 0, 1) := by decide +kernel
theorem dX1_standing_1 : decode cX1_standing 1 = .ok (.istore_n 1, 1) := by decide +kernel
theorem dX1_standing_2 : decode cX1_standing 2 = .ok (.iconst 0, 1) := by decide +kernel
theorem dX1_standing_3 : decode cX1_standing 3 = .ok (.istore_n 2, 1) := by decide +kernel
theorem dX1_standing_4 : decode cX1_standing 4 = .ok (.iload_n 2, 1) := by decide +kernel
theorem dX1_standing_5 : decode cX1_standing 5 = .ok (.aload_n 0, 1) := by decide +kernel
theorem dX1_standing_6 : decode cX1_standing 6 = .ok (.getfield 15, 3) := by decide +kernel
theorem dX1_standing_9 : decode cX1_standing 9 = .ok (.if_icmp .ge 42, 3) := by decide +kernel
theorem dX1_standing_12 : decode cX1_standing 12 = .ok (.aload_n 0, 1) := by decide +kernel
theorem dX1_standing_13 : decode cX1_standing 13 = .ok (.getfield 19, 3) := by decide +kernel
theorem dX1_standing_16 : decode cX1_standing 16 = .ok (.iload_n 2, 1) := by decide +kernel
theorem dX1_standing_17 : decode cX1_standing 17 = .ok (.invokestatic 25, 3) := by decide +kernel
theorem dX1_standing_20 : decode cX1_standing 20 = .ok (.ifCond .ne 25, 3) := by decide +kernel
theorem dX1_standing_23 : decode cX1_standing 23 = .ok (.aload_n 0, 1) := by decide +kernel
theorem dX1_standing_24 : decode cX1_standing 24 = .ok (.getfield 22, 3) := by decide +kernel
theorem dX1_standing_27 : decode cX1_standing 27 = .ok (.aload_n 0, 1) := by decide +kernel
theorem dX1_standing_28 : decode cX1_standing 28 = .ok (.getfield 9, 3) := by decide +kernel
theorem dX1_standing_31 : decode cX1_standing 31 = .ok (.iload_n 2, 1) := by decide +kernel
theorem dX1_standing_32 : decode cX1_standing 32 = .ok (.iaload, 1) := by decide +kernel
theorem dX1_standing_33 : decode cX1_standing 33 = .ok (.invokestatic 25, 3) := by decide +kernel
theorem dX1_standing_36 : decode cX1_standing 36 = .ok (.ifCond .ne 9, 3) := by decide +kernel
theorem dX1_standing_39 : decode cX1_standing 39 = .ok (.iload_n 1, 1) := by decide +kernel
theorem dX1_standing_40 : decode cX1_standing 40 = .ok (.iconst 1, 1) := by decide +kernel
theorem dX1_standing_41 : decode cX1_standing 41 = .ok (.iload_n 2, 1) := by decide +kernel
theorem dX1_standing_42 : decode cX1_standing 42 = .ok (.ishl, 1) := by decide +kernel
theorem dX1_standing_43 : decode cX1_standing 43 = .ok (.ior, 1) := by decide +kernel
theorem dX1_standing_44 : decode cX1_standing 44 = .ok (.istore_n 1, 1) := by decide +kernel
theorem dX1_standing_45 : decode cX1_standing 45 = .ok (.iinc 2 1, 3) := by decide +kernel
theorem dX1_standing_48 : decode cX1_standing 48 = .ok (.goto (-44), 3) := by decide +kernel
theorem dX1_standing_51 : decode cX1_standing 51 = .ok (.iload_n 1, 1) := by decide +kernel
theorem dX1_standing_52 : decode cX1_standing 52 = .ok (.ireturn, 1) := by decide +kernel
theorem dX2_init_0 : decode cX2_init 0 = .ok (.aload_n 0, 1) := by decide +kernel
theorem dX2_init_1 : decode cX2_init 1 = .ok (.invokespecial 3, 3) := by decide +kernel
theorem dX2_init_4 : decode cX2_init 4 = .ok (.aload_n 0, 1) := by decide +kernel
theorem dX2_init_5 : decode cX2_init 5 = .ok (.aload_n 1, 1) := by decide +kernel
theorem dX2_init_6 : decode cX2_init 6 = .ok (.putfield 9, 3) := by decide +kernel
theorem dX2_init_9 : decode cX2_init 9 = .ok (.aload_n 0, 1) := by decide +kernel
theorem dX2_init_10 : decode cX2_init 10 = .ok (.bipush 16, 2) := by decide +kernel
theorem dX2_init_12 : decode cX2_init 12 = .ok (.newarray .int, 2) := by decide +kernel
theorem dX2_init_14 : decode cX2_init 14 = .ok (.putfield 15, 3) := by decide +kernel
theorem dX2_init_17 : decode cX2_init 17 = .ok (.aload_n 0, 1) := by decide +kernel
theorem dX2_init_18 : decode cX2_init 18 = .ok (.iconst 0, 1) := by decide +kernel
theorem dX2_init_19 : decode cX2_init 19 = .ok (.putfield 19, 3) := by decide +kernel
theorem dX2_init_22 : decode cX2_init 22 = .ok (.aload_n 0, 1) := by decide +kernel
theorem dX2_init_23 : decode cX2_init 23 = .ok (.iconst 0, 1) := by decide +kernel
theorem dX2_init_24 : decode cX2_init 24 = .ok (.putfield 23, 3) := by decide +kernel
theorem dX2_init_27 : decode cX2_init 27 = .ok (.aload_n 0, 1) := by decide +kernel
theorem dX2_init_28 : decode cX2_init 28 = .ok (.iconst 0, 1) := by decide +kernel
theorem dX2_init_29 : decode cX2_init 29 = .ok (.putfield 26, 3) := by decide +kernel
theorem dX2_init_32 : decode cX2_init 32 = .ok (.aload_n 0, 1) := by decide +kernel
theorem dX2_init_33 : decode cX2_init 33 = .ok (.iconst 0, 1) := by decide +kernel
theorem dX2_init_34 : decode cX2_init 34 = .ok (.putfield 29, 3) := by decide +kernel
theorem dX2_init_37 : decode cX2_init 37 = .ok (.return_, 1) := by decide +kernel
theorem dX2_claimsIn_0 : decode cX2_claimsIn 0 = .ok (.aload_n 0, 1) := by decide +kernel
theorem dX2_claimsIn_1 : decode cX2_claimsIn 1 = .ok (.getfield 26, 3) := by decide +kernel
theorem dX2_claimsIn_4 : decode cX2_claimsIn 4 = .ok (.ireturn, 1) := by decide +kernel
set_option maxRecDepth 20000 in
theorem ggX2_decisionOn_X3_contains : GoodIn wsX2_decisionOn wsX3_contains := goodIn_r _ [5] (by decide +kernel) (by decide +kernel)
set_option maxRecDepth 20000 in
theorem gX2_decisionOn_X3_contains_n32 : GoodIn wsX2_decisionOn (wsX3_contains) := ggX2_decisionOn_X3_contains
theorem dX2_decisionOn_0 : decode cX2_decisionOn 0 = .ok (.aload_n 0, 1) := by decide +kernel
theorem dX2_decisionOn_1 : decode cX2_decisionOn 1 = .ok (.getfield 26, 3) := by decide +kernel
theorem dX2_decisionOn_4 : decode cX2_decisionOn 4 = .ok (.iload_n 1, 1) := by decide +kernel
theorem dX2_decisionOn_5 : decode cX2_decisionOn 5 = .ok (.invokestatic 32, 3) := by decide +kernel
theorem dX2_decisionOn_8 : decode cX2_decisionOn 8 = .ok (.ifCond .eq 5, 3) := by decide +kernel
theorem dX2_decisionOn_11 : decode cX2_decisionOn 11 = .ok (.iconst 1, 1) := by decide +kernel
theorem dX2_decisionOn_12 : decode cX2_decisionOn 12 = .ok (.ireturn, 1) := by decide +kernel
theorem dX2_decisionOn_13 : decode cX2_decisionOn 13 = .ok (.aload_n 0, 1) := by decide +kernel
theorem dX2_decisionOn_14 : decode cX2_decisionOn 14 = .ok (.getfield 29, 3) := by decide +kernel
theorem dX2_decisionOn_17 : decode cX2_decisionOn 17 = .ok (.iload_n 1, 1) := by decide +kernel
theorem dX2_decisionOn_18 : decode cX2_decisionOn 18 = .ok (.invokestatic 32, 3) := by decide +kernel
theorem dX2_decisionOn_21 : decode cX2_decisionOn 21 = .ok (.ifCond .eq 7, 3) := by decide +kernel
theorem dX2_decisionOn_24 : decode cX2_decisionOn 24 = .ok (.iconst 2, 1) := by decide +kernel
theorem dX2_decisionOn_25 : decode cX2_decisionOn 25 = .ok (.goto 4, 3) := by decide +kernel
theorem dX2_decisionOn_28 : decode cX2_decisionOn 28 = .ok (.iconst 0, 1) := by decide +kernel
theorem dX2_decisionOn_29 : decode cX2_decisionOn 29 = .ok (.ireturn, 1) := by decide +kernel
set_option maxRecDepth 20000 in
theorem ggX2_decideByGoingOn_X2_openAll : GoodIn wsX2_decideByGoingOn wsX2_openAll := goodIn_r _ [8, 2, 9, 10, 11, 48, 49, 50, 51, 52, 53] (by decide +kernel) (by decide +kernel)
set_option maxRecDepth 20000 in
theorem gX2_decideByGoingOn_X2_openAll : GoodIn wsX2_decideByGoingOn (wsV RX2 36 RX2 yX2_openAll wsX2_openAll) := goodIn_app (goodIn_of _ (by decide +kernel)) ggX2_decideByGoingOn_X2_openAll
set_option maxRecDepth 20000 in
theorem ggX2_decideByGoingOn_X0_size : GoodIn wsX2_decideByGoingOn wsX0_size := goodIn_r _ [16, 17, 54, 55, 56, 57, 58, 59, 60] (by decide +kernel) (by decide +kernel)
set_option maxRecDepth 20000 in
theorem gX2_decideByGoingOn_X0_size : GoodIn wsX2_decideByGoingOn (wsV RX2 40 RX0 yX0_size wsX0_size) := goodIn_app (goodIn_of _ (by decide +kernel)) ggX2_decideByGoingOn_X0_size
set_option maxRecDepth 20000 in
theorem ggX2_decideByGoingOn_X2_decideAndQueue : GoodIn wsX2_decideByGoingOn wsX2_decideAndQueue := goodIn_r _ [21, 2, 3, 22, 23, 24, 7, 25, 10, 11, 1, 9, 26, 27, 28, 29, 30, 31, 15, 32, 33, 34, 35, 36, 37, 38, 39, 48, 49, 50, 51, 52, 53, 54, 55, 56, 57, 58, 59, 60] (by decide +kernel) (by decide +kernel)
set_option maxRecDepth 20000 in
theorem gX2_decideByGoingOn_X2_decideAndQueue : GoodIn wsX2_decideByGoingOn (wsV RX2 46 RX2 yX2_decideAndQueue wsX2_decideAndQueue) := goodIn_app (goodIn_of _ (by decide +kernel)) ggX2_decideByGoingOn_X2_decideAndQueue
set_option maxRecDepth 20000 in
theorem ggX2_decideByGoingOn_X2_goOnFrom : GoodIn wsX2_decideByGoingOn wsX2_goOnFrom := goodIn_r _ [43, 1, 12, 13, 14, 15, 16, 17, 44, 45, 46, 47, 34, 35, 26, 27, 28, 18, 19, 20, 7, 21, 2, 3, 22, 23, 24, 25, 10, 11, 9, 29, 30, 31, 32, 33, 36, 37, 38, 39, 48, 49, 50, 51, 52, 53, 54, 55, 56, 57, 58, 59, 60] (by decide +kernel) (by decide +kernel)
set_option maxRecDepth 20000 in
theorem gX2_decideByGoingOn_X2_goOnFrom : GoodIn wsX2_decideByGoingOn (wsV RX2 49 RX2 yX2_goOnFrom wsX2_goOnFrom) := goodIn_app (goodIn_of _ (by decide +kernel)) ggX2_decideByGoingOn_X2_goOnFrom
theorem dX2_decideByGoingOn_0 : decode cX2_decideByGoingOn 0 = .ok (.aload_n 0, 1) := by decide +kernel
theorem dX2_decideByGoingOn_1 : decode cX2_decideByGoingOn 1 = .ok (.iload_n 1, 1) := by decide +kernel
theorem dX2_decideByGoingOn_2 : decode cX2_decideByGoingOn 2 = .ok (.invokevirtual 36, 3) := by decide +kernel
theorem dX2_decideByGoingOn_5 : decode cX2_decideByGoingOn 5 = .ok (.iconst 0, 1) := by decide +kernel
theorem dX2_decideByGoingOn_6 : decode cX2_decideByGoingOn 6 = .ok (.istore_n 2, 1) := by decide +kernel
theorem dX2_decideByGoingOn_7 : decode cX2_decideByGoingOn 7 = .ok (.iload_n 2, 1) := by decide +kernel
theorem dX2_decideByGoingOn_8 : decode cX2_decideByGoingOn 8 = .ok (.aload_n 0, 1) := by decide +kernel
theorem dX2_decideByGoingOn_9 : decode cX2_decideByGoingOn 9 = .ok (.getfield 9, 3) := by decide +kernel
theorem dX2_decideByGoingOn_12 : decode cX2_decideByGoingOn 12 = .ok (.invokevirtual 40, 3) := by decide +kernel
theorem dX2_decideByGoingOn_15 : decode cX2_decideByGoingOn 15 = .ok (.if_icmp .ge 14, 3) := by decide +kernel
theorem dX2_decideByGoingOn_18 : decode cX2_decideByGoingOn 18 = .ok (.aload_n 0, 1) := by decide +kernel
theorem dX2_decideByGoingOn_19 : decode cX2_decideByGoingOn 19 = .ok (.iload_n 2, 1) := by decide +kernel
theorem dX2_decideByGoingOn_20 : decode cX2_decideByGoingOn 20 = .ok (.invokevirtual 46, 3) := by decide +kernel
theorem dX2_decideByGoingOn_23 : decode cX2_decideByGoingOn 23 = .ok (.iinc 2 1, 3) := by decide +kernel
theorem dX2_decideByGoingOn_26 : decode cX2_decideByGoingOn 26 = .ok (.goto (-19), 3) := by decide +kernel
theorem dX2_decideByGoingOn_29 : decode cX2_decideByGoingOn 29 = .ok (.iconst 0, 1) := by decide +kernel
theorem dX2_decideByGoingOn_30 : decode cX2_decideByGoingOn 30 = .ok (.istore_n 2, 1) := by decide +kernel
theorem dX2_decideByGoingOn_31 : decode cX2_decideByGoingOn 31 = .ok (.iload_n 2, 1) := by decide +kernel
theorem dX2_decideByGoingOn_32 : decode cX2_decideByGoingOn 32 = .ok (.aload_n 0, 1) := by decide +kernel
theorem dX2_decideByGoingOn_33 : decode cX2_decideByGoingOn 33 = .ok (.getfield 19, 3) := by decide +kernel
theorem dX2_decideByGoingOn_36 : decode cX2_decideByGoingOn 36 = .ok (.if_icmp .ge 25, 3) := by decide +kernel
theorem dX2_decideByGoingOn_39 : decode cX2_decideByGoingOn 39 = .ok (.iload_n 2, 1) := by decide +kernel
theorem dX2_decideByGoingOn_40 : decode cX2_decideByGoingOn 40 = .ok (.bipush 16, 2) := by decide +kernel
theorem dX2_decideByGoingOn_42 : decode cX2_decideByGoingOn 42 = .ok (.if_icmp .ge 19, 3) := by decide +kernel
theorem dX2_decideByGoingOn_45 : decode cX2_decideByGoingOn 45 = .ok (.aload_n 0, 1) := by decide +kernel
theorem dX2_decideByGoingOn_46 : decode cX2_decideByGoingOn 46 = .ok (.aload_n 0, 1) := by decide +kernel
theorem dX2_decideByGoingOn_47 : decode cX2_decideByGoingOn 47 = .ok (.getfield 15, 3) := by decide +kernel
theorem dX2_decideByGoingOn_50 : decode cX2_decideByGoingOn 50 = .ok (.iload_n 2, 1) := by decide +kernel
theorem dX2_decideByGoingOn_51 : decode cX2_decideByGoingOn 51 = .ok (.iaload, 1) := by decide +kernel
theorem dX2_decideByGoingOn_52 : decode cX2_decideByGoingOn 52 = .ok (.invokevirtual 49, 3) := by decide +kernel
theorem dX2_decideByGoingOn_55 : decode cX2_decideByGoingOn 55 = .ok (.iinc 2 1, 3) := by decide +kernel
theorem dX2_decideByGoingOn_58 : decode cX2_decideByGoingOn 58 = .ok (.goto (-27), 3) := by decide +kernel
theorem dX2_decideByGoingOn_61 : decode cX2_decideByGoingOn 61 = .ok (.return_, 1) := by decide +kernel
set_option maxRecDepth 20000 in
theorem ggX2_decideInRounds_X2_openAll : GoodIn wsX2_decideInRounds wsX2_openAll := goodIn_r _ [6, 7, 8, 9, 10, 35, 36, 37, 38, 39, 40] (by decide +kernel) (by decide +kernel)
set_option maxRecDepth 20000 in
theorem gX2_decideInRounds_X2_openAll : GoodIn wsX2_decideInRounds (wsV RX2 36 RX2 yX2_openAll wsX2_openAll) := goodIn_app (goodIn_of _ (by decide +kernel)) ggX2_decideInRounds_X2_openAll
set_option maxRecDepth 20000 in
theorem ggX2_decideInRounds_X0_size : GoodIn wsX2_decideInRounds wsX0_size := goodIn_r _ [15, 16, 41, 42, 43, 44, 45, 46, 47] (by decide +kernel) (by decide +kernel)
set_option maxRecDepth 20000 in
theorem gX2_decideInRounds_X0_size : GoodIn wsX2_decideInRounds (wsV RX2 40 RX0 yX0_size wsX0_size) := goodIn_app (goodIn_of _ (by decide +kernel)) ggX2_decideInRounds_X0_size
set_option maxRecDepth 20000 in
theorem ggX2_decideInRounds_X2_decide : GoodIn wsX2_decideInRounds wsX2_decide := goodIn_r _ [20, 9, 10, 1, 8, 21, 22, 23, 24, 25, 26, 14, 27, 28, 29, 30, 31, 32, 33, 34, 35, 36, 37, 38, 39, 40, 41, 42, 43, 44, 45, 46, 47] (by decide +kernel) (by decide +kernel)
set_option maxRecDepth 20000 in
theorem gX2_decideInRounds_X2_decide : GoodIn wsX2_decideInRounds (wsV RX2 52 RX2 yX2_decide wsX2_decide) := goodIn_app (goodIn_of _ (by decide +kernel)) ggX2_decideInRounds_X2_decide
theorem dX2_decideInRounds_0 : decode cX2_decideInRounds 0 = .ok (.aload_n 0, 1) := by decide +kernel
theorem dX2_decideInRounds_1 : decode cX2_decideInRounds 1 = .ok (.iload_n 1, 1) := by decide +kernel
theorem dX2_decideInRounds_2 : decode cX2_decideInRounds 2 = .ok (.invokevirtual 36, 3) := by decide +kernel
theorem dX2_decideInRounds_5 : decode cX2_decideInRounds 5 = .ok (.iconst 1, 1) := by decide +kernel
theorem dX2_decideInRounds_6 : decode cX2_decideInRounds 6 = .ok (.istore_n 2, 1) := by decide +kernel
theorem dX2_decideInRounds_7 : decode cX2_decideInRounds 7 = .ok (.iconst 0, 1) := by decide +kernel
theorem dX2_decideInRounds_8 : decode cX2_decideInRounds 8 = .ok (.istore_n 3, 1) := by decide +kernel
theorem dX2_decideInRounds_9 : decode cX2_decideInRounds 9 = .ok (.iload_n 2, 1) := by decide +kernel
theorem dX2_decideInRounds_10 : decode cX2_decideInRounds 10 = .ok (.ifCond .eq 49, 3) := by decide +kernel
theorem dX2_decideInRounds_13 : decode cX2_decideInRounds 13 = .ok (.iload_n 3, 1) := by decide +kernel
theorem dX2_decideInRounds_14 : decode cX2_decideInRounds 14 = .ok (.bipush 16, 2) := by decide +kernel
theorem dX2_decideInRounds_16 : decode cX2_decideInRounds 16 = .ok (.if_icmp .ge 43, 3) := by decide +kernel
theorem dX2_decideInRounds_19 : decode cX2_decideInRounds 19 = .ok (.iconst 0, 1) := by decide +kernel
theorem dX2_decideInRounds_20 : decode cX2_decideInRounds 20 = .ok (.istore_n 2, 1) := by decide +kernel
theorem dX2_decideInRounds_21 : decode cX2_decideInRounds 21 = .ok (.iconst 0, 1) := by decide +kernel
theorem dX2_decideInRounds_22 : decode cX2_decideInRounds 22 = .ok (.istore 4, 2) := by decide +kernel
theorem dX2_decideInRounds_24 : decode cX2_decideInRounds 24 = .ok (.iload 4, 2) := by decide +kernel
theorem dX2_decideInRounds_26 : decode cX2_decideInRounds 26 = .ok (.aload_n 0, 1) := by decide +kernel
theorem dX2_decideInRounds_27 : decode cX2_decideInRounds 27 = .ok (.getfield 9, 3) := by decide +kernel
theorem dX2_decideInRounds_30 : decode cX2_decideInRounds 30 = .ok (.invokevirtual 40, 3) := by decide +kernel
theorem dX2_decideInRounds_33 : decode cX2_decideInRounds 33 = .ok (.if_icmp .ge 20, 3) := by decide +kernel
theorem dX2_decideInRounds_36 : decode cX2_decideInRounds 36 = .ok (.aload_n 0, 1) := by decide +kernel
theorem dX2_decideInRounds_37 : decode cX2_decideInRounds 37 = .ok (.iload 4, 2) := by decide +kernel
theorem dX2_decideInRounds_39 : decode cX2_decideInRounds 39 = .ok (.invokevirtual 52, 3) := by decide +kernel
theorem dX2_decideInRounds_42 : decode cX2_decideInRounds 42 = .ok (.ifCond .eq 5, 3) := by decide +kernel
theorem dX2_decideInRounds_45 : decode cX2_decideInRounds 45 = .ok (.iconst 1, 1) := by decide +kernel
theorem dX2_decideInRounds_46 : decode cX2_decideInRounds 46 = .ok (.istore_n 2, 1) := by decide +kernel
theorem dX2_decideInRounds_47 : decode cX2_decideInRounds 47 = .ok (.iinc 4 1, 3) := by decide +kernel
theorem dX2_decideInRounds_50 : decode cX2_decideInRounds 50 = .ok (.goto (-26), 3) := by decide +kernel
theorem dX2_decideInRounds_53 : decode cX2_decideInRounds 53 = .ok (.iinc 3 1, 3) := by decide +kernel
theorem dX2_decideInRounds_56 : decode cX2_decideInRounds 56 = .ok (.goto (-47), 3) := by decide +kernel
theorem dX2_decideInRounds_59 : decode cX2_decideInRounds 59 = .ok (.return_, 1) := by decide +kernel
theorem dX2_openAll_0 : decode cX2_openAll 0 = .ok (.aload_n 0, 1) := by decide +kernel
theorem dX2_openAll_1 : decode cX2_openAll 1 = .ok (.iconst 0, 1) := by decide +kernel
theorem dX2_openAll_2 : decode cX2_openAll 2 = .ok (.putfield 19, 3) := by decide +kernel
theorem dX2_openAll_5 : decode cX2_openAll 5 = .ok (.aload_n 0, 1) := by decide +kernel
theorem dX2_openAll_6 : decode cX2_openAll 6 = .ok (.iload_n 1, 1) := by decide +kernel
theorem dX2_openAll_7 : decode cX2_openAll 7 = .ok (.putfield 23, 3) := by decide +kernel
theorem dX2_openAll_10 : decode cX2_openAll 10 = .ok (.aload_n 0, 1) := by decide +kernel
theorem dX2_openAll_11 : decode cX2_openAll 11 = .ok (.iconst 0, 1) := by decide +kernel
theorem dX2_openAll_12 : decode cX2_openAll 12 = .ok (.putfield 26, 3) := by decide +kernel
theorem dX2_openAll_15 : decode cX2_openAll 15 = .ok (.aload_n 0, 1) := by decide +kernel
theorem dX2_openAll_16 : decode cX2_openAll 16 = .ok (.iconst 0, 1) := by decide +kernel
theorem dX2_openAll_17 : decode cX2_openAll 17 = .ok (.putfield 29, 3) := by decide +kernel
theorem dX2_openAll_20 : decode cX2_openAll 20 = .ok (.return_, 1) := by decide +kernel
set_option maxRecDepth 20000 in
theorem ggX2_goOnFrom_X0_size : GoodIn wsX2_goOnFrom wsX0_size := goodIn_r _ [6, 7, 46, 47, 48, 49, 50, 51, 52] (by decide +kernel) (by decide +kernel)
set_option maxRecDepth 20000 in
theorem gX2_goOnFrom_X0_size : GoodIn wsX2_goOnFrom (wsV RX2 40 RX0 yX0_size wsX0_size) := goodIn_app (goodIn_of _ (by decide +kernel)) ggX2_goOnFrom_X0_size
set_option maxRecDepth 20000 in
theorem ggX2_goOnFrom_X0_matters : GoodIn wsX2_goOnFrom wsX0_matters := goodIn_r _ [11, 12, 13, 14, 15, 16, 46, 47, 48, 49, 50, 51, 52] (by decide +kernel) (by decide +kernel)
set_option maxRecDepth 20000 in
theorem gX2_goOnFrom_X0_matters : GoodIn wsX2_goOnFrom (wsV RX2 56 RX0 yX0_matters wsX0_matters) := goodIn_app (goodIn_of _ (by decide +kernel)) ggX2_goOnFrom_X0_matters
set_option maxRecDepth 20000 in
theorem ggX2_goOnFrom_X2_decideAndQueue : GoodIn wsX2_goOnFrom wsX2_decideAndQueue := goodIn_r _ [21, 22, 23, 24, 25, 26, 20, 27, 28, 29, 1, 30, 14, 15, 16, 31, 32, 33, 5, 34, 35, 12, 13, 36, 37, 38, 39, 40, 41, 42, 43, 44, 45, 46, 47, 48, 49, 50, 51, 52] (by decide +kernel) (by decide +kernel)
set_option maxRecDepth 20000 in
theorem gX2_goOnFrom_X2_decideAndQueue : GoodIn wsX2_goOnFrom (wsV RX2 46 RX2 yX2_decideAndQueue wsX2_decideAndQueue) := goodIn_app (goodIn_of _ (by decide +kernel)) ggX2_goOnFrom_X2_decideAndQueue
theorem dX2_goOnFrom_0 : decode cX2_goOnFrom 0 = .ok (.iconst 0, 1) := by decide +kernel
theorem dX2_goOnFrom_1 : decode cX2_goOnFrom 1 = .ok (.istore_n 2, 1) := by decide +kernel
theorem dX2_goOnFrom_2 : decode cX2_goOnFrom 2 = .ok (.iload_n 2, 1) := by decide +kernel
theorem dX2_goOnFrom_3 : decode cX2_goOnFrom 3 = .ok (.aload_n 0, 1) := by decide +kernel
theorem dX2_goOnFrom_4 : decode cX2_goOnFrom 4 = .ok (.getfield 9, 3) := by decide +kernel
theorem dX2_goOnFrom_7 : decode cX2_goOnFrom 7 = .ok (.invokevirtual 40, 3) := by decide +kernel
theorem dX2_goOnFrom_10 : decode cX2_goOnFrom 10 = .ok (.if_icmp .ge 26, 3) := by decide +kernel
theorem dX2_goOnFrom_13 : decode cX2_goOnFrom 13 = .ok (.aload_n 0, 1) := by decide +kernel
theorem dX2_goOnFrom_14 : decode cX2_goOnFrom 14 = .ok (.getfield 9, 3) := by decide +kernel
theorem dX2_goOnFrom_17 : decode cX2_goOnFrom 17 = .ok (.iload_n 2, 1) := by decide +kernel
theorem dX2_goOnFrom_18 : decode cX2_goOnFrom 18 = .ok (.iload_n 1, 1) := by decide +kernel
theorem dX2_goOnFrom_19 : decode cX2_goOnFrom 19 = .ok (.invokevirtual 56, 3) := by decide +kernel
theorem dX2_goOnFrom_22 : decode cX2_goOnFrom 22 = .ok (.ifCond .eq 8, 3) := by decide +kernel
theorem dX2_goOnFrom_25 : decode cX2_goOnFrom 25 = .ok (.aload_n 0, 1) := by decide +kernel
theorem dX2_goOnFrom_26 : decode cX2_goOnFrom 26 = .ok (.iload_n 2, 1) := by decide +kernel
theorem dX2_goOnFrom_27 : decode cX2_goOnFrom 27 = .ok (.invokevirtual 46, 3) := by decide +kernel
theorem dX2_goOnFrom_30 : decode cX2_goOnFrom 30 = .ok (.iinc 2 1, 3) := by decide +kernel
theorem dX2_goOnFrom_33 : decode cX2_goOnFrom 33 = .ok (.goto (-31), 3) := by decide +kernel
theorem dX2_goOnFrom_36 : decode cX2_goOnFrom 36 = .ok (.return_, 1) := by decide +kernel
set_option maxRecDepth 20000 in
theorem ggX2_decideAndQueue_X2_decide : GoodIn wsX2_decideAndQueue wsX2_decide := goodIn_r _ [7, 8, 9, 10, 11, 12, 13, 14, 15, 16, 17, 18, 19, 20, 21, 22, 23, 24, 25, 26, 27, 28, 29, 30, 31, 32, 33, 34, 35, 36, 37, 38, 39] (by decide +kernel) (by decide +kernel)
set_option maxRecDepth 20000 in
theorem gX2_decideAndQueue_X2_decide : GoodIn wsX2_decideAndQueue (wsV RX2 52 RX2 yX2_decide wsX2_decide) := goodIn_app (goodIn_of _ (by decide +kernel)) ggX2_decideAndQueue_X2_decide
theorem dX2_decideAndQueue_0 : decode cX2_decideAndQueue 0 = .ok (.aload_n 0, 1) := by decide +kernel
theorem dX2_decideAndQueue_1 : decode cX2_decideAndQueue 1 = .ok (.iload_n 1, 1) := by decide +kernel
theorem dX2_decideAndQueue_2 : decode cX2_decideAndQueue 2 = .ok (.invokevirtual 52, 3) := by decide +kernel
theorem dX2_decideAndQueue_5 : decode cX2_decideAndQueue 5 = .ok (.ifCond .eq 32, 3) := by decide +kernel
theorem dX2_decideAndQueue_8 : decode cX2_decideAndQueue 8 = .ok (.aload_n 0, 1) := by decide +kernel
theorem dX2_decideAndQueue_9 : decode cX2_decideAndQueue 9 = .ok (.getfield 19, 3) := by decide +kernel
theorem dX2_decideAndQueue_12 : decode cX2_decideAndQueue 12 = .ok (.bipush 16, 2) := by decide +kernel
theorem dX2_decideAndQueue_14 : decode cX2_decideAndQueue 14 = .ok (.if_icmp .ge 23, 3) := by decide +kernel
theorem dX2_decideAndQueue_17 : decode cX2_decideAndQueue 17 = .ok (.aload_n 0, 1) := by decide +kernel
theorem dX2_decideAndQueue_18 : decode cX2_decideAndQueue 18 = .ok (.getfield 15, 3) := by decide +kernel
theorem dX2_decideAndQueue_21 : decode cX2_decideAndQueue 21 = .ok (.aload_n 0, 1) := by decide +kernel
theorem dX2_decideAndQueue_22 : decode cX2_decideAndQueue 22 = .ok (.getfield 19, 3) := by decide +kernel
theorem dX2_decideAndQueue_25 : decode cX2_decideAndQueue 25 = .ok (.iload_n 1, 1) := by decide +kernel
theorem dX2_decideAndQueue_26 : decode cX2_decideAndQueue 26 = .ok (.iastore, 1) := by decide +kernel
theorem dX2_decideAndQueue_27 : decode cX2_decideAndQueue 27 = .ok (.aload_n 0, 1) := by decide +kernel
theorem dX2_decideAndQueue_28 : decode cX2_decideAndQueue 28 = .ok (.dup, 1) := by decide +kernel
theorem dX2_decideAndQueue_29 : decode cX2_decideAndQueue 29 = .ok (.getfield 19, 3) := by decide +kernel
theorem dX2_decideAndQueue_32 : decode cX2_decideAndQueue 32 = .ok (.iconst 1, 1) := by decide +kernel
theorem dX2_decideAndQueue_33 : decode cX2_decideAndQueue 33 = .ok (.iadd, 1) := by decide +kernel
theorem dX2_decideAndQueue_34 : decode cX2_decideAndQueue 34 = .ok (.putfield 19, 3) := by decide +kernel
theorem dX2_decideAndQueue_37 : decode cX2_decideAndQueue 37 = .ok (.return_, 1) := by decide +kernel
set_option maxRecDepth 20000 in
theorem ggX2_decide_X3_contains : GoodIn wsX2_decide wsX3_contains := goodIn_r _ [7] (by decide +kernel) (by decide +kernel)
set_option maxRecDepth 20000 in
theorem gX2_decide_X3_contains_n32 : GoodIn wsX2_decide (wsX3_contains) := ggX2_decide_X3_contains
set_option maxRecDepth 20000 in
theorem ggX2_decide_X0_fails : GoodIn wsX2_decide wsX0_fails := goodIn_r _ [12, 13, 14, 15, 26, 27, 28, 29, 30, 31, 32] (by decide +kernel) (by decide +kernel)
set_option maxRecDepth 20000 in
theorem gX2_decide_X0_fails : GoodIn wsX2_decide (wsV RX2 59 RX0 yX0_fails wsX0_fails) := goodIn_app (goodIn_of _ (by decide +kernel)) ggX2_decide_X0_fails
set_option maxRecDepth 20000 in
theorem ggX2_decide_X0_holds : GoodIn wsX2_decide wsX0_holds := goodIn_r _ [19, 13, 14, 15, 26, 27, 28, 29, 30, 31, 32] (by decide +kernel) (by decide +kernel)
set_option maxRecDepth 20000 in
theorem gX2_decide_X0_holds : GoodIn wsX2_decide (wsV RX2 63 RX0 yX0_holds wsX0_holds) := goodIn_app (goodIn_of _ (by decide +kernel)) ggX2_decide_X0_holds
theorem dX2_decide_0 : decode cX2_decide 0 = .ok (.aload_n 0, 1) := by decide +kernel
theorem dX2_decide_1 : decode cX2_decide 1 = .ok (.getfield 26, 3) := by decide +kernel
theorem dX2_decide_4 : decode cX2_decide 4 = .ok (.aload_n 0, 1) := by decide +kernel
theorem dX2_decide_5 : decode cX2_decide 5 = .ok (.getfield 29, 3) := by decide +kernel
theorem dX2_decide_8 : decode cX2_decide 8 = .ok (.ior, 1) := by decide +kernel
theorem dX2_decide_9 : decode cX2_decide 9 = .ok (.iload_n 1, 1) := by decide +kernel
theorem dX2_decide_10 : decode cX2_decide 10 = .ok (.invokestatic 32, 3) := by decide +kernel
theorem dX2_decide_13 : decode cX2_decide 13 = .ok (.ifCond .eq 5, 3) := by decide +kernel
theorem dX2_decide_16 : decode cX2_decide 16 = .ok (.iconst 0, 1) := by decide +kernel
theorem dX2_decide_17 : decode cX2_decide 17 = .ok (.ireturn, 1) := by decide +kernel
theorem dX2_decide_18 : decode cX2_decide 18 = .ok (.aload_n 0, 1) := by decide +kernel
theorem dX2_decide_19 : decode cX2_decide 19 = .ok (.getfield 9, 3) := by decide +kernel
theorem dX2_decide_22 : decode cX2_decide 22 = .ok (.iload_n 1, 1) := by decide +kernel
theorem dX2_decide_23 : decode cX2_decide 23 = .ok (.aload_n 0, 1) := by decide +kernel
theorem dX2_decide_24 : decode cX2_decide 24 = .ok (.getfield 23, 3) := by decide +kernel
theorem dX2_decide_27 : decode cX2_decide 27 = .ok (.aload_n 0, 1) := by decide +kernel
theorem dX2_decide_28 : decode cX2_decide 28 = .ok (.getfield 26, 3) := by decide +kernel
theorem dX2_decide_31 : decode cX2_decide 31 = .ok (.aload_n 0, 1) := by decide +kernel
theorem dX2_decide_32 : decode cX2_decide 32 = .ok (.getfield 29, 3) := by decide +kernel
theorem dX2_decide_35 : decode cX2_decide 35 = .ok (.invokevirtual 59, 3) := by decide +kernel
theorem dX2_decide_38 : decode cX2_decide 38 = .ok (.ifCond .eq 17, 3) := by decide +kernel
theorem dX2_decide_41 : decode cX2_decide 41 = .ok (.aload_n 0, 1) := by decide +kernel
theorem dX2_decide_42 : decode cX2_decide 42 = .ok (.dup, 1) := by decide +kernel
theorem dX2_decide_43 : decode cX2_decide 43 = .ok (.getfield 29, 3) := by decide +kernel
theorem dX2_decide_46 : decode cX2_decide 46 = .ok (.iconst 1, 1) := by decide +kernel
theorem dX2_decide_47 : decode cX2_decide 47 = .ok (.iload_n 1, 1) := by decide +kernel
theorem dX2_decide_48 : decode cX2_decide 48 = .ok (.ishl, 1) := by decide +kernel
theorem dX2_decide_49 : decode cX2_decide 49 = .ok (.ior, 1) := by decide +kernel
theorem dX2_decide_50 : decode cX2_decide 50 = .ok (.putfield 29, 3) := by decide +kernel
theorem dX2_decide_53 : decode cX2_decide 53 = .ok (.iconst 1, 1) := by decide +kernel
theorem dX2_decide_54 : decode cX2_decide 54 = .ok (.ireturn, 1) := by decide +kernel
theorem dX2_decide_55 : decode cX2_decide 55 = .ok (.aload_n 0, 1) := by decide +kernel
theorem dX2_decide_56 : decode cX2_decide 56 = .ok (.getfield 9, 3) := by decide +kernel
theorem dX2_decide_59 : decode cX2_decide 59 = .ok (.iload_n 1, 1) := by decide +kernel
theorem dX2_decide_60 : decode cX2_decide 60 = .ok (.aload_n 0, 1) := by decide +kernel
theorem dX2_decide_61 : decode cX2_decide 61 = .ok (.getfield 23, 3) := by decide +kernel
theorem dX2_decide_64 : decode cX2_decide 64 = .ok (.aload_n 0, 1) := by decide +kernel
theorem dX2_decide_65 : decode cX2_decide 65 = .ok (.getfield 26, 3) := by decide +kernel
theorem dX2_decide_68 : decode cX2_decide 68 = .ok (.aload_n 0, 1) := by decide +kernel
theorem dX2_decide_69 : decode cX2_decide 69 = .ok (.getfield 29, 3) := by decide +kernel
theorem dX2_decide_72 : decode cX2_decide 72 = .ok (.invokevirtual 63, 3) := by decide +kernel
theorem dX2_decide_75 : decode cX2_decide 75 = .ok (.ifCond .eq 17, 3) := by decide +kernel
theorem dX2_decide_78 : decode cX2_decide 78 = .ok (.aload_n 0, 1) := by decide +kernel
theorem dX2_decide_79 : decode cX2_decide 79 = .ok (.dup, 1) := by decide +kernel
theorem dX2_decide_80 : decode cX2_decide 80 = .ok (.getfield 26, 3) := by decide +kernel
theorem dX2_decide_83 : decode cX2_decide 83 = .ok (.iconst 1, 1) := by decide +kernel
theorem dX2_decide_84 : decode cX2_decide 84 = .ok (.iload_n 1, 1) := by decide +kernel
theorem dX2_decide_85 : decode cX2_decide 85 = .ok (.ishl, 1) := by decide +kernel
theorem dX2_decide_86 : decode cX2_decide 86 = .ok (.ior, 1) := by decide +kernel
theorem dX2_decide_87 : decode cX2_decide 87 = .ok (.putfield 26, 3) := by decide +kernel
theorem dX2_decide_90 : decode cX2_decide 90 = .ok (.iconst 1, 1) := by decide +kernel
theorem dX2_decide_91 : decode cX2_decide 91 = .ok (.ireturn, 1) := by decide +kernel
theorem dX2_decide_92 : decode cX2_decide 92 = .ok (.iconst 0, 1) := by decide +kernel
theorem dX2_decide_93 : decode cX2_decide 93 = .ok (.ireturn, 1) := by decide +kernel
theorem dJ7_fill_53178_0 : decode cJ7_fill_53178 0 = .ok (.iconst 0, 1) := by decide +kernel
theorem dJ7_fill_53178_1 : decode cJ7_fill_53178 1 = .ok (.istore_n 2, 1) := by decide +kernel
theorem dJ7_fill_53178_2 : decode cJ7_fill_53178 2 = .ok (.aload_n 0, 1) := by decide +kernel
theorem dJ7_fill_53178_3 : decode cJ7_fill_53178 3 = .ok (.arraylength, 1) := by decide +kernel
theorem dJ7_fill_53178_4 : decode cJ7_fill_53178 4 = .ok (.istore_n 3, 1) := by decide +kernel
theorem dJ7_fill_53178_5 : decode cJ7_fill_53178 5 = .ok (.iload_n 2, 1) := by decide +kernel
theorem dJ7_fill_53178_6 : decode cJ7_fill_53178 6 = .ok (.iload_n 3, 1) := by decide +kernel
theorem dJ7_fill_53178_7 : decode cJ7_fill_53178 7 = .ok (.if_icmp .ge 13, 3) := by decide +kernel
theorem dJ7_fill_53178_10 : decode cJ7_fill_53178 10 = .ok (.aload_n 0, 1) := by decide +kernel
theorem dJ7_fill_53178_11 : decode cJ7_fill_53178 11 = .ok (.iload_n 2, 1) := by decide +kernel
theorem dJ7_fill_53178_12 : decode cJ7_fill_53178 12 = .ok (.iload_n 1, 1) := by decide +kernel
theorem dJ7_fill_53178_13 : decode cJ7_fill_53178 13 = .ok (.iastore, 1) := by decide +kernel
theorem dJ7_fill_53178_14 : decode cJ7_fill_53178 14 = .ok (.iinc 2 1, 3) := by decide +kernel
theorem dJ7_fill_53178_17 : decode cJ7_fill_53178 17 = .ok (.goto (-12), 3) := by decide +kernel
theorem dJ7_fill_53178_20 : decode cJ7_fill_53178 20 = .ok (.return_, 1) := by decide +kernel
end
section
set_option maxRecDepth 20000 in
theorem ggX3_init_X1_init : GoodIn wsX3_init wsX1_init := goodIn_r _ [21, 22, 2, 3, 16, 23, 24, 25, 26, 52, 53, 54, 55] (by decide +kernel) (by decide +kernel)
set_option maxRecDepth 20000 in
theorem gX3_init_X1_init : GoodIn wsX3_init (wsX1_init) := ggX3_init_X1_init
set_option maxRecDepth 20000 in
theorem ggX3_init_X0_init : GoodIn wsX3_init wsX0_init := goodIn_r _ [29, 30, 2, 3, 16, 31, 32, 33, 34, 35, 36, 37, 38, 39, 40, 41, 61, 62, 63, 64, 65, 66, 67] (by decide +kernel) (by decide +kernel)
set_option maxRecDepth 20000 in
theorem gX3_init_X0_init : GoodIn wsX3_init (wsX0_init) := ggX3_init_X0_init
set_option maxRecDepth 20000 in
theorem ggX3_init_X2_init : GoodIn wsX3_init wsX2_init := goodIn_r _ [44, 45, 2, 3, 46, 16, 47, 48, 49, 50, 51, 68, 69, 70, 71, 72, 73] (by decide +kernel) (by decide +kernel)
set_option maxRecDepth 20000 in
theorem gX3_init_X2_init : GoodIn wsX3_init (wsX2_init) := ggX3_init_X2_init
theorem dX3_init_0 : decode cX3_init 0 = .ok (.aload_n 0, 1) := by decide +kernel
theorem dX3_init_1 : decode cX3_init 1 = .ok (.invokespecial 1, 3) := by decide +kernel
theorem dX3_init_4 : decode cX3_init 4 = .ok (.aload_n 0, 1) := by decide +kernel
theorem dX3_init_5 : decode cX3_init 5 = .ok (.new 7, 3) := by decide +kernel
theorem dX3_init_8 : decode cX3_init 8 = .ok (.dup, 1) := by decide +kernel
theorem dX3_init_9 : decode cX3_init 9 = .ok (.invokespecial 9, 3) := by decide +kernel
theorem dX3_init_12 : decode cX3_init 12 = .ok (.putfield 10, 3) := by decide +kernel
theorem dX3_init_15 : decode cX3_init 15 = .ok (.aload_n 0, 1) := by decide +kernel
theorem dX3_init_16 : decode cX3_init 16 = .ok (.new 16, 3) := by decide +kernel
theorem dX3_init_19 : decode cX3_init 19 = .ok (.dup, 1) := by decide +kernel
theorem dX3_init_20 : decode cX3_init 20 = .ok (.invokespecial 18, 3) := by decide +kernel
theorem dX3_init_23 : decode cX3_init 23 = .ok (.putfield 19, 3) := by decide +kernel
theorem dX3_init_26 : decode cX3_init 26 = .ok (.aload_n 0, 1) := by decide +kernel
theorem dX3_init_27 : decode cX3_init 27 = .ok (.new 23, 3) := by decide +kernel
theorem dX3_init_30 : decode cX3_init 30 = .ok (.dup, 1) := by decide +kernel
theorem dX3_init_31 : decode cX3_init 31 = .ok (.aload_n 0, 1) := by decide +kernel
theorem dX3_init_32 : decode cX3_init 32 = .ok (.getfield 19, 3) := by decide +kernel
theorem dX3_init_35 : decode cX3_init 35 = .ok (.invokespecial 25, 3) := by decide +kernel
theorem dX3_init_38 : decode cX3_init 38 = .ok (.putfield 28, 3) := by decide +kernel
theorem dX3_init_41 : decode cX3_init 41 = .ok (.aload_n 0, 1) := by decide +kernel
theorem dX3_init_42 : decode cX3_init 42 = .ok (.iconst 3, 1) := by decide +kernel
theorem dX3_init_43 : decode cX3_init 43 = .ok (.newarray .int, 2) := by decide +kernel
theorem dX3_init_45 : decode cX3_init 45 = .ok (.putfield 32, 3) := by decide +kernel
theorem dX3_init_48 : decode cX3_init 48 = .ok (.aload_n 0, 1) := by decide +kernel
theorem dX3_init_49 : decode cX3_init 49 = .ok (.iconst 0, 1) := by decide +kernel
theorem dX3_init_50 : decode cX3_init 50 = .ok (.putfield 36, 3) := by decide +kernel
theorem dX3_init_53 : decode cX3_init 53 = .ok (.return_, 1) := by decide +kernel
set_option maxRecDepth 20000 in
theorem ggX3_addFact_X3_checkSource : GoodIn wsX3_addFact wsX3_checkSource := goodIn_ca (goodIn_r _ [8, 9, 10] (by decide +kernel) (by decide +kernel)) (goodIn_sub (fun _ h => List.mem_cons_of_mem _ (List.mem_append_right _ h)) (by decide +kernel))
set_option maxRecDepth 20000 in
theorem gX3_addFact_X3_checkSource : GoodIn wsX3_addFact (wsV RX3 40 RX3 yX3_checkSource wsX3_checkSource) := goodIn_app (goodIn_of _ (by decide +kernel)) ggX3_addFact_X3_checkSource
set_option maxRecDepth 20000 in
theorem ggX3_addFact_X1_add : GoodIn wsX3_addFact wsX1_add := goodIn_r _ [15, 16, 17, 23, 24, 25, 26] (by decide +kernel) (by decide +kernel)
set_option maxRecDepth 20000 in
theorem gX3_addFact_X1_add : GoodIn wsX3_addFact (wsV RX3 44 RX1 yX1_add wsX1_add) := goodIn_app (goodIn_of _ (by decide +kernel)) ggX3_addFact_X1_add
theorem dX3_addFact_0 : decode cX3_addFact 0 = .ok (.aload_n 0, 1) := by decide +kernel
theorem dX3_addFact_1 : decode cX3_addFact 1 = .ok (.iload_n 1, 1) := by decide +kernel
theorem dX3_addFact_2 : decode cX3_addFact 2 = .ok (.invokevirtual 40, 3) := by decide +kernel
theorem dX3_addFact_5 : decode cX3_addFact 5 = .ok (.aload_n 0, 1) := by decide +kernel
theorem dX3_addFact_6 : decode cX3_addFact 6 = .ok (.getfield 10, 3) := by decide +kernel
theorem dX3_addFact_9 : decode cX3_addFact 9 = .ok (.iload_n 1, 1) := by decide +kernel
theorem dX3_addFact_10 : decode cX3_addFact 10 = .ok (.invokevirtual 44, 3) := by decide +kernel
theorem dX3_addFact_13 : decode cX3_addFact 13 = .ok (.istore_n 2, 1) := by decide +kernel
theorem dX3_addFact_14 : decode cX3_addFact 14 = .ok (.iload_n 2, 1) := by decide +kernel
theorem dX3_addFact_15 : decode cX3_addFact 15 = .ok (.iconst (-1), 1) := by decide +kernel
theorem dX3_addFact_16 : decode cX3_addFact 16 = .ok (.if_icmp .ne 13, 3) := by decide +kernel
theorem dX3_addFact_19 : decode cX3_addFact 19 = .ok (.new 48, 3) := by decide +kernel
theorem dX3_addFact_22 : decode cX3_addFact 22 = .ok (.dup, 1) := by decide +kernel
theorem dX3_addFact_23 : decode cX3_addFact 23 = .ok (.ldc 50, 2) := by decide +kernel
theorem dX3_addFact_25 : decode cX3_addFact 25 = .ok (.invokespecial 52, 3) := by decide +kernel
theorem dX3_addFact_28 : decode cX3_addFact 28 = .ok (.athrow, 1) := by decide +kernel
theorem dX3_addFact_29 : decode cX3_addFact 29 = .ok (.iload_n 2, 1) := by decide +kernel
theorem dX3_addFact_30 : decode cX3_addFact 30 = .ok (.ireturn, 1) := by decide +kernel
set_option maxRecDepth 20000 in
theorem ggX3_toggleSource_X3_checkSource : GoodIn wsX3_toggleSource wsX3_checkSource := goodIn_ca (goodIn_r _ [6, 7, 8] (by decide +kernel) (by decide +kernel)) (goodIn_sub (fun _ h => List.mem_cons_of_mem _ (List.mem_append_right _ h)) (by decide +kernel))
set_option maxRecDepth 20000 in
theorem gX3_toggleSource_X3_checkSource : GoodIn wsX3_toggleSource (wsV RX3 40 RX3 yX3_checkSource wsX3_checkSource) := goodIn_app (goodIn_of _ (by decide +kernel)) ggX3_toggleSource_X3_checkSource
set_option maxRecDepth 20000 in
theorem ggX3_toggleSource_X1_flipSource : GoodIn wsX3_toggleSource wsX1_flipSource := goodIn_r _ [13, 14, 15, 5, 16, 22, 23, 24, 25] (by decide +kernel) (by decide +kernel)
set_option maxRecDepth 20000 in
theorem gX3_toggleSource_X1_flipSource : GoodIn wsX3_toggleSource (wsV RX3 55 RX1 yX1_flipSource wsX1_flipSource) := goodIn_app (goodIn_of _ (by decide +kernel)) ggX3_toggleSource_X1_flipSource
theorem dX3_toggleSource_0 : decode cX3_toggleSource 0 = .ok (.aload_n 0, 1) := by decide +kernel
theorem dX3_toggleSource_1 : decode cX3_toggleSource 1 = .ok (.iload_n 1, 1) := by decide +kernel
theorem dX3_toggleSource_2 : decode cX3_toggleSource 2 = .ok (.invokevirtual 40, 3) := by decide +kernel
theorem dX3_toggleSource_5 : decode cX3_toggleSource 5 = .ok (.aload_n 0, 1) := by decide +kernel
theorem dX3_toggleSource_6 : decode cX3_toggleSource 6 = .ok (.getfield 10, 3) := by decide +kernel
theorem dX3_toggleSource_9 : decode cX3_toggleSource 9 = .ok (.iload_n 1, 1) := by decide +kernel
theorem dX3_toggleSource_10 : decode cX3_toggleSource 10 = .ok (.invokevirtual 55, 3) := by decide +kernel
theorem dX3_toggleSource_13 : decode cX3_toggleSource 13 = .ok (.ireturn, 1) := by decide +kernel
set_option maxRecDepth 20000 in
theorem ggX3_withdraw_X3_checkFact : GoodIn wsX3_withdraw wsX3_checkFact := goodIn_ca (goodIn_r _ [6, 7, 8, 1, 9, 10, 11, 12, 13, 14, 22, 23, 24, 25, 26, 27, 28, 29, 30] (by decide +kernel) (by decide +kernel)) (goodIn_sub (fun _ h => List.mem_cons_of_mem _ (List.mem_append_right _ h)) (by decide +kernel))
set_option maxRecDepth 20000 in
theorem gX3_withdraw_X3_checkFact : GoodIn wsX3_withdraw (wsV RX3 59 RX3 yX3_checkFact wsX3_checkFact) := goodIn_app (goodIn_of _ (by decide +kernel)) ggX3_withdraw_X3_checkFact
set_option maxRecDepth 20000 in
theorem ggX3_withdraw_X1_takeBack : GoodIn wsX3_withdraw wsX1_takeBack := goodIn_r _ [18, 19, 20, 5, 21, 27, 28, 29, 30] (by decide +kernel) (by decide +kernel)
set_option maxRecDepth 20000 in
theorem gX3_withdraw_X1_takeBack : GoodIn wsX3_withdraw (wsV RX3 62 RX1 yX1_takeBack wsX1_takeBack) := goodIn_app (goodIn_of _ (by decide +kernel)) ggX3_withdraw_X1_takeBack
theorem dX3_withdraw_0 : decode cX3_withdraw 0 = .ok (.aload_n 0, 1) := by decide +kernel
theorem dX3_withdraw_1 : decode cX3_withdraw 1 = .ok (.iload_n 1, 1) := by decide +kernel
theorem dX3_withdraw_2 : decode cX3_withdraw 2 = .ok (.invokevirtual 59, 3) := by decide +kernel
theorem dX3_withdraw_5 : decode cX3_withdraw 5 = .ok (.aload_n 0, 1) := by decide +kernel
theorem dX3_withdraw_6 : decode cX3_withdraw 6 = .ok (.getfield 10, 3) := by decide +kernel
theorem dX3_withdraw_9 : decode cX3_withdraw 9 = .ok (.iload_n 1, 1) := by decide +kernel
theorem dX3_withdraw_10 : decode cX3_withdraw 10 = .ok (.invokevirtual 62, 3) := by decide +kernel
theorem dX3_withdraw_13 : decode cX3_withdraw 13 = .ok (.ireturn, 1) := by decide +kernel
set_option maxRecDepth 20000 in
theorem ggX3_factStands_X3_checkFact : GoodIn wsX3_factStands wsX3_checkFact := goodIn_ca (goodIn_r _ [6, 7, 8, 1, 9, 10, 11, 12, 13, 14, 25, 26, 27, 28, 29, 30, 31, 32, 33] (by decide +kernel) (by decide +kernel)) (goodIn_sub (fun _ h => List.mem_cons_of_mem _ (List.mem_append_right _ h)) (by decide +kernel))
set_option maxRecDepth 20000 in
theorem gX3_factStands_X3_checkFact : GoodIn wsX3_factStands (wsV RX3 59 RX3 yX3_checkFact wsX3_checkFact) := goodIn_app (goodIn_of _ (by decide +kernel)) ggX3_factStands_X3_checkFact
set_option maxRecDepth 20000 in
theorem ggX3_factStands_X1_standing : GoodIn wsX3_factStands wsX1_standing := goodIn_r _ [18, 14, 19, 20, 21, 22, 5, 23, 30, 31, 32, 33] (by decide +kernel) (by decide +kernel)
set_option maxRecDepth 20000 in
theorem gX3_factStands_X1_standing : GoodIn wsX3_factStands (wsV RX3 65 RX1 yX1_standing wsX1_standing) := goodIn_app (goodIn_of _ (by decide +kernel)) ggX3_factStands_X1_standing
set_option maxRecDepth 20000 in
theorem ggX3_factStands_X3_contains : GoodIn wsX3_factStands wsX3_contains := goodIn_r _ [23] (by decide +kernel) (by decide +kernel)
set_option maxRecDepth 20000 in
theorem gX3_factStands_X3_contains : GoodIn wsX3_factStands (va_wsS RX3 69 yX3_contains wsX3_contains) := goodIn_app (goodIn_of _ (by decide +kernel)) ggX3_factStands_X3_contains
theorem dX3_factStands_0 : decode cX3_factStands 0 = .ok (.aload_n 0, 1) := by decide +kernel
theorem dX3_factStands_1 : decode cX3_factStands 1 = .ok (.iload_n 1, 1) := by decide +kernel
theorem dX3_factStands_2 : decode cX3_factStands 2 = .ok (.invokevirtual 59, 3) := by decide +kernel
theorem dX3_factStands_5 : decode cX3_factStands 5 = .ok (.aload_n 0, 1) := by decide +kernel
theorem dX3_factStands_6 : decode cX3_factStands 6 = .ok (.getfield 10, 3) := by decide +kernel
theorem dX3_factStands_9 : decode cX3_factStands 9 = .ok (.invokevirtual 65, 3) := by decide +kernel
theorem dX3_factStands_12 : decode cX3_factStands 12 = .ok (.iload_n 1, 1) := by decide +kernel
theorem dX3_factStands_13 : decode cX3_factStands 13 = .ok (.invokestatic 69, 3) := by decide +kernel
theorem dX3_factStands_16 : decode cX3_factStands 16 = .ok (.ireturn, 1) := by decide +kernel
set_option maxRecDepth 20000 in
theorem ggX3_facts_X1_size : GoodIn wsX3_facts wsX1_size := goodIn_r _ [6, 7, 13, 14, 15, 16] (by decide +kernel) (by decide +kernel)
set_option maxRecDepth 20000 in
theorem gX3_facts_X1_size : GoodIn wsX3_facts (wsV RX3 73 RX1 yX1_size wsX1_size) := goodIn_app (goodIn_of _ (by decide +kernel)) ggX3_facts_X1_size
theorem dX3_facts_0 : decode cX3_facts 0 = .ok (.aload_n 0, 1) := by decide +kernel
theorem dX3_facts_1 : decode cX3_facts 1 = .ok (.getfield 10, 3) := by decide +kernel
theorem dX3_facts_4 : decode cX3_facts 4 = .ok (.invokevirtual 73, 3) := by decide +kernel
theorem dX3_facts_7 : decode cX3_facts 7 = .ok (.ireturn, 1) := by decide +kernel
set_option maxRecDepth 20000 in
theorem ggX3_claim_X1_hasAll : GoodIn wsX3_claim wsX1_hasAll := goodIn_r _ [11, 12, 34, 35, 36, 37] (by decide +kernel) (by decide +kernel)
set_option maxRecDepth 20000 in
theorem gX3_claim_X1_hasAll : GoodIn wsX3_claim (wsV RX3 76 RX1 yX1_hasAll wsX1_hasAll) := goodIn_app (goodIn_of _ (by decide +kernel)) ggX3_claim_X1_hasAll
set_option maxRecDepth 20000 in
theorem ggX3_claim_X0_add : GoodIn wsX3_claim wsX0_add := goodIn_r _ [17, 18, 19, 20, 21, 22, 23, 24, 25, 26, 27, 16, 28, 38, 39, 40, 41, 42, 43, 44] (by decide +kernel) (by decide +kernel)
set_option maxRecDepth 20000 in
theorem gX3_claim_X0_add : GoodIn wsX3_claim (wsV RX3 86 RX0 yX0_add wsX0_add) := goodIn_app (goodIn_of _ (by decide +kernel)) ggX3_claim_X0_add
theorem dX3_claim_0 : decode cX3_claim 0 = .ok (.aload_n 0, 1) := by decide +kernel
theorem dX3_claim_1 : decode cX3_claim 1 = .ok (.getfield 10, 3) := by decide +kernel
theorem dX3_claim_4 : decode cX3_claim 4 = .ok (.iload_n 1, 1) := by decide +kernel
theorem dX3_claim_5 : decode cX3_claim 5 = .ok (.invokevirtual 76, 3) := by decide +kernel
theorem dX3_claim_8 : decode cX3_claim 8 = .ok (.ifCond .ne 13, 3) := by decide +kernel
theorem dX3_claim_11 : decode cX3_claim 11 = .ok (.new 79, 3) := by decide +kernel
theorem dX3_claim_14 : decode cX3_claim 14 = .ok (.dup, 1) := by decide +kernel
theorem dX3_claim_15 : decode cX3_claim 15 = .ok (.ldc 81, 2) := by decide +kernel
theorem dX3_claim_17 : decode cX3_claim 17 = .ok (.invokespecial 83, 3) := by decide +kernel
theorem dX3_claim_20 : decode cX3_claim 20 = .ok (.athrow, 1) := by decide +kernel
theorem dX3_claim_21 : decode cX3_claim 21 = .ok (.iload_n 2, 1) := by decide +kernel
theorem dX3_claim_22 : decode cX3_claim 22 = .ok (.iconst 1, 1) := by decide +kernel
theorem dX3_claim_23 : decode cX3_claim 23 = .ok (.if_icmp .lt 9, 3) := by decide +kernel
theorem dX3_claim_26 : decode cX3_claim 26 = .ok (.iload_n 2, 1) := by decide +kernel
theorem dX3_claim_27 : decode cX3_claim 27 = .ok (.bipush 100, 2) := by decide +kernel
theorem dX3_claim_29 : decode cX3_claim 29 = .ok (.if_icmp .le 13, 3) := by decide +kernel
theorem dX3_claim_32 : decode cX3_claim 32 = .ok (.new 79, 3) := by decide +kernel
theorem dX3_claim_35 : decode cX3_claim 35 = .ok (.dup, 1) := by decide +kernel
theorem dX3_claim_36 : decode cX3_claim 36 = .ok (.ldc 84, 2) := by decide +kernel
theorem dX3_claim_38 : decode cX3_claim 38 = .ok (.invokespecial 83, 3) := by decide +kernel
theorem dX3_claim_41 : decode cX3_claim 41 = .ok (.athrow, 1) := by decide +kernel
theorem dX3_claim_42 : decode cX3_claim 42 = .ok (.aload_n 0, 1) := by decide +kernel
theorem dX3_claim_43 : decode cX3_claim 43 = .ok (.getfield 19, 3) := by decide +kernel
theorem dX3_claim_46 : decode cX3_claim 46 = .ok (.iload_n 1, 1) := by decide +kernel
theorem dX3_claim_47 : decode cX3_claim 47 = .ok (.iload_n 2, 1) := by decide +kernel
theorem dX3_claim_48 : decode cX3_claim 48 = .ok (.invokevirtual 86, 3) := by decide +kernel
theorem dX3_claim_51 : decode cX3_claim 51 = .ok (.istore_n 3, 1) := by decide +kernel
theorem dX3_claim_52 : decode cX3_claim 52 = .ok (.iload_n 3, 1) := by decide +kernel
theorem dX3_claim_53 : decode cX3_claim 53 = .ok (.iconst (-1), 1) := by decide +kernel
theorem dX3_claim_54 : decode cX3_claim 54 = .ok (.if_icmp .ne 13, 3) := by decide +kernel
theorem dX3_claim_57 : decode cX3_claim 57 = .ok (.new 48, 3) := by decide +kernel
theorem dX3_claim_60 : decode cX3_claim 60 = .ok (.dup, 1) := by decide +kernel
theorem dX3_claim_61 : decode cX3_claim 61 = .ok (.ldc 89, 2) := by decide +kernel
theorem dX3_claim_63 : decode cX3_claim 63 = .ok (.invokespecial 52, 3) := by decide +kernel
theorem dX3_claim_66 : decode cX3_claim 66 = .ok (.athrow, 1) := by decide +kernel
theorem dX3_claim_67 : decode cX3_claim 67 = .ok (.iload_n 3, 1) := by decide +kernel
theorem dX3_claim_68 : decode cX3_claim 68 = .ok (.ireturn, 1) := by decide +kernel
set_option maxRecDepth 20000 in
theorem ggX3_skip_X0_passTurn : GoodIn wsX3_skip wsX0_passTurn := goodIn_r _ [6, 7, 17, 18, 19, 20, 21, 22, 23] (by decide +kernel) (by decide +kernel)
set_option maxRecDepth 20000 in
theorem gX3_skip_X0_passTurn : GoodIn wsX3_skip (wsV RX3 91 RX0 yX0_passTurn wsX0_passTurn) := goodIn_app (goodIn_of _ (by decide +kernel)) ggX3_skip_X0_passTurn
set_option maxRecDepth 20000 in
theorem ggX3_skip_X0_speaker : GoodIn wsX3_skip wsX0_speaker := goodIn_r _ [11, 7, 17, 18, 19, 20, 21, 22, 23] (by decide +kernel) (by decide +kernel)
set_option maxRecDepth 20000 in
theorem gX3_skip_X0_speaker : GoodIn wsX3_skip (wsV RX3 94 RX0 yX0_speaker wsX0_speaker) := goodIn_app (goodIn_of _ (by decide +kernel)) ggX3_skip_X0_speaker
theorem dX3_skip_0 : decode cX3_skip 0 = .ok (.aload_n 0, 1) := by decide +kernel
theorem dX3_skip_1 : decode cX3_skip 1 = .ok (.getfield 19, 3) := by decide +kernel
theorem dX3_skip_4 : decode cX3_skip 4 = .ok (.invokevirtual 91, 3) := by decide +kernel
theorem dX3_skip_7 : decode cX3_skip 7 = .ok (.aload_n 0, 1) := by decide +kernel
theorem dX3_skip_8 : decode cX3_skip 8 = .ok (.getfield 19, 3) := by decide +kernel
theorem dX3_skip_11 : decode cX3_skip 11 = .ok (.invokevirtual 94, 3) := by decide +kernel
theorem dX3_skip_14 : decode cX3_skip 14 = .ok (.ireturn, 1) := by decide +kernel
set_option maxRecDepth 20000 in
theorem ggX3_rest_X3_checkTwoClaims : GoodIn wsX3_rest wsX3_checkTwoClaims := goodIn_ca (goodIn_ca (goodIn_r _ [6, 7, 8, 9, 10, 11, 5, 12, 13, 14, 1, 15, 16, 17, 18, 19, 20, 28, 29, 30, 31, 32, 33, 34, 35, 36, 37, 38, 39] (by decide +kernel) (by decide +kernel)) (goodIn_sub (fun _ h => List.mem_cons_of_mem _ (List.mem_append_left _ (List.mem_append_right _ h))) (by decide +kernel))) (goodIn_sub (fun _ h => List.mem_cons_of_mem _ (List.mem_append_right _ h)) (by decide +kernel))
set_option maxRecDepth 20000 in
theorem gX3_rest_X3_checkTwoClaims : GoodIn wsX3_rest (wsV RX3 97 RX3 yX3_checkTwoClaims wsX3_checkTwoClaims) := goodIn_app (goodIn_of _ (by decide +kernel)) ggX3_rest_X3_checkTwoClaims
set_option maxRecDepth 20000 in
theorem ggX3_rest_X0_flipRest : GoodIn wsX3_rest wsX0_flipRest := goodIn_r _ [24, 25, 26, 5, 27, 33, 34, 35, 36, 37, 38, 39] (by decide +kernel) (by decide +kernel)
set_option maxRecDepth 20000 in
theorem gX3_rest_X0_flipRest : GoodIn wsX3_rest (wsV RX3 101 RX0 yX0_flipRest wsX0_flipRest) := goodIn_app (goodIn_of _ (by decide +kernel)) ggX3_rest_X0_flipRest
theorem dX3_rest_0 : decode cX3_rest 0 = .ok (.aload_n 0, 1) := by decide +kernel
theorem dX3_rest_1 : decode cX3_rest 1 = .ok (.iload_n 1, 1) := by decide +kernel
theorem dX3_rest_2 : decode cX3_rest 2 = .ok (.iload_n 2, 1) := by decide +kernel
theorem dX3_rest_3 : decode cX3_rest 3 = .ok (.invokevirtual 97, 3) := by decide +kernel
theorem dX3_rest_6 : decode cX3_rest 6 = .ok (.aload_n 0, 1) := by decide +kernel
theorem dX3_rest_7 : decode cX3_rest 7 = .ok (.getfield 19, 3) := by decide +kernel
theorem dX3_rest_10 : decode cX3_rest 10 = .ok (.iload_n 1, 1) := by decide +kernel
theorem dX3_rest_11 : decode cX3_rest 11 = .ok (.iload_n 2, 1) := by decide +kernel
theorem dX3_rest_12 : decode cX3_rest 12 = .ok (.invokevirtual 101, 3) := by decide +kernel
theorem dX3_rest_15 : decode cX3_rest 15 = .ok (.ireturn, 1) := by decide +kernel
set_option maxRecDepth 20000 in
theorem ggX3_attack_X3_checkTwoClaims : GoodIn wsX3_attack wsX3_checkTwoClaims := goodIn_ca (goodIn_ca (goodIn_r _ [6, 7, 8, 9, 10, 11, 5, 12, 13, 14, 1, 15, 16, 17, 18, 19, 20, 28, 29, 30, 31, 32, 33, 34, 35, 36, 37, 38, 39] (by decide +kernel) (by decide +kernel)) (goodIn_sub (fun _ h => List.mem_cons_of_mem _ (List.mem_append_left _ (List.mem_append_right _ h))) (by decide +kernel))) (goodIn_sub (fun _ h => List.mem_cons_of_mem _ (List.mem_append_right _ h)) (by decide +kernel))
set_option maxRecDepth 20000 in
theorem gX3_attack_X3_checkTwoClaims : GoodIn wsX3_attack (wsV RX3 97 RX3 yX3_checkTwoClaims wsX3_checkTwoClaims) := goodIn_app (goodIn_of _ (by decide +kernel)) ggX3_attack_X3_checkTwoClaims
set_option maxRecDepth 20000 in
theorem ggX3_attack_X0_flipAttack : GoodIn wsX3_attack wsX0_flipAttack := goodIn_r _ [24, 25, 26, 5, 27, 33, 34, 35, 36, 37, 38, 39] (by decide +kernel) (by decide +kernel)
set_option maxRecDepth 20000 in
theorem gX3_attack_X0_flipAttack : GoodIn wsX3_attack (wsV RX3 104 RX0 yX0_flipAttack wsX0_flipAttack) := goodIn_app (goodIn_of _ (by decide +kernel)) ggX3_attack_X0_flipAttack
theorem dX3_attack_0 : decode cX3_attack 0 = .ok (.aload_n 0, 1) := by decide +kernel
theorem dX3_attack_1 : decode cX3_attack 1 = .ok (.iload_n 1, 1) := by decide +kernel
theorem dX3_attack_2 : decode cX3_attack 2 = .ok (.iload_n 2, 1) := by decide +kernel
theorem dX3_attack_3 : decode cX3_attack 3 = .ok (.invokevirtual 97, 3) := by decide +kernel
theorem dX3_attack_6 : decode cX3_attack 6 = .ok (.aload_n 0, 1) := by decide +kernel
theorem dX3_attack_7 : decode cX3_attack 7 = .ok (.getfield 19, 3) := by decide +kernel
theorem dX3_attack_10 : decode cX3_attack 10 = .ok (.iload_n 1, 1) := by decide +kernel
theorem dX3_attack_11 : decode cX3_attack 11 = .ok (.iload_n 2, 1) := by decide +kernel
theorem dX3_attack_12 : decode cX3_attack 12 = .ok (.invokevirtual 104, 3) := by decide +kernel
theorem dX3_attack_15 : decode cX3_attack 15 = .ok (.ireturn, 1) := by decide +kernel
set_option maxRecDepth 20000 in
theorem ggX3_claims_X0_size : GoodIn wsX3_claims wsX0_size := goodIn_r _ [6, 7, 13, 14, 15, 16, 17, 18, 19] (by decide +kernel) (by decide +kernel)
set_option maxRecDepth 20000 in
theorem gX3_claims_X0_size : GoodIn wsX3_claims (wsV RX3 107 RX0 yX0_size wsX0_size) := goodIn_app (goodIn_of _ (by decide +kernel)) ggX3_claims_X0_size
theorem dX3_claims_0 : decode cX3_claims 0 = .ok (.aload_n 0, 1) := by decide +kernel
theorem dX3_claims_1 : decode cX3_claims 1 = .ok (.getfield 19, 3) := by decide +kernel
theorem dX3_claims_4 : decode cX3_claims 4 = .ok (.invokevirtual 107, 3) := by decide +kernel
theorem dX3_claims_7 : decode cX3_claims 7 = .ok (.ireturn, 1) := by decide +kernel
set_option maxRecDepth 20000 in
theorem ggX3_playerOf_X3_checkClaim : GoodIn wsX3_playerOf wsX3_checkClaim := goodIn_ca (goodIn_r _ [6, 7, 8, 1, 9, 10, 11, 12, 13, 14, 20, 21, 22, 23, 24, 25, 26, 27, 28, 29, 30, 31] (by decide +kernel) (by decide +kernel)) (goodIn_sub (fun _ h => List.mem_cons_of_mem _ (List.mem_append_right _ h)) (by decide +kernel))
set_option maxRecDepth 20000 in
theorem gX3_playerOf_X3_checkClaim : GoodIn wsX3_playerOf (wsV RX3 108 RX3 yX3_checkClaim wsX3_checkClaim) := goodIn_app (goodIn_of _ (by decide +kernel)) ggX3_playerOf_X3_checkClaim
set_option maxRecDepth 20000 in
theorem ggX3_playerOf_X0_ownerOf : GoodIn wsX3_playerOf wsX0_ownerOf := goodIn_r _ [18, 19, 25, 26, 27, 28, 29, 30, 31] (by decide +kernel) (by decide +kernel)
set_option maxRecDepth 20000 in
theorem gX3_playerOf_X0_ownerOf : GoodIn wsX3_playerOf (wsV RX3 111 RX0 yX0_ownerOf wsX0_ownerOf) := goodIn_app (goodIn_of _ (by decide +kernel)) ggX3_playerOf_X0_ownerOf
theorem dX3_playerOf_0 : decode cX3_playerOf 0 = .ok (.aload_n 0, 1) := by decide +kernel
theorem dX3_playerOf_1 : decode cX3_playerOf 1 = .ok (.iload_n 1, 1) := by decide +kernel
theorem dX3_playerOf_2 : decode cX3_playerOf 2 = .ok (.invokevirtual 108, 3) := by decide +kernel
theorem dX3_playerOf_5 : decode cX3_playerOf 5 = .ok (.aload_n 0, 1) := by decide +kernel
theorem dX3_playerOf_6 : decode cX3_playerOf 6 = .ok (.getfield 19, 3) := by decide +kernel
theorem dX3_playerOf_9 : decode cX3_playerOf 9 = .ok (.iload_n 1, 1) := by decide +kernel
theorem dX3_playerOf_10 : decode cX3_playerOf 10 = .ok (.invokevirtual 111, 3) := by decide +kernel
theorem dX3_playerOf_13 : decode cX3_playerOf 13 = .ok (.ireturn, 1) := by decide +kernel
set_option maxRecDepth 20000 in
theorem ggX3_turn_X0_speaker : GoodIn wsX3_turn wsX0_speaker := goodIn_r _ [6, 7, 13, 14, 15, 16, 17, 18, 19] (by decide +kernel) (by decide +kernel)
set_option maxRecDepth 20000 in
theorem gX3_turn_X0_speaker : GoodIn wsX3_turn (wsV RX3 94 RX0 yX0_speaker wsX0_speaker) := goodIn_app (goodIn_of _ (by decide +kernel)) ggX3_turn_X0_speaker
theorem dX3_turn_0 : decode cX3_turn 0 = .ok (.aload_n 0, 1) := by decide +kernel
theorem dX3_turn_1 : decode cX3_turn 1 = .ok (.getfield 19, 3) := by decide +kernel
theorem dX3_turn_4 : decode cX3_turn 4 = .ok (.invokevirtual 94, 3) := by decide +kernel
theorem dX3_turn_7 : decode cX3_turn 7 = .ok (.ireturn, 1) := by decide +kernel
set_option maxRecDepth 20000 in
theorem ggX3_bank_X3_checkPlayer : GoodIn wsX3_bank wsX3_checkPlayer := goodIn_ca (goodIn_r _ [6, 7, 8] (by decide +kernel) (by decide +kernel)) (goodIn_sub (fun _ h => List.mem_cons_of_mem _ (List.mem_append_right _ h)) (by decide +kernel))
set_option maxRecDepth 20000 in
theorem gX3_bank_X3_checkPlayer : GoodIn wsX3_bank (wsV RX3 114 RX3 yX3_checkPlayer wsX3_checkPlayer) := goodIn_app (goodIn_of _ (by decide +kernel)) ggX3_bank_X3_checkPlayer
set_option maxRecDepth 20000 in
theorem ggX3_bank_X0_secondsLeft : GoodIn wsX3_bank wsX0_secondsLeft := goodIn_r _ [13, 14, 20, 21, 22, 23, 24, 25, 26] (by decide +kernel) (by decide +kernel)
set_option maxRecDepth 20000 in
theorem gX3_bank_X0_secondsLeft : GoodIn wsX3_bank (wsV RX3 117 RX0 yX0_secondsLeft wsX0_secondsLeft) := goodIn_app (goodIn_of _ (by decide +kernel)) ggX3_bank_X0_secondsLeft
theorem dX3_bank_0 : decode cX3_bank 0 = .ok (.aload_n 0, 1) := by decide +kernel
theorem dX3_bank_1 : decode cX3_bank 1 = .ok (.iload_n 1, 1) := by decide +kernel
theorem dX3_bank_2 : decode cX3_bank 2 = .ok (.invokevirtual 114, 3) := by decide +kernel
theorem dX3_bank_5 : decode cX3_bank 5 = .ok (.aload_n 0, 1) := by decide +kernel
theorem dX3_bank_6 : decode cX3_bank 6 = .ok (.getfield 19, 3) := by decide +kernel
theorem dX3_bank_9 : decode cX3_bank 9 = .ok (.iload_n 1, 1) := by decide +kernel
theorem dX3_bank_10 : decode cX3_bank 10 = .ok (.invokevirtual 117, 3) := by decide +kernel
theorem dX3_bank_13 : decode cX3_bank 13 = .ok (.ireturn, 1) := by decide +kernel
set_option maxRecDepth 20000 in
theorem ggX3_stateOf_X3_checkClaim : GoodIn wsX3_stateOf wsX3_checkClaim := goodIn_ca (goodIn_r _ [7, 8, 9, 10, 11, 12, 13, 14, 15, 16, 75, 76, 77, 78, 79, 80, 81, 82, 83, 84, 85, 86] (by decide +kernel) (by decide +kernel)) (goodIn_sub (fun _ h => List.mem_cons_of_mem _ (List.mem_append_right _ h)) (by decide +kernel))
set_option maxRecDepth 20000 in
theorem gX3_stateOf_X3_checkClaim : GoodIn wsX3_stateOf (wsV RX3 108 RX3 yX3_checkClaim wsX3_checkClaim) := goodIn_app (goodIn_of _ (by decide +kernel)) ggX3_stateOf_X3_checkClaim
set_option maxRecDepth 20000 in
theorem ggX3_stateOf_X1_standing : GoodIn wsX3_stateOf wsX1_standing := goodIn_r _ [21, 22, 23, 24, 25, 26, 6, 27, 87, 88, 89, 90] (by decide +kernel) (by decide +kernel)
set_option maxRecDepth 20000 in
theorem gX3_stateOf_X1_standing : GoodIn wsX3_stateOf (wsV RX3 65 RX1 yX1_standing wsX1_standing) := goodIn_app (goodIn_of _ (by decide +kernel)) ggX3_stateOf_X1_standing
set_option maxRecDepth 20000 in
theorem ggX3_stateOf_X2_decideByGoingOn : GoodIn wsX3_stateOf wsX2_decideByGoingOn := goodIn_r _ [32, 33, 34, 35, 36, 37, 38, 31, 39, 40, 41, 42, 43, 12, 13, 14, 15, 16, 44, 45, 46, 47, 48, 49, 50, 51, 26, 6, 27, 52, 53, 54, 55, 56, 57, 58, 59, 60, 61, 62, 63, 64, 65, 66, 67, 68, 69, 70, 91, 92, 93, 94, 95, 96, 80, 81, 82, 83, 84, 85, 86] (by decide +kernel) (by decide +kernel)
set_option maxRecDepth 20000 in
theorem gX3_stateOf_X2_decideByGoingOn : GoodIn wsX3_stateOf (wsV RX3 120 RX2 yX2_decideByGoingOn wsX2_decideByGoingOn) := goodIn_app (goodIn_of _ (by decide +kernel)) ggX3_stateOf_X2_decideByGoingOn
set_option maxRecDepth 20000 in
theorem ggX3_stateOf_X2_decisionOn : GoodIn wsX3_stateOf wsX2_decisionOn := goodIn_r _ [74, 41, 42, 26, 6, 27, 91, 92, 93, 94, 95, 96] (by decide +kernel) (by decide +kernel)
set_option maxRecDepth 20000 in
theorem gX3_stateOf_X2_decisionOn : GoodIn wsX3_stateOf (wsV RX3 123 RX2 yX2_decisionOn wsX2_decisionOn) := goodIn_app (goodIn_of _ (by decide +kernel)) ggX3_stateOf_X2_decisionOn
theorem dX3_stateOf_0 : decode cX3_stateOf 0 = .ok (.aload_n 0, 1) := by decide +kernel
theorem dX3_stateOf_1 : decode cX3_stateOf 1 = .ok (.iload_n 1, 1) := by decide +kernel
theorem dX3_stateOf_2 : decode cX3_stateOf 2 = .ok (.invokevirtual 108, 3) := by decide +kernel
theorem dX3_stateOf_5 : decode cX3_stateOf 5 = .ok (.aload_n 0, 1) := by decide +kernel
theorem dX3_stateOf_6 : decode cX3_stateOf 6 = .ok (.getfield 28, 3) := by decide +kernel
theorem dX3_stateOf_9 : decode cX3_stateOf 9 = .ok (.aload_n 0, 1) := by decide +kernel
theorem dX3_stateOf_10 : decode cX3_stateOf 10 = .ok (.getfield 10, 3) := by decide +kernel
theorem dX3_stateOf_13 : decode cX3_stateOf 13 = .ok (.invokevirtual 65, 3) := by decide +kernel
theorem dX3_stateOf_16 : decode cX3_stateOf 16 = .ok (.invokevirtual 120, 3) := by decide +kernel
theorem dX3_stateOf_19 : decode cX3_stateOf 19 = .ok (.aload_n 0, 1) := by decide +kernel
theorem dX3_stateOf_20 : decode cX3_stateOf 20 = .ok (.getfield 28, 3) := by decide +kernel
theorem dX3_stateOf_23 : decode cX3_stateOf 23 = .ok (.iload_n 1, 1) := by decide +kernel
theorem dX3_stateOf_24 : decode cX3_stateOf 24 = .ok (.invokevirtual 123, 3) := by decide +kernel
theorem dX3_stateOf_27 : decode cX3_stateOf 27 = .ok (.ireturn, 1) := by decide +kernel
set_option maxRecDepth 20000 in
theorem ggX3_stateByRounds_X3_checkClaim : GoodIn wsX3_stateByRounds wsX3_checkClaim := goodIn_ca (goodIn_r _ [7, 8, 9, 10, 11, 12, 13, 14, 15, 16, 62, 63, 64, 65, 66, 67, 68, 69, 70, 71, 72, 73] (by decide +kernel) (by decide +kernel)) (goodIn_sub (fun _ h => List.mem_cons_of_mem _ (List.mem_append_right _ h)) (by decide +kernel))
set_option maxRecDepth 20000 in
theorem gX3_stateByRounds_X3_checkClaim : GoodIn wsX3_stateByRounds (wsV RX3 108 RX3 yX3_checkClaim wsX3_checkClaim) := goodIn_app (goodIn_of _ (by decide +kernel)) ggX3_stateByRounds_X3_checkClaim
set_option maxRecDepth 20000 in
theorem ggX3_stateByRounds_X1_standing : GoodIn wsX3_stateByRounds wsX1_standing := goodIn_r _ [21, 22, 23, 24, 25, 26, 6, 27, 74, 75, 76, 77] (by decide +kernel) (by decide +kernel)
set_option maxRecDepth 20000 in
theorem gX3_stateByRounds_X1_standing : GoodIn wsX3_stateByRounds (wsV RX3 65 RX1 yX1_standing wsX1_standing) := goodIn_app (goodIn_of _ (by decide +kernel)) ggX3_stateByRounds_X1_standing
set_option maxRecDepth 20000 in
theorem ggX3_stateByRounds_X2_decideInRounds : GoodIn wsX3_stateByRounds wsX2_decideInRounds := goodIn_r _ [32, 33, 34, 35, 36, 31, 37, 38, 39, 40, 41, 42, 12, 13, 14, 15, 16, 43, 44, 45, 46, 26, 6, 27, 47, 48, 49, 50, 51, 52, 53, 54, 55, 56, 57, 78, 79, 80, 81, 82, 83, 67, 68, 69, 70, 71, 72, 73] (by decide +kernel) (by decide +kernel)
set_option maxRecDepth 20000 in
theorem gX3_stateByRounds_X2_decideInRounds : GoodIn wsX3_stateByRounds (wsV RX3 126 RX2 yX2_decideInRounds wsX2_decideInRounds) := goodIn_app (goodIn_of _ (by decide +kernel)) ggX3_stateByRounds_X2_decideInRounds
set_option maxRecDepth 20000 in
theorem ggX3_stateByRounds_X2_decisionOn : GoodIn wsX3_stateByRounds wsX2_decisionOn := goodIn_r _ [61, 40, 41, 26, 6, 27, 78, 79, 80, 81, 82, 83] (by decide +kernel) (by decide +kernel)
set_option maxRecDepth 20000 in
theorem gX3_stateByRounds_X2_decisionOn : GoodIn wsX3_stateByRounds (wsV RX3 123 RX2 yX2_decisionOn wsX2_decisionOn) := goodIn_app (goodIn_of _ (by decide +kernel)) ggX3_stateByRounds_X2_decisionOn
theorem dX3_stateByRounds_0 : decode cX3_stateByRounds 0 = .ok (.aload_n 0, 1) := by decide +kernel
theorem dX3_stateByRounds_1 : decode cX3_stateByRounds 1 = .ok (.iload_n 1, 1) := by decide +kernel
theorem dX3_stateByRounds_2 : decode cX3_stateByRounds 2 = .ok (.invokevirtual 108, 3) := by decide +kernel
theorem dX3_stateByRounds_5 : decode cX3_stateByRounds 5 = .ok (.aload_n 0, 1) := by decide +kernel
theorem dX3_stateByRounds_6 : decode cX3_stateByRounds 6 = .ok (.getfield 28, 3) := by decide +kernel
theorem dX3_stateByRounds_9 : decode cX3_stateByRounds 9 = .ok (.aload_n 0, 1) := by decide +kernel
theorem dX3_stateByRounds_10 : decode cX3_stateByRounds 10 = .ok (.getfield 10, 3) := by decide +kernel
theorem dX3_stateByRounds_13 : decode cX3_stateByRounds 13 = .ok (.invokevirtual 65, 3) := by decide +kernel
theorem dX3_stateByRounds_16 : decode cX3_stateByRounds 16 = .ok (.invokevirtual 126, 3) := by decide +kernel
theorem dX3_stateByRounds_19 : decode cX3_stateByRounds 19 = .ok (.aload_n 0, 1) := by decide +kernel
theorem dX3_stateByRounds_20 : decode cX3_stateByRounds 20 = .ok (.getfield 28, 3) := by decide +kernel
theorem dX3_stateByRounds_23 : decode cX3_stateByRounds 23 = .ok (.iload_n 1, 1) := by decide +kernel
theorem dX3_stateByRounds_24 : decode cX3_stateByRounds 24 = .ok (.invokevirtual 123, 3) := by decide +kernel
theorem dX3_stateByRounds_27 : decode cX3_stateByRounds 27 = .ok (.ireturn, 1) := by decide +kernel
set_option maxRecDepth 20000 in
theorem ggX3_score_X3_checkPlayer : GoodIn wsX3_score wsX3_checkPlayer := goodIn_ca (goodIn_r _ [6, 7, 8] (by decide +kernel) (by decide +kernel)) (goodIn_sub (fun _ h => List.mem_cons_of_mem _ (List.mem_append_right _ h)) (by decide +kernel))
set_option maxRecDepth 20000 in
theorem gX3_score_X3_checkPlayer : GoodIn wsX3_score (wsV RX3 114 RX3 yX3_checkPlayer wsX3_checkPlayer) := goodIn_app (goodIn_of _ (by decide +kernel)) ggX3_score_X3_checkPlayer
set_option maxRecDepth 20000 in
theorem ggX3_score_X1_standing : GoodIn wsX3_score wsX1_standing := goodIn_r _ [13, 14, 15, 16, 17, 18, 5, 19, 88, 89, 90, 91] (by decide +kernel) (by decide +kernel)
set_option maxRecDepth 20000 in
theorem gX3_score_X1_standing : GoodIn wsX3_score (wsV RX3 65 RX1 yX1_standing wsX1_standing) := goodIn_app (goodIn_of _ (by decide +kernel)) ggX3_score_X1_standing
set_option maxRecDepth 20000 in
theorem ggX3_score_X3_scoreIf : GoodIn wsX3_score wsX3_scoreIf := goodIn_r _ [23, 24, 25, 26, 27, 28, 29, 30, 31, 32, 33, 34, 35, 36, 37, 38, 39, 40, 41, 42, 43, 44, 45, 46, 47, 48, 49, 50, 51, 52, 53, 54, 18, 5, 19, 55, 56, 57, 58, 59, 60, 61, 62, 63, 64, 65, 66, 67, 68, 69, 70, 71, 72, 73, 74, 75, 76, 77, 78, 79, 80, 81, 82, 83, 84, 85, 86, 87, 92, 93, 94, 95, 96, 97, 98, 99, 100, 101, 102, 103, 104] (by decide +kernel) (by decide +kernel)
set_option maxRecDepth 20000 in
theorem gX3_score_X3_scoreIf : GoodIn wsX3_score (wsV RX3 129 RX3 yX3_scoreIf wsX3_scoreIf) := goodIn_app (goodIn_of _ (by decide +kernel)) ggX3_score_X3_scoreIf
theorem dX3_score_0 : decode cX3_score 0 = .ok (.aload_n 0, 1) := by decide +kernel
theorem dX3_score_1 : decode cX3_score 1 = .ok (.iload_n 1, 1) := by decide +kernel
theorem dX3_score_2 : decode cX3_score 2 = .ok (.invokevirtual 114, 3) := by decide +kernel
theorem dX3_score_5 : decode cX3_score 5 = .ok (.aload_n 0, 1) := by decide +kernel
theorem dX3_score_6 : decode cX3_score 6 = .ok (.iload_n 1, 1) := by decide +kernel
theorem dX3_score_7 : decode cX3_score 7 = .ok (.aload_n 0, 1) := by decide +kernel
theorem dX3_score_8 : decode cX3_score 8 = .ok (.getfield 10, 3) := by decide +kernel
theorem dX3_score_11 : decode cX3_score 11 = .ok (.invokevirtual 65, 3) := by decide +kernel
theorem dX3_score_14 : decode cX3_score 14 = .ok (.invokevirtual 129, 3) := by decide +kernel
theorem dX3_score_17 : decode cX3_score 17 = .ok (.ireturn, 1) := by decide +kernel
set_option maxRecDepth 20000 in
theorem ggX3_scoreWithout_X3_checkPlayer : GoodIn wsX3_scoreWithout wsX3_checkPlayer := goodIn_ca (goodIn_r _ [6, 7, 8] (by decide +kernel) (by decide +kernel)) (goodIn_sub (fun _ h => List.mem_cons_of_mem _ (List.mem_append_right _ h)) (by decide +kernel))
set_option maxRecDepth 20000 in
theorem gX3_scoreWithout_X3_checkPlayer : GoodIn wsX3_scoreWithout (wsV RX3 114 RX3 yX3_checkPlayer wsX3_checkPlayer) := goodIn_app (goodIn_of _ (by decide +kernel)) ggX3_scoreWithout_X3_checkPlayer
set_option maxRecDepth 20000 in
theorem ggX3_scoreWithout_X3_checkFact : GoodIn wsX3_scoreWithout wsX3_checkFact := goodIn_ca (goodIn_r _ [12, 7, 8, 1, 13, 14, 15, 16, 17, 18, 94, 95, 96, 97, 98, 99, 100, 101, 102] (by decide +kernel) (by decide +kernel)) (goodIn_sub (fun _ h => List.mem_cons_of_mem _ (List.mem_append_right _ h)) (by decide +kernel))
set_option maxRecDepth 20000 in
theorem gX3_scoreWithout_X3_checkFact : GoodIn wsX3_scoreWithout (wsV RX3 59 RX3 yX3_checkFact wsX3_checkFact) := goodIn_app (goodIn_of _ (by decide +kernel)) ggX3_scoreWithout_X3_checkFact
set_option maxRecDepth 20000 in
theorem ggX3_scoreWithout_X1_standing : GoodIn wsX3_scoreWithout wsX1_standing := goodIn_r _ [22, 18, 23, 24, 25, 26, 5, 27, 99, 100, 101, 102] (by decide +kernel) (by decide +kernel)
set_option maxRecDepth 20000 in
theorem gX3_scoreWithout_X1_standing : GoodIn wsX3_scoreWithout (wsV RX3 65 RX1 yX1_standing wsX1_standing) := goodIn_app (goodIn_of _ (by decide +kernel)) ggX3_scoreWithout_X1_standing
set_option maxRecDepth 20000 in
theorem ggX3_scoreWithout_X3_without : GoodIn wsX3_scoreWithout wsX3_without := goodIn_r _ [30] (by decide +kernel) (by decide +kernel)
set_option maxRecDepth 20000 in
theorem gX3_scoreWithout_X3_without : GoodIn wsX3_scoreWithout (va_wsS RX3 132 yX3_without wsX3_without) := goodIn_app (goodIn_of _ (by decide +kernel)) ggX3_scoreWithout_X3_without
set_option maxRecDepth 20000 in
theorem ggX3_scoreWithout_X3_scoreIf : GoodIn wsX3_scoreWithout wsX3_scoreIf := goodIn_r _ [34, 35, 36, 37, 38, 39, 40, 41, 42, 43, 44, 45, 46, 47, 48, 49, 50, 51, 52, 53, 54, 55, 56, 57, 58, 59, 60, 61, 62, 63, 64, 65, 26, 5, 27, 66, 67, 68, 69, 70, 71, 72, 73, 74, 75, 76, 77, 78, 79, 80, 81, 82, 83, 84, 85, 86, 87, 88, 89, 90, 91, 92, 93, 94, 95, 96, 97, 98, 103, 104, 105, 106, 107, 108, 109, 110, 111, 112, 113, 114, 115] (by decide +kernel) (by decide +kernel)
set_option maxRecDepth 20000 in
theorem gX3_scoreWithout_X3_scoreIf : GoodIn wsX3_scoreWithout (wsV RX3 129 RX3 yX3_scoreIf wsX3_scoreIf) := goodIn_app (goodIn_of _ (by decide +kernel)) ggX3_scoreWithout_X3_scoreIf
theorem dX3_scoreWithout_0 : decode cX3_scoreWithout 0 = .ok (.aload_n 0, 1) := by decide +kernel
theorem dX3_scoreWithout_1 : decode cX3_scoreWithout 1 = .ok (.iload_n 1, 1) := by decide +kernel
theorem dX3_scoreWithout_2 : decode cX3_scoreWithout 2 = .ok (.invokevirtual 114, 3) := by decide +kernel
theorem dX3_scoreWithout_5 : decode cX3_scoreWithout 5 = .ok (.aload_n 0, 1) := by decide +kernel
theorem dX3_scoreWithout_6 : decode cX3_scoreWithout 6 = .ok (.iload_n 2, 1) := by decide +kernel
theorem dX3_scoreWithout_7 : decode cX3_scoreWithout 7 = .ok (.invokevirtual 59, 3) := by decide +kernel
theorem dX3_scoreWithout_10 : decode cX3_scoreWithout 10 = .ok (.aload_n 0, 1) := by decide +kernel
theorem dX3_scoreWithout_11 : decode cX3_scoreWithout 11 = .ok (.iload_n 1, 1) := by decide +kernel
theorem dX3_scoreWithout_12 : decode cX3_scoreWithout 12 = .ok (.aload_n 0, 1) := by decide +kernel
theorem dX3_scoreWithout_13 : decode cX3_scoreWithout 13 = .ok (.getfield 10, 3) := by decide +kernel
theorem dX3_scoreWithout_16 : decode cX3_scoreWithout 16 = .ok (.invokevirtual 65, 3) := by decide +kernel
theorem dX3_scoreWithout_19 : decode cX3_scoreWithout 19 = .ok (.iload_n 2, 1) := by decide +kernel
theorem dX3_scoreWithout_20 : decode cX3_scoreWithout 20 = .ok (.invokestatic 132, 3) := by decide +kernel
theorem dX3_scoreWithout_23 : decode cX3_scoreWithout 23 = .ok (.invokevirtual 129, 3) := by decide +kernel
theorem dX3_scoreWithout_26 : decode cX3_scoreWithout 26 = .ok (.ireturn, 1) := by decide +kernel
set_option maxRecDepth 20000 in
theorem ggX3_keyFact_X3_checkPlayer : GoodIn wsX3_keyFact wsX3_checkPlayer := goodIn_ca (goodIn_r _ [6, 7, 8] (by decide +kernel) (by decide +kernel)) (goodIn_sub (fun _ h => List.mem_cons_of_mem _ (List.mem_append_right _ h)) (by decide +kernel))
set_option maxRecDepth 20000 in
theorem gX3_keyFact_X3_checkPlayer : GoodIn wsX3_keyFact (wsV RX3 114 RX3 yX3_checkPlayer wsX3_checkPlayer) := goodIn_app (goodIn_of _ (by decide +kernel)) ggX3_keyFact_X3_checkPlayer
set_option maxRecDepth 20000 in
theorem ggX3_keyFact_X1_standing : GoodIn wsX3_keyFact wsX1_standing := goodIn_r _ [13, 14, 15, 16, 17, 18, 5, 19, 92, 93, 94, 95] (by decide +kernel) (by decide +kernel)
set_option maxRecDepth 20000 in
theorem gX3_keyFact_X1_standing : GoodIn wsX3_keyFact (wsV RX3 65 RX1 yX1_standing wsX1_standing) := goodIn_app (goodIn_of _ (by decide +kernel)) ggX3_keyFact_X1_standing
set_option maxRecDepth 20000 in
theorem ggX3_keyFact_X3_contains : GoodIn wsX3_keyFact wsX3_contains := goodIn_r _ [19] (by decide +kernel) (by decide +kernel)
set_option maxRecDepth 20000 in
theorem gX3_keyFact_X3_contains : GoodIn wsX3_keyFact (va_wsS RX3 69 yX3_contains wsX3_contains) := goodIn_app (goodIn_of _ (by decide +kernel)) ggX3_keyFact_X3_contains
set_option maxRecDepth 20000 in
theorem ggX3_keyFact_X3_without : GoodIn wsX3_keyFact wsX3_without := goodIn_r _ [23] (by decide +kernel) (by decide +kernel)
set_option maxRecDepth 20000 in
theorem gX3_keyFact_X3_without : GoodIn wsX3_keyFact (va_wsS RX3 132 yX3_without wsX3_without) := goodIn_app (goodIn_of _ (by decide +kernel)) ggX3_keyFact_X3_without
set_option maxRecDepth 20000 in
theorem ggX3_keyFact_X3_scoreIf : GoodIn wsX3_keyFact wsX3_scoreIf := goodIn_r _ [27, 28, 29, 30, 31, 32, 33, 34, 35, 36, 37, 38, 39, 40, 41, 42, 43, 44, 45, 46, 47, 48, 49, 50, 51, 52, 53, 54, 55, 56, 57, 58, 18, 5, 19, 59, 60, 61, 62, 63, 64, 65, 66, 67, 68, 69, 70, 71, 72, 73, 74, 75, 76, 77, 78, 79, 80, 81, 82, 83, 84, 85, 86, 87, 88, 89, 90, 91, 96, 97, 98, 99, 100, 101, 102, 103, 104, 105, 106, 107, 108] (by decide +kernel) (by decide +kernel)
set_option maxRecDepth 20000 in
theorem gX3_keyFact_X3_scoreIf : GoodIn wsX3_keyFact (wsV RX3 129 RX3 yX3_scoreIf wsX3_scoreIf) := goodIn_app (goodIn_of _ (by decide +kernel)) ggX3_keyFact_X3_scoreIf
theorem dX3_keyFact_0 : decode cX3_keyFact 0 = .ok (.aload_n 0, 1) := by decide +kernel
theorem dX3_keyFact_1 : decode cX3_keyFact 1 = .ok (.iload_n 1, 1) := by decide +kernel
theorem dX3_keyFact_2 : decode cX3_keyFact 2 = .ok (.invokevirtual 114, 3) := by decide +kernel
theorem dX3_keyFact_5 : decode cX3_keyFact 5 = .ok (.aload_n 0, 1) := by decide +kernel
theorem dX3_keyFact_6 : decode cX3_keyFact 6 = .ok (.getfield 10, 3) := by decide +kernel
theorem dX3_keyFact_9 : decode cX3_keyFact 9 = .ok (.invokevirtual 65, 3) := by decide +kernel
theorem dX3_keyFact_12 : decode cX3_keyFact 12 = .ok (.istore_n 2, 1) := by decide +kernel
theorem dX3_keyFact_13 : decode cX3_keyFact 13 = .ok (.iconst (-1), 1) := by decide +kernel
theorem dX3_keyFact_14 : decode cX3_keyFact 14 = .ok (.istore_n 3, 1) := by decide +kernel
theorem dX3_keyFact_15 : decode cX3_keyFact 15 = .ok (.iconst 0, 1) := by decide +kernel
theorem dX3_keyFact_16 : decode cX3_keyFact 16 = .ok (.istore 4, 2) := by decide +kernel
theorem dX3_keyFact_18 : decode cX3_keyFact 18 = .ok (.iconst 0, 1) := by decide +kernel
theorem dX3_keyFact_19 : decode cX3_keyFact 19 = .ok (.istore 5, 2) := by decide +kernel
theorem dX3_keyFact_21 : decode cX3_keyFact 21 = .ok (.iload 5, 2) := by decide +kernel
theorem dX3_keyFact_23 : decode cX3_keyFact 23 = .ok (.bipush 14, 2) := by decide +kernel
theorem dX3_keyFact_25 : decode cX3_keyFact 25 = .ok (.if_icmp .ge 50, 3) := by decide +kernel
theorem dX3_keyFact_28 : decode cX3_keyFact 28 = .ok (.iload_n 2, 1) := by decide +kernel
theorem dX3_keyFact_29 : decode cX3_keyFact 29 = .ok (.iload 5, 2) := by decide +kernel
theorem dX3_keyFact_31 : decode cX3_keyFact 31 = .ok (.invokestatic 69, 3) := by decide +kernel
theorem dX3_keyFact_34 : decode cX3_keyFact 34 = .ok (.ifCond .eq 35, 3) := by decide +kernel
theorem dX3_keyFact_37 : decode cX3_keyFact 37 = .ok (.aload_n 0, 1) := by decide +kernel
theorem dX3_keyFact_38 : decode cX3_keyFact 38 = .ok (.iload_n 1, 1) := by decide +kernel
theorem dX3_keyFact_39 : decode cX3_keyFact 39 = .ok (.iload_n 2, 1) := by decide +kernel
theorem dX3_keyFact_40 : decode cX3_keyFact 40 = .ok (.iload 5, 2) := by decide +kernel
theorem dX3_keyFact_42 : decode cX3_keyFact 42 = .ok (.invokestatic 132, 3) := by decide +kernel
theorem dX3_keyFact_45 : decode cX3_keyFact 45 = .ok (.invokevirtual 129, 3) := by decide +kernel
theorem dX3_keyFact_48 : decode cX3_keyFact 48 = .ok (.istore 6, 2) := by decide +kernel
theorem dX3_keyFact_50 : decode cX3_keyFact 50 = .ok (.iload_n 3, 1) := by decide +kernel
theorem dX3_keyFact_51 : decode cX3_keyFact 51 = .ok (.iconst (-1), 1) := by decide +kernel
theorem dX3_keyFact_52 : decode cX3_keyFact 52 = .ok (.if_icmp .eq 10, 3) := by decide +kernel
theorem dX3_keyFact_55 : decode cX3_keyFact 55 = .ok (.iload 6, 2) := by decide +kernel
theorem dX3_keyFact_57 : decode cX3_keyFact 57 = .ok (.iload 4, 2) := by decide +kernel
theorem dX3_keyFact_59 : decode cX3_keyFact 59 = .ok (.if_icmp .ge 10, 3) := by decide +kernel
theorem dX3_keyFact_62 : decode cX3_keyFact 62 = .ok (.iload 5, 2) := by decide +kernel
theorem dX3_keyFact_64 : decode cX3_keyFact 64 = .ok (.istore_n 3, 1) := by decide +kernel
theorem dX3_keyFact_65 : decode cX3_keyFact 65 = .ok (.iload 6, 2) := by decide +kernel
theorem dX3_keyFact_67 : decode cX3_keyFact 67 = .ok (.istore 4, 2) := by decide +kernel
theorem dX3_keyFact_69 : decode cX3_keyFact 69 = .ok (.iinc 5 1, 3) := by decide +kernel
theorem dX3_keyFact_72 : decode cX3_keyFact 72 = .ok (.goto (-51), 3) := by decide +kernel
theorem dX3_keyFact_75 : decode cX3_keyFact 75 = .ok (.iload_n 3, 1) := by decide +kernel
theorem dX3_keyFact_76 : decode cX3_keyFact 76 = .ok (.ireturn, 1) := by decide +kernel
set_option maxRecDepth 20000 in
theorem ggX3_verdict_X1_standing : GoodIn wsX3_verdict wsX1_standing := goodIn_r _ [8, 9, 10, 11, 12, 13, 14, 15, 78, 79, 80, 81] (by decide +kernel) (by decide +kernel)
set_option maxRecDepth 20000 in
theorem gX3_verdict_X1_standing : GoodIn wsX3_verdict (wsV RX3 65 RX1 yX1_standing wsX1_standing) := goodIn_app (goodIn_of _ (by decide +kernel)) ggX3_verdict_X1_standing
set_option maxRecDepth 20000 in
theorem ggX3_verdict_X2_decideByGoingOn : GoodIn wsX3_verdict wsX2_decideByGoingOn := goodIn_r _ [20, 21, 22, 23, 24, 25, 26, 19, 27, 28, 29, 30, 31, 32, 33, 34, 35, 36, 37, 38, 39, 40, 41, 42, 43, 44, 13, 14, 15, 45, 46, 47, 48, 49, 50, 51, 52, 53, 54, 55, 56, 57, 58, 59, 60, 61, 62, 63, 82, 83, 84, 85, 86, 87, 88, 89, 90, 91, 92, 93, 94] (by decide +kernel) (by decide +kernel)
set_option maxRecDepth 20000 in
theorem gX3_verdict_X2_decideByGoingOn : GoodIn wsX3_verdict (wsV RX3 120 RX2 yX2_decideByGoingOn wsX2_decideByGoingOn) := goodIn_app (goodIn_of _ (by decide +kernel)) ggX3_verdict_X2_decideByGoingOn
set_option maxRecDepth 20000 in
theorem ggX3_verdict_X2_claimsIn : GoodIn wsX3_verdict wsX2_claimsIn := goodIn_r _ [67, 29, 82, 83, 84, 85, 86, 87] (by decide +kernel) (by decide +kernel)
set_option maxRecDepth 20000 in
theorem gX3_verdict_X2_claimsIn : GoodIn wsX3_verdict (wsV RX3 135 RX2 yX2_claimsIn wsX2_claimsIn) := goodIn_app (goodIn_of _ (by decide +kernel)) ggX3_verdict_X2_claimsIn
set_option maxRecDepth 20000 in
theorem ggX3_verdict_X0_countOf : GoodIn wsX3_verdict wsX0_countOf := goodIn_r _ [71, 36, 72, 13, 14, 15, 88, 89, 90, 91, 92, 93, 94] (by decide +kernel) (by decide +kernel)
set_option maxRecDepth 20000 in
theorem gX3_verdict_X0_countOf : GoodIn wsX3_verdict (wsV RX3 138 RX0 yX0_countOf wsX0_countOf) := goodIn_app (goodIn_of _ (by decide +kernel)) ggX3_verdict_X0_countOf
theorem dX3_verdict_0 : decode cX3_verdict 0 = .ok (.aload_n 0, 1) := by decide +kernel
theorem dX3_verdict_1 : decode cX3_verdict 1 = .ok (.getfield 28, 3) := by decide +kernel
theorem dX3_verdict_4 : decode cX3_verdict 4 = .ok (.aload_n 0, 1) := by decide +kernel
theorem dX3_verdict_5 : decode cX3_verdict 5 = .ok (.getfield 10, 3) := by decide +kernel
theorem dX3_verdict_8 : decode cX3_verdict 8 = .ok (.invokevirtual 65, 3) := by decide +kernel
theorem dX3_verdict_11 : decode cX3_verdict 11 = .ok (.invokevirtual 120, 3) := by decide +kernel
theorem dX3_verdict_14 : decode cX3_verdict 14 = .ok (.iconst (-1), 1) := by decide +kernel
theorem dX3_verdict_15 : decode cX3_verdict 15 = .ok (.istore_n 1, 1) := by decide +kernel
theorem dX3_verdict_16 : decode cX3_verdict 16 = .ok (.iconst (-1), 1) := by decide +kernel
theorem dX3_verdict_17 : decode cX3_verdict 17 = .ok (.istore_n 2, 1) := by decide +kernel
theorem dX3_verdict_18 : decode cX3_verdict 18 = .ok (.iconst 0, 1) := by decide +kernel
theorem dX3_verdict_19 : decode cX3_verdict 19 = .ok (.istore_n 3, 1) := by decide +kernel
theorem dX3_verdict_20 : decode cX3_verdict 20 = .ok (.iload_n 3, 1) := by decide +kernel
theorem dX3_verdict_21 : decode cX3_verdict 21 = .ok (.iconst 3, 1) := by decide +kernel
theorem dX3_verdict_22 : decode cX3_verdict 22 = .ok (.if_icmp .ge 48, 3) := by decide +kernel
theorem dX3_verdict_25 : decode cX3_verdict 25 = .ok (.aload_n 0, 1) := by decide +kernel
theorem dX3_verdict_26 : decode cX3_verdict 26 = .ok (.getfield 19, 3) := by decide +kernel
theorem dX3_verdict_29 : decode cX3_verdict 29 = .ok (.iload_n 3, 1) := by decide +kernel
theorem dX3_verdict_30 : decode cX3_verdict 30 = .ok (.aload_n 0, 1) := by decide +kernel
theorem dX3_verdict_31 : decode cX3_verdict 31 = .ok (.getfield 28, 3) := by decide +kernel
theorem dX3_verdict_34 : decode cX3_verdict 34 = .ok (.invokevirtual 135, 3) := by decide +kernel
theorem dX3_verdict_37 : decode cX3_verdict 37 = .ok (.invokevirtual 138, 3) := by decide +kernel
theorem dX3_verdict_40 : decode cX3_verdict 40 = .ok (.istore 4, 2) := by decide +kernel
theorem dX3_verdict_42 : decode cX3_verdict 42 = .ok (.iload 4, 2) := by decide +kernel
theorem dX3_verdict_44 : decode cX3_verdict 44 = .ok (.iload_n 2, 1) := by decide +kernel
theorem dX3_verdict_45 : decode cX3_verdict 45 = .ok (.if_icmp .le 11, 3) := by decide +kernel
theorem dX3_verdict_48 : decode cX3_verdict 48 = .ok (.iload_n 3, 1) := by decide +kernel
theorem dX3_verdict_49 : decode cX3_verdict 49 = .ok (.istore_n 1, 1) := by decide +kernel
theorem dX3_verdict_50 : decode cX3_verdict 50 = .ok (.iload 4, 2) := by decide +kernel
theorem dX3_verdict_52 : decode cX3_verdict 52 = .ok (.istore_n 2, 1) := by decide +kernel
theorem dX3_verdict_53 : decode cX3_verdict 53 = .ok (.goto 11, 3) := by decide +kernel
theorem dX3_verdict_56 : decode cX3_verdict 56 = .ok (.iload 4, 2) := by decide +kernel
theorem dX3_verdict_58 : decode cX3_verdict 58 = .ok (.iload_n 2, 1) := by decide +kernel
theorem dX3_verdict_59 : decode cX3_verdict 59 = .ok (.if_icmp .ne 5, 3) := by decide +kernel
theorem dX3_verdict_62 : decode cX3_verdict 62 = .ok (.iconst (-1), 1) := by decide +kernel
theorem dX3_verdict_63 : decode cX3_verdict 63 = .ok (.istore_n 1, 1) := by decide +kernel
theorem dX3_verdict_64 : decode cX3_verdict 64 = .ok (.iinc 3 1, 3) := by decide +kernel
theorem dX3_verdict_67 : decode cX3_verdict 67 = .ok (.goto (-47), 3) := by decide +kernel
theorem dX3_verdict_70 : decode cX3_verdict 70 = .ok (.iload_n 1, 1) := by decide +kernel
theorem dX3_verdict_71 : decode cX3_verdict 71 = .ok (.ireturn, 1) := by decide +kernel
set_option maxRecDepth 20000 in
theorem ggX3_close_X1_standing : GoodIn wsX3_close wsX1_standing := goodIn_r _ [10, 11, 12, 13, 14, 15, 16, 17, 94, 95, 96, 97] (by decide +kernel) (by decide +kernel)
set_option maxRecDepth 20000 in
theorem gX3_close_X1_standing : GoodIn wsX3_close (wsV RX3 65 RX1 yX1_standing wsX1_standing) := goodIn_app (goodIn_of _ (by decide +kernel)) ggX3_close_X1_standing
set_option maxRecDepth 20000 in
theorem ggX3_close_X2_decideByGoingOn : GoodIn wsX3_close wsX2_decideByGoingOn := goodIn_r _ [22, 23, 24, 25, 26, 27, 28, 21, 29, 30, 31, 32, 33, 34, 35, 36, 37, 38, 39, 40, 41, 42, 43, 44, 45, 46, 15, 16, 17, 47, 48, 49, 50, 51, 52, 53, 54, 55, 56, 57, 58, 59, 60, 61, 62, 63, 64, 65, 98, 99, 100, 101, 102, 103, 104, 105, 106, 107, 108, 109, 110] (by decide +kernel) (by decide +kernel)
set_option maxRecDepth 20000 in
theorem gX3_close_X2_decideByGoingOn : GoodIn wsX3_close (wsV RX3 120 RX2 yX2_decideByGoingOn wsX2_decideByGoingOn) := goodIn_app (goodIn_of _ (by decide +kernel)) ggX3_close_X2_decideByGoingOn
set_option maxRecDepth 20000 in
theorem ggX3_close_X0_illFounded : GoodIn wsX3_close wsX0_illFounded := goodIn_r _ [69, 38, 51, 104, 105, 106, 107, 108, 109, 110] (by decide +kernel) (by decide +kernel)
set_option maxRecDepth 20000 in
theorem gX3_close_X0_illFounded : GoodIn wsX3_close (wsV RX3 141 RX0 yX0_illFounded wsX0_illFounded) := goodIn_app (goodIn_of _ (by decide +kernel)) ggX3_close_X0_illFounded
set_option maxRecDepth 20000 in
theorem ggX3_close_X2_claimsIn : GoodIn wsX3_close wsX2_claimsIn := goodIn_r _ [73, 31, 98, 99, 100, 101, 102, 103] (by decide +kernel) (by decide +kernel)
set_option maxRecDepth 20000 in
theorem gX3_close_X2_claimsIn : GoodIn wsX3_close (wsV RX3 135 RX2 yX2_claimsIn wsX2_claimsIn) := goodIn_app (goodIn_of _ (by decide +kernel)) ggX3_close_X2_claimsIn
set_option maxRecDepth 20000 in
theorem ggX3_close_X0_countOf : GoodIn wsX3_close wsX0_countOf := goodIn_r _ [77, 38, 78, 15, 16, 17, 104, 105, 106, 107, 108, 109, 110] (by decide +kernel) (by decide +kernel)
set_option maxRecDepth 20000 in
theorem gX3_close_X0_countOf : GoodIn wsX3_close (wsV RX3 138 RX0 yX0_countOf wsX0_countOf) := goodIn_app (goodIn_of _ (by decide +kernel)) ggX3_close_X0_countOf
set_option maxRecDepth 20000 in
theorem ggX3_close_X0_beginAgain : GoodIn wsX3_close wsX0_beginAgain := goodIn_r _ [82, 83, 38, 84, 85, 86, 87, 88, 104, 105, 106, 107, 108, 109, 110] (by decide +kernel) (by decide +kernel)
set_option maxRecDepth 20000 in
theorem gX3_close_X0_beginAgain : GoodIn wsX3_close (wsV RX3 144 RX0 yX0_beginAgain wsX0_beginAgain) := goodIn_app (goodIn_of _ (by decide +kernel)) ggX3_close_X0_beginAgain
theorem dX3_close_0 : decode cX3_close 0 = .ok (.aload_n 0, 1) := by decide +kernel
theorem dX3_close_1 : decode cX3_close 1 = .ok (.getfield 10, 3) := by decide +kernel
theorem dX3_close_4 : decode cX3_close 4 = .ok (.invokevirtual 65, 3) := by decide +kernel
theorem dX3_close_7 : decode cX3_close 7 = .ok (.istore_n 1, 1) := by decide +kernel
theorem dX3_close_8 : decode cX3_close 8 = .ok (.aload_n 0, 1) := by decide +kernel
theorem dX3_close_9 : decode cX3_close 9 = .ok (.getfield 28, 3) := by decide +kernel
theorem dX3_close_12 : decode cX3_close 12 = .ok (.iload_n 1, 1) := by decide +kernel
theorem dX3_close_13 : decode cX3_close 13 = .ok (.invokevirtual 120, 3) := by decide +kernel
theorem dX3_close_16 : decode cX3_close 16 = .ok (.aload_n 0, 1) := by decide +kernel
theorem dX3_close_17 : decode cX3_close 17 = .ok (.getfield 19, 3) := by decide +kernel
theorem dX3_close_20 : decode cX3_close 20 = .ok (.iload_n 1, 1) := by decide +kernel
theorem dX3_close_21 : decode cX3_close 21 = .ok (.invokevirtual 141, 3) := by decide +kernel
theorem dX3_close_24 : decode cX3_close 24 = .ok (.istore_n 2, 1) := by decide +kernel
theorem dX3_close_25 : decode cX3_close 25 = .ok (.iconst 0, 1) := by decide +kernel
theorem dX3_close_26 : decode cX3_close 26 = .ok (.istore_n 3, 1) := by decide +kernel
theorem dX3_close_27 : decode cX3_close 27 = .ok (.iload_n 3, 1) := by decide +kernel
theorem dX3_close_28 : decode cX3_close 28 = .ok (.iconst 3, 1) := by decide +kernel
theorem dX3_close_29 : decode cX3_close 29 = .ok (.if_icmp .ge 43, 3) := by decide +kernel
theorem dX3_close_32 : decode cX3_close 32 = .ok (.aload_n 0, 1) := by decide +kernel
theorem dX3_close_33 : decode cX3_close 33 = .ok (.getfield 32, 3) := by decide +kernel
theorem dX3_close_36 : decode cX3_close 36 = .ok (.iload_n 3, 1) := by decide +kernel
theorem dX3_close_37 : decode cX3_close 37 = .ok (.dup2, 1) := by decide +kernel
theorem dX3_close_38 : decode cX3_close 38 = .ok (.iaload, 1) := by decide +kernel
theorem dX3_close_39 : decode cX3_close 39 = .ok (.aload_n 0, 1) := by decide +kernel
theorem dX3_close_40 : decode cX3_close 40 = .ok (.getfield 19, 3) := by decide +kernel
theorem dX3_close_43 : decode cX3_close 43 = .ok (.iload_n 3, 1) := by decide +kernel
theorem dX3_close_44 : decode cX3_close 44 = .ok (.aload_n 0, 1) := by decide +kernel
theorem dX3_close_45 : decode cX3_close 45 = .ok (.getfield 28, 3) := by decide +kernel
theorem dX3_close_48 : decode cX3_close 48 = .ok (.invokevirtual 135, 3) := by decide +kernel
theorem dX3_close_51 : decode cX3_close 51 = .ok (.invokevirtual 138, 3) := by decide +kernel
theorem dX3_close_54 : decode cX3_close 54 = .ok (.aload_n 0, 1) := by decide +kernel
theorem dX3_close_55 : decode cX3_close 55 = .ok (.getfield 19, 3) := by decide +kernel
theorem dX3_close_58 : decode cX3_close 58 = .ok (.iload_n 3, 1) := by decide +kernel
theorem dX3_close_59 : decode cX3_close 59 = .ok (.iload_n 2, 1) := by decide +kernel
theorem dX3_close_60 : decode cX3_close 60 = .ok (.invokevirtual 138, 3) := by decide +kernel
theorem dX3_close_63 : decode cX3_close 63 = .ok (.isub, 1) := by decide +kernel
theorem dX3_close_64 : decode cX3_close 64 = .ok (.iadd, 1) := by decide +kernel
theorem dX3_close_65 : decode cX3_close 65 = .ok (.iastore, 1) := by decide +kernel
theorem dX3_close_66 : decode cX3_close 66 = .ok (.iinc 3 1, 3) := by decide +kernel
theorem dX3_close_69 : decode cX3_close 69 = .ok (.goto (-42), 3) := by decide +kernel
theorem dX3_close_72 : decode cX3_close 72 = .ok (.aload_n 0, 1) := by decide +kernel
theorem dX3_close_73 : decode cX3_close 73 = .ok (.getfield 19, 3) := by decide +kernel
theorem dX3_close_76 : decode cX3_close 76 = .ok (.invokevirtual 144, 3) := by decide +kernel
theorem dX3_close_79 : decode cX3_close 79 = .ok (.aload_n 0, 1) := by decide +kernel
theorem dX3_close_80 : decode cX3_close 80 = .ok (.dup, 1) := by decide +kernel
theorem dX3_close_81 : decode cX3_close 81 = .ok (.getfield 36, 3) := by decide +kernel
theorem dX3_close_84 : decode cX3_close 84 = .ok (.iconst 1, 1) := by decide +kernel
theorem dX3_close_85 : decode cX3_close 85 = .ok (.iadd, 1) := by decide +kernel
theorem dX3_close_86 : decode cX3_close 86 = .ok (.putfield 36, 3) := by decide +kernel
theorem dX3_close_89 : decode cX3_close 89 = .ok (.aload_n 0, 1) := by decide +kernel
theorem dX3_close_90 : decode cX3_close 90 = .ok (.getfield 36, 3) := by decide +kernel
theorem dX3_close_93 : decode cX3_close 93 = .ok (.ireturn, 1) := by decide +kernel
set_option maxRecDepth 20000 in
theorem ggX3_reputation_X3_checkPlayer : GoodIn wsX3_reputation wsX3_checkPlayer := goodIn_ca (goodIn_r _ [6, 7, 8] (by decide +kernel) (by decide +kernel)) (goodIn_sub (fun _ h => List.mem_cons_of_mem _ (List.mem_append_right _ h)) (by decide +kernel))
set_option maxRecDepth 20000 in
theorem gX3_reputation_X3_checkPlayer : GoodIn wsX3_reputation (wsV RX3 114 RX3 yX3_checkPlayer wsX3_checkPlayer) := goodIn_app (goodIn_of _ (by decide +kernel)) ggX3_reputation_X3_checkPlayer
theorem dX3_reputation_0 : decode cX3_reputation 0 = .ok (.aload_n 0, 1) := by decide +kernel
theorem dX3_reputation_1 : decode cX3_reputation 1 = .ok (.iload_n 1, 1) := by decide +kernel
theorem dX3_reputation_2 : decode cX3_reputation 2 = .ok (.invokevirtual 114, 3) := by decide +kernel
theorem dX3_reputation_5 : decode cX3_reputation 5 = .ok (.aload_n 0, 1) := by decide +kernel
theorem dX3_reputation_6 : decode cX3_reputation 6 = .ok (.getfield 32, 3) := by decide +kernel
theorem dX3_reputation_9 : decode cX3_reputation 9 = .ok (.iload_n 1, 1) := by decide +kernel
theorem dX3_reputation_10 : decode cX3_reputation 10 = .ok (.iaload, 1) := by decide +kernel
theorem dX3_reputation_11 : decode cX3_reputation 11 = .ok (.ireturn, 1) := by decide +kernel
set_option maxRecDepth 20000 in
theorem ggX3_scoreIf_X2_decideByGoingOn : GoodIn wsX3_scoreIf wsX2_decideByGoingOn := goodIn_r _ [7, 8, 9, 10, 11, 12, 13, 6, 14, 15, 16, 17, 18, 19, 20, 21, 22, 23, 24, 25, 26, 27, 28, 29, 30, 31, 32, 33, 34, 35, 36, 37, 38, 39, 40, 41, 42, 43, 44, 45, 46, 47, 48, 49, 50, 51, 52, 53, 68, 69, 70, 71, 72, 73, 74, 75, 76, 77, 78, 79, 80] (by decide +kernel) (by decide +kernel)
set_option maxRecDepth 20000 in
theorem gX3_scoreIf_X2_decideByGoingOn : GoodIn wsX3_scoreIf (wsV RX3 120 RX2 yX2_decideByGoingOn wsX2_decideByGoingOn) := goodIn_app (goodIn_of _ (by decide +kernel)) ggX3_scoreIf_X2_decideByGoingOn
set_option maxRecDepth 20000 in
theorem ggX3_scoreIf_X2_claimsIn : GoodIn wsX3_scoreIf wsX2_claimsIn := goodIn_r _ [57, 16, 68, 69, 70, 71, 72, 73] (by decide +kernel) (by decide +kernel)
set_option maxRecDepth 20000 in
theorem gX3_scoreIf_X2_claimsIn : GoodIn wsX3_scoreIf (wsV RX3 135 RX2 yX2_claimsIn wsX2_claimsIn) := goodIn_app (goodIn_of _ (by decide +kernel)) ggX3_scoreIf_X2_claimsIn
set_option maxRecDepth 20000 in
theorem ggX3_scoreIf_X0_countOf : GoodIn wsX3_scoreIf wsX0_countOf := goodIn_r _ [61, 23, 62, 32, 33, 34, 74, 75, 76, 77, 78, 79, 80] (by decide +kernel) (by decide +kernel)
set_option maxRecDepth 20000 in
theorem gX3_scoreIf_X0_countOf : GoodIn wsX3_scoreIf (wsV RX3 138 RX0 yX0_countOf wsX0_countOf) := goodIn_app (goodIn_of _ (by decide +kernel)) ggX3_scoreIf_X0_countOf
theorem dX3_scoreIf_0 : decode cX3_scoreIf 0 = .ok (.aload_n 0, 1) := by decide +kernel
theorem dX3_scoreIf_1 : decode cX3_scoreIf 1 = .ok (.getfield 28, 3) := by decide +kernel
theorem dX3_scoreIf_4 : decode cX3_scoreIf 4 = .ok (.iload_n 2, 1) := by decide +kernel
theorem dX3_scoreIf_5 : decode cX3_scoreIf 5 = .ok (.invokevirtual 120, 3) := by decide +kernel
theorem dX3_scoreIf_8 : decode cX3_scoreIf 8 = .ok (.aload_n 0, 1) := by decide +kernel
theorem dX3_scoreIf_9 : decode cX3_scoreIf 9 = .ok (.getfield 19, 3) := by decide +kernel
theorem dX3_scoreIf_12 : decode cX3_scoreIf 12 = .ok (.iload_n 1, 1) := by decide +kernel
theorem dX3_scoreIf_13 : decode cX3_scoreIf 13 = .ok (.aload_n 0, 1) := by decide +kernel
theorem dX3_scoreIf_14 : decode cX3_scoreIf 14 = .ok (.getfield 28, 3) := by decide +kernel
theorem dX3_scoreIf_17 : decode cX3_scoreIf 17 = .ok (.invokevirtual 135, 3) := by decide +kernel
theorem dX3_scoreIf_20 : decode cX3_scoreIf 20 = .ok (.invokevirtual 138, 3) := by decide +kernel
theorem dX3_scoreIf_23 : decode cX3_scoreIf 23 = .ok (.ireturn, 1) := by decide +kernel
theorem dX3_checkSource_0 : decode cX3_checkSource 0 = .ok (.iload_n 1, 1) := by decide +kernel
theorem dX3_checkSource_1 : decode cX3_checkSource 1 = .ok (.ifCond .lt 9, 3) := by decide +kernel
theorem dX3_checkSource_4 : decode cX3_checkSource 4 = .ok (.iload_n 1, 1) := by decide +kernel
theorem dX3_checkSource_5 : decode cX3_checkSource 5 = .ok (.bipush 6, 2) := by decide +kernel
theorem dX3_checkSource_7 : decode cX3_checkSource 7 = .ok (.if_icmp .lt 13, 3) := by decide +kernel
theorem dX3_checkSource_10 : decode cX3_checkSource 10 = .ok (.new 147, 3) := by decide +kernel
theorem dX3_checkSource_13 : decode cX3_checkSource 13 = .ok (.dup, 1) := by decide +kernel
theorem dX3_checkSource_14 : decode cX3_checkSource 14 = .ok (.ldc 149, 2) := by decide +kernel
theorem dX3_checkSource_16 : decode cX3_checkSource 16 = .ok (.invokespecial 151, 3) := by decide +kernel
theorem dX3_checkSource_19 : decode cX3_checkSource 19 = .ok (.athrow, 1) := by decide +kernel
theorem dX3_checkSource_20 : decode cX3_checkSource 20 = .ok (.return_, 1) := by decide +kernel
set_option maxRecDepth 20000 in
theorem ggX3_checkFact_X1_size : GoodIn wsX3_checkFact wsX1_size := goodIn_r _ [8, 9, 15, 16, 17, 18] (by decide +kernel) (by decide +kernel)
set_option maxRecDepth 20000 in
theorem gX3_checkFact_X1_size : GoodIn wsX3_checkFact (wsV RX3 73 RX1 yX1_size wsX1_size) := goodIn_app (goodIn_of _ (by decide +kernel)) ggX3_checkFact_X1_size
theorem dX3_checkFact_0 : decode cX3_checkFact 0 = .ok (.iload_n 1, 1) := by decide +kernel
theorem dX3_checkFact_1 : decode cX3_checkFact 1 = .ok (.ifCond .lt 14, 3) := by decide +kernel
theorem dX3_checkFact_4 : decode cX3_checkFact 4 = .ok (.iload_n 1, 1) := by decide +kernel
theorem dX3_checkFact_5 : decode cX3_checkFact 5 = .ok (.aload_n 0, 1) := by decide +kernel
theorem dX3_checkFact_6 : decode cX3_checkFact 6 = .ok (.getfield 10, 3) := by decide +kernel
theorem dX3_checkFact_9 : decode cX3_checkFact 9 = .ok (.invokevirtual 73, 3) := by decide +kernel
theorem dX3_checkFact_12 : decode cX3_checkFact 12 = .ok (.if_icmp .lt 13, 3) := by decide +kernel
theorem dX3_checkFact_15 : decode cX3_checkFact 15 = .ok (.new 147, 3) := by decide +kernel
theorem dX3_checkFact_18 : decode cX3_checkFact 18 = .ok (.dup, 1) := by decide +kernel
theorem dX3_checkFact_19 : decode cX3_checkFact 19 = .ok (.ldc 81, 2) := by decide +kernel
theorem dX3_checkFact_21 : decode cX3_checkFact 21 = .ok (.invokespecial 151, 3) := by decide +kernel
theorem dX3_checkFact_24 : decode cX3_checkFact 24 = .ok (.athrow, 1) := by decide +kernel
theorem dX3_checkFact_25 : decode cX3_checkFact 25 = .ok (.return_, 1) := by decide +kernel
theorem dX3_checkPlayer_0 : decode cX3_checkPlayer 0 = .ok (.iload_n 1, 1) := by decide +kernel
theorem dX3_checkPlayer_1 : decode cX3_checkPlayer 1 = .ok (.ifCond .lt 8, 3) := by decide +kernel
theorem dX3_checkPlayer_4 : decode cX3_checkPlayer 4 = .ok (.iload_n 1, 1) := by decide +kernel
theorem dX3_checkPlayer_5 : decode cX3_checkPlayer 5 = .ok (.iconst 3, 1) := by decide +kernel
theorem dX3_checkPlayer_6 : decode cX3_checkPlayer 6 = .ok (.if_icmp .lt 13, 3) := by decide +kernel
theorem dX3_checkPlayer_9 : decode cX3_checkPlayer 9 = .ok (.new 147, 3) := by decide +kernel
theorem dX3_checkPlayer_12 : decode cX3_checkPlayer 12 = .ok (.dup, 1) := by decide +kernel
theorem dX3_checkPlayer_13 : decode cX3_checkPlayer 13 = .ok (.ldc 152, 2) := by decide +kernel
theorem dX3_checkPlayer_15 : decode cX3_checkPlayer 15 = .ok (.invokespecial 151, 3) := by decide +kernel
theorem dX3_checkPlayer_18 : decode cX3_checkPlayer 18 = .ok (.athrow, 1) := by decide +kernel
theorem dX3_checkPlayer_19 : decode cX3_checkPlayer 19 = .ok (.return_, 1) := by decide +kernel
set_option maxRecDepth 20000 in
theorem ggX3_checkClaim_X0_size : GoodIn wsX3_checkClaim wsX0_size := goodIn_r _ [8, 9, 15, 16, 17, 18, 19, 20, 21] (by decide +kernel) (by decide +kernel)
set_option maxRecDepth 20000 in
theorem gX3_checkClaim_X0_size : GoodIn wsX3_checkClaim (wsV RX3 107 RX0 yX0_size wsX0_size) := goodIn_app (goodIn_of _ (by decide +kernel)) ggX3_checkClaim_X0_size
theorem dX3_checkClaim_0 : decode cX3_checkClaim 0 = .ok (.iload_n 1, 1) := by decide +kernel
theorem dX3_checkClaim_1 : decode cX3_checkClaim 1 = .ok (.ifCond .lt 14, 3) := by decide +kernel
theorem dX3_checkClaim_4 : decode cX3_checkClaim 4 = .ok (.iload_n 1, 1) := by decide +kernel
theorem dX3_checkClaim_5 : decode cX3_checkClaim 5 = .ok (.aload_n 0, 1) := by decide +kernel
theorem dX3_checkClaim_6 : decode cX3_checkClaim 6 = .ok (.getfield 19, 3) := by decide +kernel
theorem dX3_checkClaim_9 : decode cX3_checkClaim 9 = .ok (.invokevirtual 107, 3) := by decide +kernel
theorem dX3_checkClaim_12 : decode cX3_checkClaim 12 = .ok (.if_icmp .lt 13, 3) := by decide +kernel
theorem dX3_checkClaim_15 : decode cX3_checkClaim 15 = .ok (.new 147, 3) := by decide +kernel
theorem dX3_checkClaim_18 : decode cX3_checkClaim 18 = .ok (.dup, 1) := by decide +kernel
theorem dX3_checkClaim_19 : decode cX3_checkClaim 19 = .ok (.ldc 154, 2) := by decide +kernel
theorem dX3_checkClaim_21 : decode cX3_checkClaim 21 = .ok (.invokespecial 151, 3) := by decide +kernel
theorem dX3_checkClaim_24 : decode cX3_checkClaim 24 = .ok (.athrow, 1) := by decide +kernel
theorem dX3_checkClaim_25 : decode cX3_checkClaim 25 = .ok (.return_, 1) := by decide +kernel
set_option maxRecDepth 20000 in
theorem ggX3_checkTwoClaims_X3_checkClaim : GoodIn wsX3_checkTwoClaims wsX3_checkClaim := goodIn_ca (goodIn_r _ [7, 8, 9, 10, 11, 12, 13, 14, 15, 16, 17, 18, 19, 20, 21, 22, 23, 24, 25, 26, 27, 28] (by decide +kernel) (by decide +kernel)) (goodIn_sub (fun _ h => List.mem_cons_of_mem _ (List.mem_append_right _ h)) (by decide +kernel))
set_option maxRecDepth 20000 in
theorem gX3_checkTwoClaims_X3_checkClaim : GoodIn wsX3_checkTwoClaims (wsV RX3 108 RX3 yX3_checkClaim wsX3_checkClaim) := goodIn_app (goodIn_of _ (by decide +kernel)) ggX3_checkTwoClaims_X3_checkClaim
theorem dX3_checkTwoClaims_0 : decode cX3_checkTwoClaims 0 = .ok (.aload_n 0, 1) := by decide +kernel
theorem dX3_checkTwoClaims_1 : decode cX3_checkTwoClaims 1 = .ok (.iload_n 1, 1) := by decide +kernel
theorem dX3_checkTwoClaims_2 : decode cX3_checkTwoClaims 2 = .ok (.invokevirtual 108, 3) := by decide +kernel
theorem dX3_checkTwoClaims_5 : decode cX3_checkTwoClaims 5 = .ok (.aload_n 0, 1) := by decide +kernel
theorem dX3_checkTwoClaims_6 : decode cX3_checkTwoClaims 6 = .ok (.iload_n 2, 1) := by decide +kernel
theorem dX3_checkTwoClaims_7 : decode cX3_checkTwoClaims 7 = .ok (.invokevirtual 108, 3) := by decide +kernel
theorem dX3_checkTwoClaims_10 : decode cX3_checkTwoClaims 10 = .ok (.iload_n 1, 1) := by decide +kernel
theorem dX3_checkTwoClaims_11 : decode cX3_checkTwoClaims 11 = .ok (.iload_n 2, 1) := by decide +kernel
theorem dX3_checkTwoClaims_12 : decode cX3_checkTwoClaims 12 = .ok (.if_icmp .ne 13, 3) := by decide +kernel
theorem dX3_checkTwoClaims_15 : decode cX3_checkTwoClaims 15 = .ok (.new 79, 3) := by decide +kernel
theorem dX3_checkTwoClaims_18 : decode cX3_checkTwoClaims 18 = .ok (.dup, 1) := by decide +kernel
theorem dX3_checkTwoClaims_19 : decode cX3_checkTwoClaims 19 = .ok (.ldc 156, 2) := by decide +kernel
theorem dX3_checkTwoClaims_21 : decode cX3_checkTwoClaims 21 = .ok (.invokespecial 83, 3) := by decide +kernel
theorem dX3_checkTwoClaims_24 : decode cX3_checkTwoClaims 24 = .ok (.athrow, 1) := by decide +kernel
theorem dX3_checkTwoClaims_25 : decode cX3_checkTwoClaims 25 = .ok (.return_, 1) := by decide +kernel
theorem dX3_contains_0 : decode cX3_contains 0 = .ok (.iload_n 0, 1) := by decide +kernel
theorem dX3_contains_1 : decode cX3_contains 1 = .ok (.iconst 1, 1) := by decide +kernel
theorem dX3_contains_2 : decode cX3_contains 2 = .ok (.iload_n 1, 1) := by decide +kernel
theorem dX3_contains_3 : decode cX3_contains 3 = .ok (.ishl, 1) := by decide +kernel
theorem dX3_contains_4 : decode cX3_contains 4 = .ok (.iand, 1) := by decide +kernel
theorem dX3_contains_5 : decode cX3_contains 5 = .ok (.ifCond .eq 7, 3) := by decide +kernel
theorem dX3_contains_8 : decode cX3_contains 8 = .ok (.iconst 1, 1) := by decide +kernel
theorem dX3_contains_9 : decode cX3_contains 9 = .ok (.goto 4, 3) := by decide +kernel
theorem dX3_contains_12 : decode cX3_contains 12 = .ok (.iconst 0, 1) := by decide +kernel
theorem dX3_contains_13 : decode cX3_contains 13 = .ok (.ireturn, 1) := by decide +kernel
theorem dX3_without_0 : decode cX3_without 0 = .ok (.iload_n 0, 1) := by decide +kernel
theorem dX3_without_1 : decode cX3_without 1 = .ok (.iconst 1, 1) := by decide +kernel
theorem dX3_without_2 : decode cX3_without 2 = .ok (.iload_n 1, 1) := by decide +kernel
theorem dX3_without_3 : decode cX3_without 3 = .ok (.ishl, 1) := by decide +kernel
theorem dX3_without_4 : decode cX3_without 4 = .ok (.iconst (-1), 1) := by decide +kernel
theorem dX3_without_5 : decode cX3_without 5 = .ok (.ixor, 1) := by decide +kernel
theorem dX3_without_6 : decode cX3_without 6 = .ok (.iand, 1) := by decide +kernel
theorem dX3_without_7 : decode cX3_without 7 = .ok (.ireturn, 1) := by decide +kernel
end
section
theorem dX4_init_0 : decode cX4_init 0 = .ok (.aload_n 0, 1) := by decide +kernel
theorem dX4_init_1 : decode cX4_init 1 = .ok (.invokespecial 1, 3) := by decide +kernel
theorem dX4_init_4 : decode cX4_init 4 = .ok (.aload_n 0, 1) := by decide +kernel
theorem dX4_init_5 : decode cX4_init 5 = .ok (.bipush 6, 2) := by decide +kernel
theorem dX4_init_7 : decode cX4_init 7 = .ok (.newarray .boolean, 2) := by decide +kernel
theorem dX4_init_9 : decode cX4_init 9 = .ok (.putfield 7, 3) := by decide +kernel
theorem dX4_init_12 : decode cX4_init 12 = .ok (.aload_n 0, 1) := by decide +kernel
theorem dX4_init_13 : decode cX4_init 13 = .ok (.bipush 14, 2) := by decide +kernel
theorem dX4_init_15 : decode cX4_init 15 = .ok (.newarray .int, 2) := by decide +kernel
theorem dX4_init_17 : decode cX4_init 17 = .ok (.putfield 13, 3) := by decide +kernel
theorem dX4_init_20 : decode cX4_init 20 = .ok (.aload_n 0, 1) := by decide +kernel
theorem dX4_init_21 : decode cX4_init 21 = .ok (.bipush 14, 2) := by decide +kernel
theorem dX4_init_23 : decode cX4_init 23 = .ok (.newarray .boolean, 2) := by decide +kernel
theorem dX4_init_25 : decode cX4_init 25 = .ok (.putfield 17, 3) := by decide +kernel
theorem dX4_init_28 : decode cX4_init 28 = .ok (.aload_n 0, 1) := by decide +kernel
theorem dX4_init_29 : decode cX4_init 29 = .ok (.iconst 3, 1) := by decide +kernel
theorem dX4_init_30 : decode cX4_init 30 = .ok (.newarray .int, 2) := by decide +kernel
theorem dX4_init_32 : decode cX4_init 32 = .ok (.putfield 20, 3) := by decide +kernel
theorem dX4_init_35 : decode cX4_init 35 = .ok (.aload_n 0, 1) := by decide +kernel
theorem dX4_init_36 : decode cX4_init 36 = .ok (.bipush 16, 2) := by decide +kernel
theorem dX4_init_38 : decode cX4_init 38 = .ok (.newarray .int, 2) := by decide +kernel
theorem dX4_init_40 : decode cX4_init 40 = .ok (.putfield 23, 3) := by decide +kernel
theorem dX4_init_43 : decode cX4_init 43 = .ok (.aload_n 0, 1) := by decide +kernel
theorem dX4_init_44 : decode cX4_init 44 = .ok (.bipush 16, 2) := by decide +kernel
theorem dX4_init_46 : decode cX4_init 46 = .ok (.newarray .int, 2) := by decide +kernel
theorem dX4_init_48 : decode cX4_init 48 = .ok (.putfield 26, 3) := by decide +kernel
theorem dX4_init_51 : decode cX4_init 51 = .ok (.aload_n 0, 1) := by decide +kernel
theorem dX4_init_52 : decode cX4_init 52 = .ok (.bipush 16, 2) := by decide +kernel
theorem dX4_init_54 : decode cX4_init 54 = .ok (.newarray .int, 2) := by decide +kernel
theorem dX4_init_56 : decode cX4_init 56 = .ok (.putfield 29, 3) := by decide +kernel
theorem dX4_init_59 : decode cX4_init 59 = .ok (.aload_n 0, 1) := by decide +kernel
theorem dX4_init_60 : decode cX4_init 60 = .ok (.bipush 16, 2) := by decide +kernel
theorem dX4_init_62 : decode cX4_init 62 = .ok (.newarray .int, 2) := by decide +kernel
theorem dX4_init_64 : decode cX4_init 64 = .ok (.putfield 32, 3) := by decide +kernel
theorem dX4_init_67 : decode cX4_init 67 = .ok (.aload_n 0, 1) := by decide +kernel
theorem dX4_init_68 : decode cX4_init 68 = .ok (.bipush 16, 2) := by decide +kernel
theorem dX4_init_70 : decode cX4_init 70 = .ok (.newarray .int, 2) := by decide +kernel
theorem dX4_init_72 : decode cX4_init 72 = .ok (.putfield 35, 3) := by decide +kernel
theorem dX4_init_75 : decode cX4_init 75 = .ok (.aload_n 0, 1) := by decide +kernel
theorem dX4_init_76 : decode cX4_init 76 = .ok (.iconst 3, 1) := by decide +kernel
theorem dX4_init_77 : decode cX4_init 77 = .ok (.newarray .int, 2) := by decide +kernel
theorem dX4_init_79 : decode cX4_init 79 = .ok (.putfield 38, 3) := by decide +kernel
theorem dX4_init_82 : decode cX4_init 82 = .ok (.aload_n 0, 1) := by decide +kernel
theorem dX4_init_83 : decode cX4_init 83 = .ok (.getfield 20, 3) := by decide +kernel
theorem dX4_init_86 : decode cX4_init 86 = .ok (.iconst 0, 1) := by decide +kernel
theorem dX4_init_87 : decode cX4_init 87 = .ok (.sipush 300, 3) := by decide +kernel
theorem dX4_init_90 : decode cX4_init 90 = .ok (.iastore, 1) := by decide +kernel
theorem dX4_init_91 : decode cX4_init 91 = .ok (.aload_n 0, 1) := by decide +kernel
theorem dX4_init_92 : decode cX4_init 92 = .ok (.getfield 20, 3) := by decide +kernel
theorem dX4_init_95 : decode cX4_init 95 = .ok (.iconst 1, 1) := by decide +kernel
theorem dX4_init_96 : decode cX4_init 96 = .ok (.sipush 300, 3) := by decide +kernel
theorem dX4_init_99 : decode cX4_init 99 = .ok (.iastore, 1) := by decide +kernel
theorem dX4_init_100 : decode cX4_init 100 = .ok (.aload_n 0, 1) := by decide +kernel
theorem dX4_init_101 : decode cX4_init 101 = .ok (.getfield 20, 3) := by decide +kernel
theorem dX4_init_104 : decode cX4_init 104 = .ok (.iconst 2, 1) := by decide +kernel
theorem dX4_init_105 : decode cX4_init 105 = .ok (.sipush 300, 3) := by decide +kernel
theorem dX4_init_108 : decode cX4_init 108 = .ok (.iastore, 1) := by decide +kernel
theorem dX4_init_109 : decode cX4_init 109 = .ok (.return_, 1) := by decide +kernel
theorem dX4_thrown_0 : decode cX4_thrown 0 = .ok (.aload_n 0, 1) := by decide +kernel
theorem dX4_thrown_1 : decode cX4_thrown 1 = .ok (.getfield 41, 3) := by decide +kernel
theorem dX4_thrown_4 : decode cX4_thrown 4 = .ok (.ireturn, 1) := by decide +kernel
theorem dX4_goes_0 : decode cX4_goes 0 = .ok (.aload_n 0, 1) := by decide +kernel
theorem dX4_goes_1 : decode cX4_goes 1 = .ok (.iload_n 1, 1) := by decide +kernel
theorem dX4_goes_2 : decode cX4_goes 2 = .ok (.putfield 41, 3) := by decide +kernel
theorem dX4_goes_5 : decode cX4_goes 5 = .ok (.iload_n 1, 1) := by decide +kernel
theorem dX4_goes_6 : decode cX4_goes 6 = .ok (.ifCond .ne 7, 3) := by decide +kernel
theorem dX4_goes_9 : decode cX4_goes 9 = .ok (.iconst 1, 1) := by decide +kernel
theorem dX4_goes_10 : decode cX4_goes 10 = .ok (.goto 4, 3) := by decide +kernel
theorem dX4_goes_13 : decode cX4_goes 13 = .ok (.iconst 0, 1) := by decide +kernel
theorem dX4_goes_14 : decode cX4_goes 14 = .ok (.ireturn, 1) := by decide +kernel
theorem dX4_isIn_0 : decode cX4_isIn 0 = .ok (.iload_n 0, 1) := by decide +kernel
theorem dX4_isIn_1 : decode cX4_isIn 1 = .ok (.iload_n 1, 1) := by decide +kernel
theorem dX4_isIn_2 : decode cX4_isIn 2 = .ok (.if_icmp .lt 12, 3) := by decide +kernel
theorem dX4_isIn_5 : decode cX4_isIn 5 = .ok (.iload_n 0, 1) := by decide +kernel
theorem dX4_isIn_6 : decode cX4_isIn 6 = .ok (.iload_n 2, 1) := by decide +kernel
theorem dX4_isIn_7 : decode cX4_isIn 7 = .ok (.if_icmp .gt 7, 3) := by decide +kernel
theorem dX4_isIn_10 : decode cX4_isIn 10 = .ok (.iconst 1, 1) := by decide +kernel
theorem dX4_isIn_11 : decode cX4_isIn 11 = .ok (.goto 4, 3) := by decide +kernel
theorem dX4_isIn_14 : decode cX4_isIn 14 = .ok (.iconst 0, 1) := by decide +kernel
theorem dX4_isIn_15 : decode cX4_isIn 15 = .ok (.ireturn, 1) := by decide +kernel
set_option maxRecDepth 20000 in
theorem ggX4_isSource_X4_isIn : GoodIn wsX4_isSource wsX4_isIn := goodIn_r _ [4] (by decide +kernel) (by decide +kernel)
set_option maxRecDepth 20000 in
theorem gX4_isSource_X4_isIn : GoodIn wsX4_isSource (va_wsS RX4 45 yX4_isIn wsX4_isIn) := goodIn_app (goodIn_of _ (by decide +kernel)) ggX4_isSource_X4_isIn
theorem dX4_isSource_0 : decode cX4_isSource 0 = .ok (.iload_n 0, 1) := by decide +kernel
theorem dX4_isSource_1 : decode cX4_isSource 1 = .ok (.iconst 0, 1) := by decide +kernel
theorem dX4_isSource_2 : decode cX4_isSource 2 = .ok (.iconst 5, 1) := by decide +kernel
theorem dX4_isSource_3 : decode cX4_isSource 3 = .ok (.invokestatic 45, 3) := by decide +kernel
theorem dX4_isSource_6 : decode cX4_isSource 6 = .ok (.ireturn, 1) := by decide +kernel
set_option maxRecDepth 20000 in
theorem ggX4_isFact_X4_isIn : GoodIn wsX4_isFact wsX4_isIn := goodIn_r _ [5] (by decide +kernel) (by decide +kernel)
set_option maxRecDepth 20000 in
theorem gX4_isFact_X4_isIn : GoodIn wsX4_isFact (va_wsS RX4 45 yX4_isIn wsX4_isIn) := goodIn_app (goodIn_of _ (by decide +kernel)) ggX4_isFact_X4_isIn
theorem dX4_isFact_0 : decode cX4_isFact 0 = .ok (.iload_n 1, 1) := by decide +kernel
theorem dX4_isFact_1 : decode cX4_isFact 1 = .ok (.iconst 0, 1) := by decide +kernel
theorem dX4_isFact_2 : decode cX4_isFact 2 = .ok (.aload_n 0, 1) := by decide +kernel
theorem dX4_isFact_3 : decode cX4_isFact 3 = .ok (.getfield 49, 3) := by decide +kernel
theorem dX4_isFact_6 : decode cX4_isFact 6 = .ok (.iconst 1, 1) := by decide +kernel
theorem dX4_isFact_7 : decode cX4_isFact 7 = .ok (.isub, 1) := by decide +kernel
theorem dX4_isFact_8 : decode cX4_isFact 8 = .ok (.invokestatic 45, 3) := by decide +kernel
theorem dX4_isFact_11 : decode cX4_isFact 11 = .ok (.ireturn, 1) := by decide +kernel
set_option maxRecDepth 20000 in
theorem ggX4_isPlayer_X4_isIn : GoodIn wsX4_isPlayer wsX4_isIn := goodIn_r _ [4] (by decide +kernel) (by decide +kernel)
set_option maxRecDepth 20000 in
theorem gX4_isPlayer_X4_isIn : GoodIn wsX4_isPlayer (va_wsS RX4 45 yX4_isIn wsX4_isIn) := goodIn_app (goodIn_of _ (by decide +kernel)) ggX4_isPlayer_X4_isIn
theorem dX4_isPlayer_0 : decode cX4_isPlayer 0 = .ok (.iload_n 0, 1) := by decide +kernel
theorem dX4_isPlayer_1 : decode cX4_isPlayer 1 = .ok (.iconst 0, 1) := by decide +kernel
theorem dX4_isPlayer_2 : decode cX4_isPlayer 2 = .ok (.iconst 2, 1) := by decide +kernel
theorem dX4_isPlayer_3 : decode cX4_isPlayer 3 = .ok (.invokestatic 45, 3) := by decide +kernel
theorem dX4_isPlayer_6 : decode cX4_isPlayer 6 = .ok (.ireturn, 1) := by decide +kernel
set_option maxRecDepth 20000 in
theorem ggX4_isClaim_X4_isIn : GoodIn wsX4_isClaim wsX4_isIn := goodIn_r _ [5] (by decide +kernel) (by decide +kernel)
set_option maxRecDepth 20000 in
theorem gX4_isClaim_X4_isIn : GoodIn wsX4_isClaim (va_wsS RX4 45 yX4_isIn wsX4_isIn) := goodIn_app (goodIn_of _ (by decide +kernel)) ggX4_isClaim_X4_isIn
theorem dX4_isClaim_0 : decode cX4_isClaim 0 = .ok (.iload_n 1, 1) := by decide +kernel
theorem dX4_isClaim_1 : decode cX4_isClaim 1 = .ok (.iconst 0, 1) := by decide +kernel
theorem dX4_isClaim_2 : decode cX4_isClaim 2 = .ok (.aload_n 0, 1) := by decide +kernel
theorem dX4_isClaim_3 : decode cX4_isClaim 3 = .ok (.getfield 52, 3) := by decide +kernel
theorem dX4_isClaim_6 : decode cX4_isClaim 6 = .ok (.iconst 1, 1) := by decide +kernel
theorem dX4_isClaim_7 : decode cX4_isClaim 7 = .ok (.isub, 1) := by decide +kernel
theorem dX4_isClaim_8 : decode cX4_isClaim 8 = .ok (.invokestatic 45, 3) := by decide +kernel
theorem dX4_isClaim_11 : decode cX4_isClaim 11 = .ok (.ireturn, 1) := by decide +kernel
set_option maxRecDepth 20000 in
theorem ggX4_addFact_X4_isSource : GoodIn wsX4_addFact wsX4_isSource := goodIn_r _ [6, 7, 8, 5, 9] (by decide +kernel) (by decide +kernel)
set_option maxRecDepth 20000 in
theorem gX4_addFact_X4_isSource : GoodIn wsX4_addFact (va_wsS RX4 55 yX4_isSource wsX4_isSource) := goodIn_app (goodIn_of _ (by decide +kernel)) ggX4_addFact_X4_isSource
set_option maxRecDepth 20000 in
theorem ggX4_addFact_X4_goes : GoodIn wsX4_addFact wsX4_goes := goodIn_r _ [13, 14, 15, 16, 17, 18, 19, 20, 21, 22, 23, 24, 25, 26, 27, 28, 29] (by decide +kernel) (by decide +kernel)
set_option maxRecDepth 20000 in
theorem gX4_addFact_X4_goes : GoodIn wsX4_addFact (wsV RX4 59 RX4 yX4_goes wsX4_goes) := goodIn_app (goodIn_of _ (by decide +kernel)) ggX4_addFact_X4_goes
theorem dX4_addFact_0 : decode cX4_addFact 0 = .ok (.aload_n 0, 1) := by decide +kernel
theorem dX4_addFact_1 : decode cX4_addFact 1 = .ok (.iload_n 1, 1) := by decide +kernel
theorem dX4_addFact_2 : decode cX4_addFact 2 = .ok (.invokestatic 55, 3) := by decide +kernel
theorem dX4_addFact_5 : decode cX4_addFact 5 = .ok (.ifCond .ne 7, 3) := by decide +kernel
theorem dX4_addFact_8 : decode cX4_addFact 8 = .ok (.iconst 1, 1) := by decide +kernel
theorem dX4_addFact_9 : decode cX4_addFact 9 = .ok (.goto 17, 3) := by decide +kernel
theorem dX4_addFact_12 : decode cX4_addFact 12 = .ok (.aload_n 0, 1) := by decide +kernel
theorem dX4_addFact_13 : decode cX4_addFact 13 = .ok (.getfield 49, 3) := by decide +kernel
theorem dX4_addFact_16 : decode cX4_addFact 16 = .ok (.bipush 14, 2) := by decide +kernel
theorem dX4_addFact_18 : decode cX4_addFact 18 = .ok (.if_icmp .ne 7, 3) := by decide +kernel
theorem dX4_addFact_21 : decode cX4_addFact 21 = .ok (.iconst 2, 1) := by decide +kernel
theorem dX4_addFact_22 : decode cX4_addFact 22 = .ok (.goto 4, 3) := by decide +kernel
theorem dX4_addFact_25 : decode cX4_addFact 25 = .ok (.iconst 0, 1) := by decide +kernel
theorem dX4_addFact_26 : decode cX4_addFact 26 = .ok (.invokevirtual 59, 3) := by decide +kernel
theorem dX4_addFact_29 : decode cX4_addFact 29 = .ok (.ifCond .ne 5, 3) := by decide +kernel
theorem dX4_addFact_32 : decode cX4_addFact 32 = .ok (.iconst 0, 1) := by decide +kernel
theorem dX4_addFact_33 : decode cX4_addFact 33 = .ok (.ireturn, 1) := by decide +kernel
theorem dX4_addFact_34 : decode cX4_addFact 34 = .ok (.aload_n 0, 1) := by decide +kernel
theorem dX4_addFact_35 : decode cX4_addFact 35 = .ok (.getfield 13, 3) := by decide +kernel
theorem dX4_addFact_38 : decode cX4_addFact 38 = .ok (.aload_n 0, 1) := by decide +kernel
theorem dX4_addFact_39 : decode cX4_addFact 39 = .ok (.getfield 49, 3) := by decide +kernel
theorem dX4_addFact_42 : decode cX4_addFact 42 = .ok (.iload_n 1, 1) := by decide +kernel
theorem dX4_addFact_43 : decode cX4_addFact 43 = .ok (.iastore, 1) := by decide +kernel
theorem dX4_addFact_44 : decode cX4_addFact 44 = .ok (.aload_n 0, 1) := by decide +kernel
theorem dX4_addFact_45 : decode cX4_addFact 45 = .ok (.dup, 1) := by decide +kernel
theorem dX4_addFact_46 : decode cX4_addFact 46 = .ok (.getfield 49, 3) := by decide +kernel
theorem dX4_addFact_49 : decode cX4_addFact 49 = .ok (.iconst 1, 1) := by decide +kernel
theorem dX4_addFact_50 : decode cX4_addFact 50 = .ok (.iadd, 1) := by decide +kernel
theorem dX4_addFact_51 : decode cX4_addFact 51 = .ok (.putfield 49, 3) := by decide +kernel
theorem dX4_addFact_54 : decode cX4_addFact 54 = .ok (.aload_n 0, 1) := by decide +kernel
theorem dX4_addFact_55 : decode cX4_addFact 55 = .ok (.getfield 49, 3) := by decide +kernel
theorem dX4_addFact_58 : decode cX4_addFact 58 = .ok (.iconst 1, 1) := by decide +kernel
theorem dX4_addFact_59 : decode cX4_addFact 59 = .ok (.isub, 1) := by decide +kernel
theorem dX4_addFact_60 : decode cX4_addFact 60 = .ok (.ireturn, 1) := by decide +kernel
set_option maxRecDepth 20000 in
theorem ggX4_toggleSource_X4_isSource : GoodIn wsX4_toggleSource wsX4_isSource := goodIn_r _ [5, 6, 7, 4, 8] (by decide +kernel) (by decide +kernel)
set_option maxRecDepth 20000 in
theorem gX4_toggleSource_X4_isSource : GoodIn wsX4_toggleSource (va_wsS RX4 55 yX4_isSource wsX4_isSource) := goodIn_app (goodIn_of _ (by decide +kernel)) ggX4_toggleSource_X4_isSource
set_option maxRecDepth 20000 in
theorem ggX4_toggleSource_X4_goes : GoodIn wsX4_toggleSource wsX4_goes := goodIn_r _ [12, 13, 14, 15, 16, 17, 18, 19, 20, 21, 22, 23, 24, 25, 26, 27, 28] (by decide +kernel) (by decide +kernel)
set_option maxRecDepth 20000 in
theorem gX4_toggleSource_X4_goes : GoodIn wsX4_toggleSource (wsV RX4 59 RX4 yX4_goes wsX4_goes) := goodIn_app (goodIn_of _ (by decide +kernel)) ggX4_toggleSource_X4_goes
theorem dX4_toggleSource_0 : decode cX4_toggleSource 0 = .ok (.aload_n 0, 1) := by decide +kernel
theorem dX4_toggleSource_1 : decode cX4_toggleSource 1 = .ok (.iload_n 1, 1) := by decide +kernel
theorem dX4_toggleSource_2 : decode cX4_toggleSource 2 = .ok (.invokestatic 55, 3) := by decide +kernel
theorem dX4_toggleSource_5 : decode cX4_toggleSource 5 = .ok (.ifCond .eq 7, 3) := by decide +kernel
theorem dX4_toggleSource_8 : decode cX4_toggleSource 8 = .ok (.iconst 0, 1) := by decide +kernel
theorem dX4_toggleSource_9 : decode cX4_toggleSource 9 = .ok (.goto 4, 3) := by decide +kernel
theorem dX4_toggleSource_12 : decode cX4_toggleSource 12 = .ok (.iconst 1, 1) := by decide +kernel
theorem dX4_toggleSource_13 : decode cX4_toggleSource 13 = .ok (.invokevirtual 59, 3) := by decide +kernel
theorem dX4_toggleSource_16 : decode cX4_toggleSource 16 = .ok (.ifCond .ne 5, 3) := by decide +kernel
theorem dX4_toggleSource_19 : decode cX4_toggleSource 19 = .ok (.iconst 0, 1) := by decide +kernel
theorem dX4_toggleSource_20 : decode cX4_toggleSource 20 = .ok (.ireturn, 1) := by decide +kernel
theorem dX4_toggleSource_21 : decode cX4_toggleSource 21 = .ok (.aload_n 0, 1) := by decide +kernel
theorem dX4_toggleSource_22 : decode cX4_toggleSource 22 = .ok (.getfield 7, 3) := by decide +kernel
theorem dX4_toggleSource_25 : decode cX4_toggleSource 25 = .ok (.iload_n 1, 1) := by decide +kernel
theorem dX4_toggleSource_26 : decode cX4_toggleSource 26 = .ok (.aload_n 0, 1) := by decide +kernel
theorem dX4_toggleSource_27 : decode cX4_toggleSource 27 = .ok (.getfield 7, 3) := by decide +kernel
theorem dX4_toggleSource_30 : decode cX4_toggleSource 30 = .ok (.iload_n 1, 1) := by decide +kernel
theorem dX4_toggleSource_31 : decode cX4_toggleSource 31 = .ok (.baload, 1) := by decide +kernel
theorem dX4_toggleSource_32 : decode cX4_toggleSource 32 = .ok (.ifCond .ne 7, 3) := by decide +kernel
theorem dX4_toggleSource_35 : decode cX4_toggleSource 35 = .ok (.iconst 1, 1) := by decide +kernel
theorem dX4_toggleSource_36 : decode cX4_toggleSource 36 = .ok (.goto 4, 3) := by decide +kernel
theorem dX4_toggleSource_39 : decode cX4_toggleSource 39 = .ok (.iconst 0, 1) := by decide +kernel
theorem dX4_toggleSource_40 : decode cX4_toggleSource 40 = .ok (.bastore, 1) := by decide +kernel
theorem dX4_toggleSource_41 : decode cX4_toggleSource 41 = .ok (.aload_n 0, 1) := by decide +kernel
theorem dX4_toggleSource_42 : decode cX4_toggleSource 42 = .ok (.getfield 7, 3) := by decide +kernel
theorem dX4_toggleSource_45 : decode cX4_toggleSource 45 = .ok (.iload_n 1, 1) := by decide +kernel
theorem dX4_toggleSource_46 : decode cX4_toggleSource 46 = .ok (.baload, 1) := by decide +kernel
theorem dX4_toggleSource_47 : decode cX4_toggleSource 47 = .ok (.ifCond .ne 7, 3) := by decide +kernel
theorem dX4_toggleSource_50 : decode cX4_toggleSource 50 = .ok (.iconst 1, 1) := by decide +kernel
theorem dX4_toggleSource_51 : decode cX4_toggleSource 51 = .ok (.goto 4, 3) := by decide +kernel
theorem dX4_toggleSource_54 : decode cX4_toggleSource 54 = .ok (.iconst 0, 1) := by decide +kernel
theorem dX4_toggleSource_55 : decode cX4_toggleSource 55 = .ok (.ireturn, 1) := by decide +kernel
set_option maxRecDepth 20000 in
theorem ggX4_withdraw_X4_isFact : GoodIn wsX4_withdraw wsX4_isFact := goodIn_r _ [6, 7, 8, 9, 5, 10, 16, 17, 18, 19, 20, 21, 22, 23, 24, 25, 26, 27, 28, 29, 30] (by decide +kernel) (by decide +kernel)
set_option maxRecDepth 20000 in
theorem gX4_withdraw_X4_isFact : GoodIn wsX4_withdraw (wsV RX4 62 RX4 yX4_isFact wsX4_isFact) := goodIn_app (goodIn_of _ (by decide +kernel)) ggX4_withdraw_X4_isFact
set_option maxRecDepth 20000 in
theorem ggX4_withdraw_X4_goes : GoodIn wsX4_withdraw wsX4_goes := goodIn_r _ [14, 15, 16, 17, 18, 19, 20, 21, 22, 23, 24, 25, 26, 27, 28, 29, 30] (by decide +kernel) (by decide +kernel)
set_option maxRecDepth 20000 in
theorem gX4_withdraw_X4_goes : GoodIn wsX4_withdraw (wsV RX4 59 RX4 yX4_goes wsX4_goes) := goodIn_app (goodIn_of _ (by decide +kernel)) ggX4_withdraw_X4_goes
theorem dX4_withdraw_0 : decode cX4_withdraw 0 = .ok (.aload_n 0, 1) := by decide +kernel
theorem dX4_withdraw_1 : decode cX4_withdraw 1 = .ok (.aload_n 0, 1) := by decide +kernel
theorem dX4_withdraw_2 : decode cX4_withdraw 2 = .ok (.iload_n 1, 1) := by decide +kernel
theorem dX4_withdraw_3 : decode cX4_withdraw 3 = .ok (.invokevirtual 62, 3) := by decide +kernel
theorem dX4_withdraw_6 : decode cX4_withdraw 6 = .ok (.ifCond .eq 7, 3) := by decide +kernel
theorem dX4_withdraw_9 : decode cX4_withdraw 9 = .ok (.iconst 0, 1) := by decide +kernel
theorem dX4_withdraw_10 : decode cX4_withdraw 10 = .ok (.goto 4, 3) := by decide +kernel
theorem dX4_withdraw_13 : decode cX4_withdraw 13 = .ok (.iconst 1, 1) := by decide +kernel
theorem dX4_withdraw_14 : decode cX4_withdraw 14 = .ok (.invokevirtual 59, 3) := by decide +kernel
theorem dX4_withdraw_17 : decode cX4_withdraw 17 = .ok (.ifCond .ne 5, 3) := by decide +kernel
theorem dX4_withdraw_20 : decode cX4_withdraw 20 = .ok (.iconst 0, 1) := by decide +kernel
theorem dX4_withdraw_21 : decode cX4_withdraw 21 = .ok (.ireturn, 1) := by decide +kernel
theorem dX4_withdraw_22 : decode cX4_withdraw 22 = .ok (.aload_n 0, 1) := by decide +kernel
theorem dX4_withdraw_23 : decode cX4_withdraw 23 = .ok (.getfield 17, 3) := by decide +kernel
theorem dX4_withdraw_26 : decode cX4_withdraw 26 = .ok (.iload_n 1, 1) := by decide +kernel
theorem dX4_withdraw_27 : decode cX4_withdraw 27 = .ok (.baload, 1) := by decide +kernel
theorem dX4_withdraw_28 : decode cX4_withdraw 28 = .ok (.istore_n 2, 1) := by decide +kernel
theorem dX4_withdraw_29 : decode cX4_withdraw 29 = .ok (.aload_n 0, 1) := by decide +kernel
theorem dX4_withdraw_30 : decode cX4_withdraw 30 = .ok (.getfield 17, 3) := by decide +kernel
theorem dX4_withdraw_33 : decode cX4_withdraw 33 = .ok (.iload_n 1, 1) := by decide +kernel
theorem dX4_withdraw_34 : decode cX4_withdraw 34 = .ok (.iconst 1, 1) := by decide +kernel
theorem dX4_withdraw_35 : decode cX4_withdraw 35 = .ok (.bastore, 1) := by decide +kernel
theorem dX4_withdraw_36 : decode cX4_withdraw 36 = .ok (.iload_n 2, 1) := by decide +kernel
theorem dX4_withdraw_37 : decode cX4_withdraw 37 = .ok (.ifCond .ne 7, 3) := by decide +kernel
theorem dX4_withdraw_40 : decode cX4_withdraw 40 = .ok (.iconst 1, 1) := by decide +kernel
theorem dX4_withdraw_41 : decode cX4_withdraw 41 = .ok (.goto 4, 3) := by decide +kernel
theorem dX4_withdraw_44 : decode cX4_withdraw 44 = .ok (.iconst 0, 1) := by decide +kernel
theorem dX4_withdraw_45 : decode cX4_withdraw 45 = .ok (.ireturn, 1) := by decide +kernel
theorem dX4_stands_0 : decode cX4_stands 0 = .ok (.aload_n 0, 1) := by decide +kernel
theorem dX4_stands_1 : decode cX4_stands 1 = .ok (.getfield 17, 3) := by decide +kernel
theorem dX4_stands_4 : decode cX4_stands 4 = .ok (.iload_n 1, 1) := by decide +kernel
theorem dX4_stands_5 : decode cX4_stands 5 = .ok (.baload, 1) := by decide +kernel
theorem dX4_stands_6 : decode cX4_stands 6 = .ok (.ifCond .ne 21, 3) := by decide +kernel
theorem dX4_stands_9 : decode cX4_stands 9 = .ok (.aload_n 0, 1) := by decide +kernel
theorem dX4_stands_10 : decode cX4_stands 10 = .ok (.getfield 7, 3) := by decide +kernel
theorem dX4_stands_13 : decode cX4_stands 13 = .ok (.aload_n 0, 1) := by decide +kernel
theorem dX4_stands_14 : decode cX4_stands 14 = .ok (.getfield 13, 3) := by decide +kernel
theorem dX4_stands_17 : decode cX4_stands 17 = .ok (.iload_n 1, 1) := by decide +kernel
theorem dX4_stands_18 : decode cX4_stands 18 = .ok (.iaload, 1) := by decide +kernel
theorem dX4_stands_19 : decode cX4_stands 19 = .ok (.baload, 1) := by decide +kernel
theorem dX4_stands_20 : decode cX4_stands 20 = .ok (.ifCond .ne 7, 3) := by decide +kernel
theorem dX4_stands_23 : decode cX4_stands 23 = .ok (.iconst 1, 1) := by decide +kernel
theorem dX4_stands_24 : decode cX4_stands 24 = .ok (.goto 4, 3) := by decide +kernel
theorem dX4_stands_27 : decode cX4_stands 27 = .ok (.iconst 0, 1) := by decide +kernel
theorem dX4_stands_28 : decode cX4_stands 28 = .ok (.ireturn, 1) := by decide +kernel
set_option maxRecDepth 20000 in
theorem ggX4_factStands_X4_isFact : GoodIn wsX4_factStands wsX4_isFact := goodIn_r _ [5, 6, 7, 8, 4, 9, 22, 23, 24, 25, 26, 27, 28, 29, 30, 31, 32, 33, 34, 35, 36] (by decide +kernel) (by decide +kernel)
set_option maxRecDepth 20000 in
theorem gX4_factStands_X4_isFact : GoodIn wsX4_factStands (wsV RX4 62 RX4 yX4_isFact wsX4_isFact) := goodIn_app (goodIn_of _ (by decide +kernel)) ggX4_factStands_X4_isFact
set_option maxRecDepth 20000 in
theorem ggX4_factStands_X4_goes : GoodIn wsX4_factStands wsX4_goes := goodIn_r _ [13, 14, 22, 23, 24, 25, 26, 27, 28, 29, 30, 31, 32, 33, 34, 35, 36] (by decide +kernel) (by decide +kernel)
set_option maxRecDepth 20000 in
theorem gX4_factStands_X4_goes : GoodIn wsX4_factStands (wsV RX4 59 RX4 yX4_goes wsX4_goes) := goodIn_app (goodIn_of _ (by decide +kernel)) ggX4_factStands_X4_goes
set_option maxRecDepth 20000 in
theorem ggX4_factStands_X4_stands : GoodIn wsX4_factStands wsX4_stands := goodIn_r _ [18, 19, 20, 21, 22, 23, 24, 25, 26, 27, 28, 29, 30, 31, 32, 33, 34, 35, 36] (by decide +kernel) (by decide +kernel)
set_option maxRecDepth 20000 in
theorem gX4_factStands_X4_stands : GoodIn wsX4_factStands (wsV RX4 65 RX4 yX4_stands wsX4_stands) := goodIn_app (goodIn_of _ (by decide +kernel)) ggX4_factStands_X4_stands
theorem dX4_factStands_0 : decode cX4_factStands 0 = .ok (.aload_n 0, 1) := by decide +kernel
theorem dX4_factStands_1 : decode cX4_factStands 1 = .ok (.aload_n 0, 1) := by decide +kernel
theorem dX4_factStands_2 : decode cX4_factStands 2 = .ok (.iload_n 1, 1) := by decide +kernel
theorem dX4_factStands_3 : decode cX4_factStands 3 = .ok (.invokevirtual 62, 3) := by decide +kernel
theorem dX4_factStands_6 : decode cX4_factStands 6 = .ok (.ifCond .eq 7, 3) := by decide +kernel
theorem dX4_factStands_9 : decode cX4_factStands 9 = .ok (.iconst 0, 1) := by decide +kernel
theorem dX4_factStands_10 : decode cX4_factStands 10 = .ok (.goto 4, 3) := by decide +kernel
theorem dX4_factStands_13 : decode cX4_factStands 13 = .ok (.iconst 1, 1) := by decide +kernel
theorem dX4_factStands_14 : decode cX4_factStands 14 = .ok (.invokevirtual 59, 3) := by decide +kernel
theorem dX4_factStands_17 : decode cX4_factStands 17 = .ok (.ifCond .eq 15, 3) := by decide +kernel
theorem dX4_factStands_20 : decode cX4_factStands 20 = .ok (.aload_n 0, 1) := by decide +kernel
theorem dX4_factStands_21 : decode cX4_factStands 21 = .ok (.iload_n 1, 1) := by decide +kernel
theorem dX4_factStands_22 : decode cX4_factStands 22 = .ok (.invokevirtual 65, 3) := by decide +kernel
theorem dX4_factStands_25 : decode cX4_factStands 25 = .ok (.ifCond .eq 7, 3) := by decide +kernel
theorem dX4_factStands_28 : decode cX4_factStands 28 = .ok (.iconst 1, 1) := by decide +kernel
theorem dX4_factStands_29 : decode cX4_factStands 29 = .ok (.goto 4, 3) := by decide +kernel
theorem dX4_factStands_32 : decode cX4_factStands 32 = .ok (.iconst 0, 1) := by decide +kernel
theorem dX4_factStands_33 : decode cX4_factStands 33 = .ok (.ireturn, 1) := by decide +kernel
theorem dX4_facts_0 : decode cX4_facts 0 = .ok (.aload_n 0, 1) := by decide +kernel
theorem dX4_facts_1 : decode cX4_facts 1 = .ok (.iconst 0, 1) := by decide +kernel
theorem dX4_facts_2 : decode cX4_facts 2 = .ok (.putfield 41, 3) := by decide +kernel
theorem dX4_facts_5 : decode cX4_facts 5 = .ok (.aload_n 0, 1) := by decide +kernel
theorem dX4_facts_6 : decode cX4_facts 6 = .ok (.getfield 49, 3) := by decide +kernel
theorem dX4_facts_9 : decode cX4_facts 9 = .ok (.ireturn, 1) := by decide +kernel
set_option maxRecDepth 20000 in
theorem ggX4_standing_X4_stands : GoodIn wsX4_standing wsX4_stands := goodIn_r _ [6, 7, 8, 9, 10, 11, 12, 13, 14, 15, 16, 17, 18, 19, 20, 21, 22, 23, 24] (by decide +kernel) (by decide +kernel)
set_option maxRecDepth 20000 in
theorem gX4_standing_X4_stands : GoodIn wsX4_standing (wsV RX4 65 RX4 yX4_stands wsX4_stands) := goodIn_app (goodIn_of _ (by decide +kernel)) ggX4_standing_X4_stands
theorem dX4_standing_0 : decode cX4_standing 0 = .ok (.iconst 0, 1) := by decide +kernel
theorem dX4_standing_1 : decode cX4_standing 1 = .ok (.istore_n 2, 1) := by decide +kernel
theorem dX4_standing_2 : decode cX4_standing 2 = .ok (.iconst 0, 1) := by decide +kernel
theorem dX4_standing_3 : decode cX4_standing 3 = .ok (.istore_n 3, 1) := by decide +kernel
theorem dX4_standing_4 : decode cX4_standing 4 = .ok (.iload_n 3, 1) := by decide +kernel
theorem dX4_standing_5 : decode cX4_standing 5 = .ok (.aload_n 0, 1) := by decide +kernel
theorem dX4_standing_6 : decode cX4_standing 6 = .ok (.getfield 49, 3) := by decide +kernel
theorem dX4_standing_9 : decode cX4_standing 9 = .ok (.if_icmp .ge 32, 3) := by decide +kernel
theorem dX4_standing_12 : decode cX4_standing 12 = .ok (.iload_n 2, 1) := by decide +kernel
theorem dX4_standing_13 : decode cX4_standing 13 = .ok (.iload_n 3, 1) := by decide +kernel
theorem dX4_standing_14 : decode cX4_standing 14 = .ok (.iload_n 1, 1) := by decide +kernel
theorem dX4_standing_15 : decode cX4_standing 15 = .ok (.if_icmp .eq 17, 3) := by decide +kernel
theorem dX4_standing_18 : decode cX4_standing 18 = .ok (.aload_n 0, 1) := by decide +kernel
theorem dX4_standing_19 : decode cX4_standing 19 = .ok (.iload_n 3, 1) := by decide +kernel
theorem dX4_standing_20 : decode cX4_standing 20 = .ok (.invokevirtual 65, 3) := by decide +kernel
theorem dX4_standing_23 : decode cX4_standing 23 = .ok (.ifCond .eq 9, 3) := by decide +kernel
theorem dX4_standing_26 : decode cX4_standing 26 = .ok (.iconst 1, 1) := by decide +kernel
theorem dX4_standing_27 : decode cX4_standing 27 = .ok (.iload_n 3, 1) := by decide +kernel
theorem dX4_standing_28 : decode cX4_standing 28 = .ok (.ishl, 1) := by decide +kernel
theorem dX4_standing_29 : decode cX4_standing 29 = .ok (.goto 4, 3) := by decide +kernel
theorem dX4_standing_32 : decode cX4_standing 32 = .ok (.iconst 0, 1) := by decide +kernel
theorem dX4_standing_33 : decode cX4_standing 33 = .ok (.ior, 1) := by decide +kernel
theorem dX4_standing_34 : decode cX4_standing 34 = .ok (.istore_n 2, 1) := by decide +kernel
theorem dX4_standing_35 : decode cX4_standing 35 = .ok (.iinc 3 1, 3) := by decide +kernel
theorem dX4_standing_38 : decode cX4_standing 38 = .ok (.goto (-34), 3) := by decide +kernel
theorem dX4_standing_41 : decode cX4_standing 41 = .ok (.iload_n 2, 1) := by decide +kernel
theorem dX4_standing_42 : decode cX4_standing 42 = .ok (.ireturn, 1) := by decide +kernel
theorem dX4_next_0 : decode cX4_next 0 = .ok (.aload_n 0, 1) := by decide +kernel
theorem dX4_next_1 : decode cX4_next 1 = .ok (.aload_n 0, 1) := by decide +kernel
theorem dX4_next_2 : decode cX4_next 2 = .ok (.getfield 68, 3) := by decide +kernel
theorem dX4_next_5 : decode cX4_next 5 = .ok (.iconst 1, 1) := by decide +kernel
theorem dX4_next_6 : decode cX4_next 6 = .ok (.iadd, 1) := by decide +kernel
theorem dX4_next_7 : decode cX4_next 7 = .ok (.iconst 3, 1) := by decide +kernel
theorem dX4_next_8 : decode cX4_next 8 = .ok (.irem, 1) := by decide +kernel
theorem dX4_next_9 : decode cX4_next 9 = .ok (.putfield 68, 3) := by decide +kernel
theorem dX4_next_12 : decode cX4_next 12 = .ok (.return_, 1) := by decide +kernel
set_option maxRecDepth 20000 in
theorem ggX4_claim_X4_isIn : GoodIn wsX4_claim wsX4_isIn := goodIn_r _ [12] (by decide +kernel) (by decide +kernel)
set_option maxRecDepth 20000 in
theorem gX4_claim_X4_isIn : GoodIn wsX4_claim (va_wsS RX4 45 yX4_isIn wsX4_isIn) := goodIn_app (goodIn_of _ (by decide +kernel)) ggX4_claim_X4_isIn
set_option maxRecDepth 20000 in
theorem ggX4_claim_X4_goes : GoodIn wsX4_claim wsX4_goes := goodIn_r _ [16, 17, 22, 23, 24, 25, 26, 27, 28, 29, 30, 31, 32, 33, 34, 35, 36] (by decide +kernel) (by decide +kernel)
set_option maxRecDepth 20000 in
theorem gX4_claim_X4_goes : GoodIn wsX4_claim (wsV RX4 59 RX4 yX4_goes wsX4_goes) := goodIn_app (goodIn_of _ (by decide +kernel)) ggX4_claim_X4_goes
set_option maxRecDepth 20000 in
theorem ggX4_claim_X4_next : GoodIn wsX4_claim wsX4_next := goodIn_r _ [21, 4, 22, 23, 24, 25, 26, 27, 28, 29, 30, 31, 32, 33, 34, 35, 36] (by decide +kernel) (by decide +kernel)
set_option maxRecDepth 20000 in
theorem gX4_claim_X4_next : GoodIn wsX4_claim (wsV RX4 71 RX4 yX4_next wsX4_next) := goodIn_app (goodIn_of _ (by decide +kernel)) ggX4_claim_X4_next
theorem dX4_claim_0 : decode cX4_claim 0 = .ok (.iload_n 1, 1) := by decide +kernel
theorem dX4_claim_1 : decode cX4_claim 1 = .ok (.ifCond .lt 26, 3) := by decide +kernel
theorem dX4_claim_4 : decode cX4_claim 4 = .ok (.iload_n 1, 1) := by decide +kernel
theorem dX4_claim_5 : decode cX4_claim 5 = .ok (.aload_n 0, 1) := by decide +kernel
theorem dX4_claim_6 : decode cX4_claim 6 = .ok (.getfield 49, 3) := by decide +kernel
theorem dX4_claim_9 : decode cX4_claim 9 = .ok (.ishr, 1) := by decide +kernel
theorem dX4_claim_10 : decode cX4_claim 10 = .ok (.ifCond .ne 17, 3) := by decide +kernel
theorem dX4_claim_13 : decode cX4_claim 13 = .ok (.iload_n 2, 1) := by decide +kernel
theorem dX4_claim_14 : decode cX4_claim 14 = .ok (.iconst 1, 1) := by decide +kernel
theorem dX4_claim_15 : decode cX4_claim 15 = .ok (.bipush 100, 2) := by decide +kernel
theorem dX4_claim_17 : decode cX4_claim 17 = .ok (.invokestatic 45, 3) := by decide +kernel
theorem dX4_claim_20 : decode cX4_claim 20 = .ok (.ifCond .eq 7, 3) := by decide +kernel
theorem dX4_claim_23 : decode cX4_claim 23 = .ok (.iconst 1, 1) := by decide +kernel
theorem dX4_claim_24 : decode cX4_claim 24 = .ok (.goto 4, 3) := by decide +kernel
theorem dX4_claim_27 : decode cX4_claim 27 = .ok (.iconst 0, 1) := by decide +kernel
theorem dX4_claim_28 : decode cX4_claim 28 = .ok (.istore_n 3, 1) := by decide +kernel
theorem dX4_claim_29 : decode cX4_claim 29 = .ok (.aload_n 0, 1) := by decide +kernel
theorem dX4_claim_30 : decode cX4_claim 30 = .ok (.iload_n 3, 1) := by decide +kernel
theorem dX4_claim_31 : decode cX4_claim 31 = .ok (.ifCond .ne 7, 3) := by decide +kernel
theorem dX4_claim_34 : decode cX4_claim 34 = .ok (.iconst 1, 1) := by decide +kernel
theorem dX4_claim_35 : decode cX4_claim 35 = .ok (.goto 30, 3) := by decide +kernel
theorem dX4_claim_38 : decode cX4_claim 38 = .ok (.aload_n 0, 1) := by decide +kernel
theorem dX4_claim_39 : decode cX4_claim 39 = .ok (.getfield 52, 3) := by decide +kernel
theorem dX4_claim_42 : decode cX4_claim 42 = .ok (.bipush 16, 2) := by decide +kernel
theorem dX4_claim_44 : decode cX4_claim 44 = .ok (.if_icmp .eq 16, 3) := by decide +kernel
theorem dX4_claim_47 : decode cX4_claim 47 = .ok (.aload_n 0, 1) := by decide +kernel
theorem dX4_claim_48 : decode cX4_claim 48 = .ok (.getfield 20, 3) := by decide +kernel
theorem dX4_claim_51 : decode cX4_claim 51 = .ok (.aload_n 0, 1) := by decide +kernel
theorem dX4_claim_52 : decode cX4_claim 52 = .ok (.getfield 68, 3) := by decide +kernel
theorem dX4_claim_55 : decode cX4_claim 55 = .ok (.iaload, 1) := by decide +kernel
theorem dX4_claim_56 : decode cX4_claim 56 = .ok (.iload_n 2, 1) := by decide +kernel
theorem dX4_claim_57 : decode cX4_claim 57 = .ok (.if_icmp .ge 7, 3) := by decide +kernel
theorem dX4_claim_60 : decode cX4_claim 60 = .ok (.iconst 2, 1) := by decide +kernel
theorem dX4_claim_61 : decode cX4_claim 61 = .ok (.goto 4, 3) := by decide +kernel
theorem dX4_claim_64 : decode cX4_claim 64 = .ok (.iconst 0, 1) := by decide +kernel
theorem dX4_claim_65 : decode cX4_claim 65 = .ok (.invokevirtual 59, 3) := by decide +kernel
theorem dX4_claim_68 : decode cX4_claim 68 = .ok (.ifCond .ne 5, 3) := by decide +kernel
theorem dX4_claim_71 : decode cX4_claim 71 = .ok (.iconst 0, 1) := by decide +kernel
theorem dX4_claim_72 : decode cX4_claim 72 = .ok (.ireturn, 1) := by decide +kernel
theorem dX4_claim_73 : decode cX4_claim 73 = .ok (.aload_n 0, 1) := by decide +kernel
theorem dX4_claim_74 : decode cX4_claim 74 = .ok (.getfield 23, 3) := by decide +kernel
theorem dX4_claim_77 : decode cX4_claim 77 = .ok (.aload_n 0, 1) := by decide +kernel
theorem dX4_claim_78 : decode cX4_claim 78 = .ok (.getfield 52, 3) := by decide +kernel
theorem dX4_claim_81 : decode cX4_claim 81 = .ok (.aload_n 0, 1) := by decide +kernel
theorem dX4_claim_82 : decode cX4_claim 82 = .ok (.getfield 68, 3) := by decide +kernel
theorem dX4_claim_85 : decode cX4_claim 85 = .ok (.iastore, 1) := by decide +kernel
theorem dX4_claim_86 : decode cX4_claim 86 = .ok (.aload_n 0, 1) := by decide +kernel
theorem dX4_claim_87 : decode cX4_claim 87 = .ok (.getfield 26, 3) := by decide +kernel
theorem dX4_claim_90 : decode cX4_claim 90 = .ok (.aload_n 0, 1) := by decide +kernel
theorem dX4_claim_91 : decode cX4_claim 91 = .ok (.getfield 52, 3) := by decide +kernel
theorem dX4_claim_94 : decode cX4_claim 94 = .ok (.iload_n 1, 1) := by decide +kernel
theorem dX4_claim_95 : decode cX4_claim 95 = .ok (.iastore, 1) := by decide +kernel
theorem dX4_claim_96 : decode cX4_claim 96 = .ok (.aload_n 0, 1) := by decide +kernel
theorem dX4_claim_97 : decode cX4_claim 97 = .ok (.getfield 29, 3) := by decide +kernel
theorem dX4_claim_100 : decode cX4_claim 100 = .ok (.aload_n 0, 1) := by decide +kernel
theorem dX4_claim_101 : decode cX4_claim 101 = .ok (.getfield 52, 3) := by decide +kernel
theorem dX4_claim_104 : decode cX4_claim 104 = .ok (.iconst 0, 1) := by decide +kernel
theorem dX4_claim_105 : decode cX4_claim 105 = .ok (.iastore, 1) := by decide +kernel
theorem dX4_claim_106 : decode cX4_claim 106 = .ok (.aload_n 0, 1) := by decide +kernel
theorem dX4_claim_107 : decode cX4_claim 107 = .ok (.getfield 32, 3) := by decide +kernel
theorem dX4_claim_110 : decode cX4_claim 110 = .ok (.aload_n 0, 1) := by decide +kernel
theorem dX4_claim_111 : decode cX4_claim 111 = .ok (.getfield 52, 3) := by decide +kernel
theorem dX4_claim_114 : decode cX4_claim 114 = .ok (.iconst 0, 1) := by decide +kernel
theorem dX4_claim_115 : decode cX4_claim 115 = .ok (.iastore, 1) := by decide +kernel
theorem dX4_claim_116 : decode cX4_claim 116 = .ok (.aload_n 0, 1) := by decide +kernel
theorem dX4_claim_117 : decode cX4_claim 117 = .ok (.getfield 20, 3) := by decide +kernel
theorem dX4_claim_120 : decode cX4_claim 120 = .ok (.aload_n 0, 1) := by decide +kernel
theorem dX4_claim_121 : decode cX4_claim 121 = .ok (.getfield 68, 3) := by decide +kernel
theorem dX4_claim_124 : decode cX4_claim 124 = .ok (.dup2, 1) := by decide +kernel
theorem dX4_claim_125 : decode cX4_claim 125 = .ok (.iaload, 1) := by decide +kernel
theorem dX4_claim_126 : decode cX4_claim 126 = .ok (.iload_n 2, 1) := by decide +kernel
theorem dX4_claim_127 : decode cX4_claim 127 = .ok (.isub, 1) := by decide +kernel
theorem dX4_claim_128 : decode cX4_claim 128 = .ok (.iastore, 1) := by decide +kernel
theorem dX4_claim_129 : decode cX4_claim 129 = .ok (.aload_n 0, 1) := by decide +kernel
theorem dX4_claim_130 : decode cX4_claim 130 = .ok (.dup, 1) := by decide +kernel
theorem dX4_claim_131 : decode cX4_claim 131 = .ok (.getfield 52, 3) := by decide +kernel
theorem dX4_claim_134 : decode cX4_claim 134 = .ok (.iconst 1, 1) := by decide +kernel
theorem dX4_claim_135 : decode cX4_claim 135 = .ok (.iadd, 1) := by decide +kernel
theorem dX4_claim_136 : decode cX4_claim 136 = .ok (.putfield 52, 3) := by decide +kernel
theorem dX4_claim_139 : decode cX4_claim 139 = .ok (.aload_n 0, 1) := by decide +kernel
theorem dX4_claim_140 : decode cX4_claim 140 = .ok (.invokevirtual 71, 3) := by decide +kernel
theorem dX4_claim_143 : decode cX4_claim 143 = .ok (.aload_n 0, 1) := by decide +kernel
theorem dX4_claim_144 : decode cX4_claim 144 = .ok (.getfield 52, 3) := by decide +kernel
theorem dX4_claim_147 : decode cX4_claim 147 = .ok (.iconst 1, 1) := by decide +kernel
theorem dX4_claim_148 : decode cX4_claim 148 = .ok (.isub, 1) := by decide +kernel
theorem dX4_claim_149 : decode cX4_claim 149 = .ok (.ireturn, 1) := by decide +kernel
set_option maxRecDepth 20000 in
theorem ggX4_skip_X4_next : GoodIn wsX4_skip wsX4_next := goodIn_r _ [7, 2, 8, 9, 10, 11, 12, 13, 14, 15, 16, 17, 18, 19, 20, 21, 22] (by decide +kernel) (by decide +kernel)
set_option maxRecDepth 20000 in
theorem gX4_skip_X4_next : GoodIn wsX4_skip (wsV RX4 71 RX4 yX4_next wsX4_next) := goodIn_app (goodIn_of _ (by decide +kernel)) ggX4_skip_X4_next
theorem dX4_skip_0 : decode cX4_skip 0 = .ok (.aload_n 0, 1) := by decide +kernel
theorem dX4_skip_1 : decode cX4_skip 1 = .ok (.iconst 0, 1) := by decide +kernel
theorem dX4_skip_2 : decode cX4_skip 2 = .ok (.putfield 41, 3) := by decide +kernel
theorem dX4_skip_5 : decode cX4_skip 5 = .ok (.aload_n 0, 1) := by decide +kernel
theorem dX4_skip_6 : decode cX4_skip 6 = .ok (.invokevirtual 71, 3) := by decide +kernel
theorem dX4_skip_9 : decode cX4_skip 9 = .ok (.aload_n 0, 1) := by decide +kernel
theorem dX4_skip_10 : decode cX4_skip 10 = .ok (.getfield 68, 3) := by decide +kernel
theorem dX4_skip_13 : decode cX4_skip 13 = .ok (.ireturn, 1) := by decide +kernel
set_option maxRecDepth 20000 in
theorem ggX4_areTwo_X4_isClaim : GoodIn wsX4_areTwo wsX4_isClaim := goodIn_r _ [5, 6, 7, 8, 4, 9, 15, 16, 17, 18, 19, 20, 21, 22, 23, 24, 25, 26, 27, 28, 29] (by decide +kernel) (by decide +kernel)
set_option maxRecDepth 20000 in
theorem gX4_areTwo_X4_isClaim : GoodIn wsX4_areTwo (wsV RX4 74 RX4 yX4_isClaim wsX4_isClaim) := goodIn_app (goodIn_of _ (by decide +kernel)) ggX4_areTwo_X4_isClaim
set_option maxRecDepth 20000 in
theorem ggX4_areTwo_X4_goes : GoodIn wsX4_areTwo wsX4_goes := goodIn_r _ [13, 14, 15, 16, 17, 18, 19, 20, 21, 22, 23, 24, 25, 26, 27, 28, 29] (by decide +kernel) (by decide +kernel)
set_option maxRecDepth 20000 in
theorem gX4_areTwo_X4_goes : GoodIn wsX4_areTwo (wsV RX4 59 RX4 yX4_goes wsX4_goes) := goodIn_app (goodIn_of _ (by decide +kernel)) ggX4_areTwo_X4_goes
theorem dX4_areTwo_0 : decode cX4_areTwo 0 = .ok (.aload_n 0, 1) := by decide +kernel
theorem dX4_areTwo_1 : decode cX4_areTwo 1 = .ok (.aload_n 0, 1) := by decide +kernel
theorem dX4_areTwo_2 : decode cX4_areTwo 2 = .ok (.iload_n 1, 1) := by decide +kernel
theorem dX4_areTwo_3 : decode cX4_areTwo 3 = .ok (.invokevirtual 74, 3) := by decide +kernel
theorem dX4_areTwo_6 : decode cX4_areTwo 6 = .ok (.ifCond .eq 11, 3) := by decide +kernel
theorem dX4_areTwo_9 : decode cX4_areTwo 9 = .ok (.aload_n 0, 1) := by decide +kernel
theorem dX4_areTwo_10 : decode cX4_areTwo 10 = .ok (.iload_n 2, 1) := by decide +kernel
theorem dX4_areTwo_11 : decode cX4_areTwo 11 = .ok (.invokevirtual 74, 3) := by decide +kernel
theorem dX4_areTwo_14 : decode cX4_areTwo 14 = .ok (.ifCond .ne 7, 3) := by decide +kernel
theorem dX4_areTwo_17 : decode cX4_areTwo 17 = .ok (.iconst 1, 1) := by decide +kernel
theorem dX4_areTwo_18 : decode cX4_areTwo 18 = .ok (.goto 13, 3) := by decide +kernel
theorem dX4_areTwo_21 : decode cX4_areTwo 21 = .ok (.iload_n 1, 1) := by decide +kernel
theorem dX4_areTwo_22 : decode cX4_areTwo 22 = .ok (.iload_n 2, 1) := by decide +kernel
theorem dX4_areTwo_23 : decode cX4_areTwo 23 = .ok (.if_icmp .ne 7, 3) := by decide +kernel
theorem dX4_areTwo_26 : decode cX4_areTwo 26 = .ok (.iconst 2, 1) := by decide +kernel
theorem dX4_areTwo_27 : decode cX4_areTwo 27 = .ok (.goto 4, 3) := by decide +kernel
theorem dX4_areTwo_30 : decode cX4_areTwo 30 = .ok (.iconst 0, 1) := by decide +kernel
theorem dX4_areTwo_31 : decode cX4_areTwo 31 = .ok (.invokevirtual 59, 3) := by decide +kernel
theorem dX4_areTwo_34 : decode cX4_areTwo 34 = .ok (.ireturn, 1) := by decide +kernel
set_option maxRecDepth 20000 in
theorem ggX4_rest_X4_areTwo : GoodIn wsX4_rest wsX4_areTwo := goodIn_r _ [6, 7, 8, 9, 5, 10, 11, 12, 13, 14, 15, 16, 17, 18, 19, 20, 21, 22, 23, 24, 25, 26, 27, 28, 29, 30, 31, 32, 33, 34] (by decide +kernel) (by decide +kernel)
set_option maxRecDepth 20000 in
theorem gX4_rest_X4_areTwo : GoodIn wsX4_rest (wsV RX4 77 RX4 yX4_areTwo wsX4_areTwo) := goodIn_app (goodIn_of _ (by decide +kernel)) ggX4_rest_X4_areTwo
theorem dX4_rest_0 : decode cX4_rest 0 = .ok (.aload_n 0, 1) := by decide +kernel
theorem dX4_rest_1 : decode cX4_rest 1 = .ok (.iload_n 1, 1) := by decide +kernel
theorem dX4_rest_2 : decode cX4_rest 2 = .ok (.iload_n 2, 1) := by decide +kernel
theorem dX4_rest_3 : decode cX4_rest 3 = .ok (.invokevirtual 77, 3) := by decide +kernel
theorem dX4_rest_6 : decode cX4_rest 6 = .ok (.ifCond .ne 5, 3) := by decide +kernel
theorem dX4_rest_9 : decode cX4_rest 9 = .ok (.iconst 0, 1) := by decide +kernel
theorem dX4_rest_10 : decode cX4_rest 10 = .ok (.ireturn, 1) := by decide +kernel
theorem dX4_rest_11 : decode cX4_rest 11 = .ok (.aload_n 0, 1) := by decide +kernel
theorem dX4_rest_12 : decode cX4_rest 12 = .ok (.getfield 29, 3) := by decide +kernel
theorem dX4_rest_15 : decode cX4_rest 15 = .ok (.iload_n 1, 1) := by decide +kernel
theorem dX4_rest_16 : decode cX4_rest 16 = .ok (.dup2, 1) := by decide +kernel
theorem dX4_rest_17 : decode cX4_rest 17 = .ok (.iaload, 1) := by decide +kernel
theorem dX4_rest_18 : decode cX4_rest 18 = .ok (.iconst 1, 1) := by decide +kernel
theorem dX4_rest_19 : decode cX4_rest 19 = .ok (.iload_n 2, 1) := by decide +kernel
theorem dX4_rest_20 : decode cX4_rest 20 = .ok (.ishl, 1) := by decide +kernel
theorem dX4_rest_21 : decode cX4_rest 21 = .ok (.ixor, 1) := by decide +kernel
theorem dX4_rest_22 : decode cX4_rest 22 = .ok (.iastore, 1) := by decide +kernel
theorem dX4_rest_23 : decode cX4_rest 23 = .ok (.aload_n 0, 1) := by decide +kernel
theorem dX4_rest_24 : decode cX4_rest 24 = .ok (.getfield 29, 3) := by decide +kernel
theorem dX4_rest_27 : decode cX4_rest 27 = .ok (.iload_n 1, 1) := by decide +kernel
theorem dX4_rest_28 : decode cX4_rest 28 = .ok (.iaload, 1) := by decide +kernel
theorem dX4_rest_29 : decode cX4_rest 29 = .ok (.iload_n 2, 1) := by decide +kernel
theorem dX4_rest_30 : decode cX4_rest 30 = .ok (.ishr, 1) := by decide +kernel
theorem dX4_rest_31 : decode cX4_rest 31 = .ok (.iconst 1, 1) := by decide +kernel
theorem dX4_rest_32 : decode cX4_rest 32 = .ok (.iand, 1) := by decide +kernel
theorem dX4_rest_33 : decode cX4_rest 33 = .ok (.iconst 1, 1) := by decide +kernel
theorem dX4_rest_34 : decode cX4_rest 34 = .ok (.if_icmp .ne 7, 3) := by decide +kernel
theorem dX4_rest_37 : decode cX4_rest 37 = .ok (.iconst 1, 1) := by decide +kernel
theorem dX4_rest_38 : decode cX4_rest 38 = .ok (.goto 4, 3) := by decide +kernel
theorem dX4_rest_41 : decode cX4_rest 41 = .ok (.iconst 0, 1) := by decide +kernel
theorem dX4_rest_42 : decode cX4_rest 42 = .ok (.ireturn, 1) := by decide +kernel
set_option maxRecDepth 20000 in
theorem ggX4_attack_X4_areTwo : GoodIn wsX4_attack wsX4_areTwo := goodIn_r _ [6, 7, 8, 9, 5, 10, 11, 12, 13, 14, 15, 16, 17, 18, 19, 20, 21, 22, 23, 24, 25, 26, 27, 28, 29, 30, 31, 32, 33, 34] (by decide +kernel) (by decide +kernel)
set_option maxRecDepth 20000 in
theorem gX4_attack_X4_areTwo : GoodIn wsX4_attack (wsV RX4 77 RX4 yX4_areTwo wsX4_areTwo) := goodIn_app (goodIn_of _ (by decide +kernel)) ggX4_attack_X4_areTwo
theorem dX4_attack_0 : decode cX4_attack 0 = .ok (.aload_n 0, 1) := by decide +kernel
theorem dX4_attack_1 : decode cX4_attack 1 = .ok (.iload_n 1, 1) := by decide +kernel
theorem dX4_attack_2 : decode cX4_attack 2 = .ok (.iload_n 2, 1) := by decide +kernel
theorem dX4_attack_3 : decode cX4_attack 3 = .ok (.invokevirtual 77, 3) := by decide +kernel
theorem dX4_attack_6 : decode cX4_attack 6 = .ok (.ifCond .ne 5, 3) := by decide +kernel
theorem dX4_attack_9 : decode cX4_attack 9 = .ok (.iconst 0, 1) := by decide +kernel
theorem dX4_attack_10 : decode cX4_attack 10 = .ok (.ireturn, 1) := by decide +kernel
theorem dX4_attack_11 : decode cX4_attack 11 = .ok (.aload_n 0, 1) := by decide +kernel
theorem dX4_attack_12 : decode cX4_attack 12 = .ok (.getfield 32, 3) := by decide +kernel
theorem dX4_attack_15 : decode cX4_attack 15 = .ok (.iload_n 2, 1) := by decide +kernel
theorem dX4_attack_16 : decode cX4_attack 16 = .ok (.dup2, 1) := by decide +kernel
theorem dX4_attack_17 : decode cX4_attack 17 = .ok (.iaload, 1) := by decide +kernel
theorem dX4_attack_18 : decode cX4_attack 18 = .ok (.iconst 1, 1) := by decide +kernel
theorem dX4_attack_19 : decode cX4_attack 19 = .ok (.iload_n 1, 1) := by decide +kernel
theorem dX4_attack_20 : decode cX4_attack 20 = .ok (.ishl, 1) := by decide +kernel
theorem dX4_attack_21 : decode cX4_attack 21 = .ok (.ixor, 1) := by decide +kernel
theorem dX4_attack_22 : decode cX4_attack 22 = .ok (.iastore, 1) := by decide +kernel
theorem dX4_attack_23 : decode cX4_attack 23 = .ok (.aload_n 0, 1) := by decide +kernel
theorem dX4_attack_24 : decode cX4_attack 24 = .ok (.getfield 32, 3) := by decide +kernel
theorem dX4_attack_27 : decode cX4_attack 27 = .ok (.iload_n 2, 1) := by decide +kernel
theorem dX4_attack_28 : decode cX4_attack 28 = .ok (.iaload, 1) := by decide +kernel
theorem dX4_attack_29 : decode cX4_attack 29 = .ok (.iload_n 1, 1) := by decide +kernel
theorem dX4_attack_30 : decode cX4_attack 30 = .ok (.ishr, 1) := by decide +kernel
theorem dX4_attack_31 : decode cX4_attack 31 = .ok (.iconst 1, 1) := by decide +kernel
theorem dX4_attack_32 : decode cX4_attack 32 = .ok (.iand, 1) := by decide +kernel
theorem dX4_attack_33 : decode cX4_attack 33 = .ok (.iconst 1, 1) := by decide +kernel
theorem dX4_attack_34 : decode cX4_attack 34 = .ok (.if_icmp .ne 7, 3) := by decide +kernel
theorem dX4_attack_37 : decode cX4_attack 37 = .ok (.iconst 1, 1) := by decide +kernel
theorem dX4_attack_38 : decode cX4_attack 38 = .ok (.goto 4, 3) := by decide +kernel
theorem dX4_attack_41 : decode cX4_attack 41 = .ok (.iconst 0, 1) := by decide +kernel
theorem dX4_attack_42 : decode cX4_attack 42 = .ok (.ireturn, 1) := by decide +kernel
theorem dX4_claims_0 : decode cX4_claims 0 = .ok (.aload_n 0, 1) := by decide +kernel
theorem dX4_claims_1 : decode cX4_claims 1 = .ok (.iconst 0, 1) := by decide +kernel
theorem dX4_claims_2 : decode cX4_claims 2 = .ok (.putfield 41, 3) := by decide +kernel
theorem dX4_claims_5 : decode cX4_claims 5 = .ok (.aload_n 0, 1) := by decide +kernel
theorem dX4_claims_6 : decode cX4_claims 6 = .ok (.getfield 52, 3) := by decide +kernel
theorem dX4_claims_9 : decode cX4_claims 9 = .ok (.ireturn, 1) := by decide +kernel
set_option maxRecDepth 20000 in
theorem ggX4_asks_X4_isClaim : GoodIn wsX4_asks wsX4_isClaim := goodIn_r _ [5, 6, 7, 8, 4, 9, 15, 16, 17, 18, 19, 20, 21, 22, 23, 24, 25, 26, 27, 28, 29] (by decide +kernel) (by decide +kernel)
set_option maxRecDepth 20000 in
theorem gX4_asks_X4_isClaim : GoodIn wsX4_asks (wsV RX4 74 RX4 yX4_isClaim wsX4_isClaim) := goodIn_app (goodIn_of _ (by decide +kernel)) ggX4_asks_X4_isClaim
set_option maxRecDepth 20000 in
theorem ggX4_asks_X4_goes : GoodIn wsX4_asks wsX4_goes := goodIn_r _ [13, 14, 15, 16, 17, 18, 19, 20, 21, 22, 23, 24, 25, 26, 27, 28, 29] (by decide +kernel) (by decide +kernel)
set_option maxRecDepth 20000 in
theorem gX4_asks_X4_goes : GoodIn wsX4_asks (wsV RX4 59 RX4 yX4_goes wsX4_goes) := goodIn_app (goodIn_of _ (by decide +kernel)) ggX4_asks_X4_goes
theorem dX4_asks_0 : decode cX4_asks 0 = .ok (.aload_n 0, 1) := by decide +kernel
theorem dX4_asks_1 : decode cX4_asks 1 = .ok (.aload_n 0, 1) := by decide +kernel
theorem dX4_asks_2 : decode cX4_asks 2 = .ok (.iload_n 1, 1) := by decide +kernel
theorem dX4_asks_3 : decode cX4_asks 3 = .ok (.invokevirtual 74, 3) := by decide +kernel
theorem dX4_asks_6 : decode cX4_asks 6 = .ok (.ifCond .eq 7, 3) := by decide +kernel
theorem dX4_asks_9 : decode cX4_asks 9 = .ok (.iconst 0, 1) := by decide +kernel
theorem dX4_asks_10 : decode cX4_asks 10 = .ok (.goto 4, 3) := by decide +kernel
theorem dX4_asks_13 : decode cX4_asks 13 = .ok (.iconst 1, 1) := by decide +kernel
theorem dX4_asks_14 : decode cX4_asks 14 = .ok (.invokevirtual 59, 3) := by decide +kernel
theorem dX4_asks_17 : decode cX4_asks 17 = .ok (.ireturn, 1) := by decide +kernel
set_option maxRecDepth 20000 in
theorem ggX4_playerOf_X4_asks : GoodIn wsX4_playerOf wsX4_asks := goodIn_r _ [6, 7, 8, 9, 5, 10, 11, 12, 13, 14, 15, 16, 17, 18, 19, 20, 21, 22, 23, 24, 25, 26, 27, 28, 29, 30, 31, 32, 33, 34] (by decide +kernel) (by decide +kernel)
set_option maxRecDepth 20000 in
theorem gX4_playerOf_X4_asks : GoodIn wsX4_playerOf (wsV RX4 81 RX4 yX4_asks wsX4_asks) := goodIn_app (goodIn_of _ (by decide +kernel)) ggX4_playerOf_X4_asks
theorem dX4_playerOf_0 : decode cX4_playerOf 0 = .ok (.aload_n 0, 1) := by decide +kernel
theorem dX4_playerOf_1 : decode cX4_playerOf 1 = .ok (.iload_n 1, 1) := by decide +kernel
theorem dX4_playerOf_2 : decode cX4_playerOf 2 = .ok (.invokevirtual 81, 3) := by decide +kernel
theorem dX4_playerOf_5 : decode cX4_playerOf 5 = .ok (.ifCond .eq 12, 3) := by decide +kernel
theorem dX4_playerOf_8 : decode cX4_playerOf 8 = .ok (.aload_n 0, 1) := by decide +kernel
theorem dX4_playerOf_9 : decode cX4_playerOf 9 = .ok (.getfield 23, 3) := by decide +kernel
theorem dX4_playerOf_12 : decode cX4_playerOf 12 = .ok (.iload_n 1, 1) := by decide +kernel
theorem dX4_playerOf_13 : decode cX4_playerOf 13 = .ok (.iaload, 1) := by decide +kernel
theorem dX4_playerOf_14 : decode cX4_playerOf 14 = .ok (.goto 4, 3) := by decide +kernel
theorem dX4_playerOf_17 : decode cX4_playerOf 17 = .ok (.iconst 0, 1) := by decide +kernel
theorem dX4_playerOf_18 : decode cX4_playerOf 18 = .ok (.ireturn, 1) := by decide +kernel
theorem dX4_turn_0 : decode cX4_turn 0 = .ok (.aload_n 0, 1) := by decide +kernel
theorem dX4_turn_1 : decode cX4_turn 1 = .ok (.iconst 0, 1) := by decide +kernel
theorem dX4_turn_2 : decode cX4_turn 2 = .ok (.putfield 41, 3) := by decide +kernel
theorem dX4_turn_5 : decode cX4_turn 5 = .ok (.aload_n 0, 1) := by decide +kernel
theorem dX4_turn_6 : decode cX4_turn 6 = .ok (.getfield 68, 3) := by decide +kernel
theorem dX4_turn_9 : decode cX4_turn 9 = .ok (.ireturn, 1) := by decide +kernel
set_option maxRecDepth 20000 in
theorem ggX4_asksPlayer_X4_isPlayer : GoodIn wsX4_asksPlayer wsX4_isPlayer := goodIn_r _ [4, 5, 6, 3, 7] (by decide +kernel) (by decide +kernel)
set_option maxRecDepth 20000 in
theorem gX4_asksPlayer_X4_isPlayer : GoodIn wsX4_asksPlayer (va_wsS RX4 84 yX4_isPlayer wsX4_isPlayer) := goodIn_app (goodIn_of _ (by decide +kernel)) ggX4_asksPlayer_X4_isPlayer
set_option maxRecDepth 20000 in
theorem ggX4_asksPlayer_X4_goes : GoodIn wsX4_asksPlayer wsX4_goes := goodIn_r _ [11, 12, 13, 14, 15, 16, 17, 18, 19, 20, 21, 22, 23, 24, 25, 26, 27] (by decide +kernel) (by decide +kernel)
set_option maxRecDepth 20000 in
theorem gX4_asksPlayer_X4_goes : GoodIn wsX4_asksPlayer (wsV RX4 59 RX4 yX4_goes wsX4_goes) := goodIn_app (goodIn_of _ (by decide +kernel)) ggX4_asksPlayer_X4_goes
theorem dX4_asksPlayer_0 : decode cX4_asksPlayer 0 = .ok (.aload_n 0, 1) := by decide +kernel
theorem dX4_asksPlayer_1 : decode cX4_asksPlayer 1 = .ok (.iload_n 1, 1) := by decide +kernel
theorem dX4_asksPlayer_2 : decode cX4_asksPlayer 2 = .ok (.invokestatic 84, 3) := by decide +kernel
theorem dX4_asksPlayer_5 : decode cX4_asksPlayer 5 = .ok (.ifCond .eq 7, 3) := by decide +kernel
theorem dX4_asksPlayer_8 : decode cX4_asksPlayer 8 = .ok (.iconst 0, 1) := by decide +kernel
theorem dX4_asksPlayer_9 : decode cX4_asksPlayer 9 = .ok (.goto 4, 3) := by decide +kernel
theorem dX4_asksPlayer_12 : decode cX4_asksPlayer 12 = .ok (.iconst 1, 1) := by decide +kernel
theorem dX4_asksPlayer_13 : decode cX4_asksPlayer 13 = .ok (.invokevirtual 59, 3) := by decide +kernel
theorem dX4_asksPlayer_16 : decode cX4_asksPlayer 16 = .ok (.ireturn, 1) := by decide +kernel
set_option maxRecDepth 20000 in
theorem ggX4_bank_X4_asksPlayer : GoodIn wsX4_bank wsX4_asksPlayer := goodIn_r _ [6, 7, 8, 5, 9, 10, 11, 12, 13, 14, 15, 16, 17, 18, 19, 20, 21, 22, 23, 24, 25, 26, 27, 28, 29, 30, 31, 32] (by decide +kernel) (by decide +kernel)
set_option maxRecDepth 20000 in
theorem gX4_bank_X4_asksPlayer : GoodIn wsX4_bank (wsV RX4 87 RX4 yX4_asksPlayer wsX4_asksPlayer) := goodIn_app (goodIn_of _ (by decide +kernel)) ggX4_bank_X4_asksPlayer
theorem dX4_bank_0 : decode cX4_bank 0 = .ok (.aload_n 0, 1) := by decide +kernel
theorem dX4_bank_1 : decode cX4_bank 1 = .ok (.iload_n 1, 1) := by decide +kernel
theorem dX4_bank_2 : decode cX4_bank 2 = .ok (.invokevirtual 87, 3) := by decide +kernel
theorem dX4_bank_5 : decode cX4_bank 5 = .ok (.ifCond .eq 12, 3) := by decide +kernel
theorem dX4_bank_8 : decode cX4_bank 8 = .ok (.aload_n 0, 1) := by decide +kernel
theorem dX4_bank_9 : decode cX4_bank 9 = .ok (.getfield 20, 3) := by decide +kernel
theorem dX4_bank_12 : decode cX4_bank 12 = .ok (.iload_n 1, 1) := by decide +kernel
theorem dX4_bank_13 : decode cX4_bank 13 = .ok (.iaload, 1) := by decide +kernel
theorem dX4_bank_14 : decode cX4_bank 14 = .ok (.goto 4, 3) := by decide +kernel
theorem dX4_bank_17 : decode cX4_bank 17 = .ok (.iconst 0, 1) := by decide +kernel
theorem dX4_bank_18 : decode cX4_bank 18 = .ok (.ireturn, 1) := by decide +kernel
theorem dX4_have_0 : decode cX4_have 0 = .ok (.iload_n 3, 1) := by decide +kernel
theorem dX4_have_1 : decode cX4_have 1 = .ok (.istore 4, 2) := by decide +kernel
theorem dX4_have_3 : decode cX4_have 3 = .ok (.iconst 0, 1) := by decide +kernel
theorem dX4_have_4 : decode cX4_have 4 = .ok (.istore 5, 2) := by decide +kernel
theorem dX4_have_6 : decode cX4_have 6 = .ok (.iload 5, 2) := by decide +kernel
theorem dX4_have_8 : decode cX4_have 8 = .ok (.aload_n 0, 1) := by decide +kernel
theorem dX4_have_9 : decode cX4_have 9 = .ok (.getfield 52, 3) := by decide +kernel
theorem dX4_have_12 : decode cX4_have 12 = .ok (.if_icmp .ge 76, 3) := by decide +kernel
theorem dX4_have_15 : decode cX4_have 15 = .ok (.aload_n 0, 1) := by decide +kernel
theorem dX4_have_16 : decode cX4_have 16 = .ok (.getfield 35, 3) := by decide +kernel
theorem dX4_have_19 : decode cX4_have 19 = .ok (.iload 5, 2) := by decide +kernel
theorem dX4_have_21 : decode cX4_have 21 = .ok (.iaload, 1) := by decide +kernel
theorem dX4_have_22 : decode cX4_have 22 = .ok (.iload_n 2, 1) := by decide +kernel
theorem dX4_have_23 : decode cX4_have 23 = .ok (.if_icmp .ne 7, 3) := by decide +kernel
theorem dX4_have_26 : decode cX4_have 26 = .ok (.iconst 1, 1) := by decide +kernel
theorem dX4_have_27 : decode cX4_have 27 = .ok (.goto 4, 3) := by decide +kernel
theorem dX4_have_30 : decode cX4_have 30 = .ok (.iconst 0, 1) := by decide +kernel
theorem dX4_have_31 : decode cX4_have 31 = .ok (.istore 6, 2) := by decide +kernel
theorem dX4_have_33 : decode cX4_have 33 = .ok (.iload_n 1, 1) := by decide +kernel
theorem dX4_have_34 : decode cX4_have 34 = .ok (.iload 5, 2) := by decide +kernel
theorem dX4_have_36 : decode cX4_have 36 = .ok (.ishr, 1) := by decide +kernel
theorem dX4_have_37 : decode cX4_have 37 = .ok (.iconst 1, 1) := by decide +kernel
theorem dX4_have_38 : decode cX4_have 38 = .ok (.iand, 1) := by decide +kernel
theorem dX4_have_39 : decode cX4_have 39 = .ok (.iconst 1, 1) := by decide +kernel
theorem dX4_have_40 : decode cX4_have 40 = .ok (.if_icmp .ne 42, 3) := by decide +kernel
theorem dX4_have_43 : decode cX4_have 43 = .ok (.iload_n 3, 1) := by decide +kernel
theorem dX4_have_44 : decode cX4_have 44 = .ok (.ifCond .eq 21, 3) := by decide +kernel
theorem dX4_have_47 : decode cX4_have 47 = .ok (.iload 4, 2) := by decide +kernel
theorem dX4_have_49 : decode cX4_have 49 = .ok (.ifCond .eq 12, 3) := by decide +kernel
theorem dX4_have_52 : decode cX4_have 52 = .ok (.iload 6, 2) := by decide +kernel
theorem dX4_have_54 : decode cX4_have 54 = .ok (.ifCond .eq 7, 3) := by decide +kernel
theorem dX4_have_57 : decode cX4_have 57 = .ok (.iconst 1, 1) := by decide +kernel
theorem dX4_have_58 : decode cX4_have 58 = .ok (.goto 22, 3) := by decide +kernel
theorem dX4_have_61 : decode cX4_have 61 = .ok (.iconst 0, 1) := by decide +kernel
theorem dX4_have_62 : decode cX4_have 62 = .ok (.goto 18, 3) := by decide +kernel
theorem dX4_have_65 : decode cX4_have 65 = .ok (.iload 4, 2) := by decide +kernel
theorem dX4_have_67 : decode cX4_have 67 = .ok (.ifCond .ne 8, 3) := by decide +kernel
theorem dX4_have_70 : decode cX4_have 70 = .ok (.iload 6, 2) := by decide +kernel
theorem dX4_have_72 : decode cX4_have 72 = .ok (.ifCond .eq 7, 3) := by decide +kernel
theorem dX4_have_75 : decode cX4_have 75 = .ok (.iconst 1, 1) := by decide +kernel
theorem dX4_have_76 : decode cX4_have 76 = .ok (.goto 4, 3) := by decide +kernel
theorem dX4_have_79 : decode cX4_have 79 = .ok (.iconst 0, 1) := by decide +kernel
theorem dX4_have_80 : decode cX4_have 80 = .ok (.istore 4, 2) := by decide +kernel
theorem dX4_have_82 : decode cX4_have 82 = .ok (.iinc 5 1, 3) := by decide +kernel
theorem dX4_have_85 : decode cX4_have 85 = .ok (.goto (-79), 3) := by decide +kernel
theorem dX4_have_88 : decode cX4_have 88 = .ok (.iload 4, 2) := by decide +kernel
theorem dX4_have_90 : decode cX4_have 90 = .ok (.ireturn, 1) := by decide +kernel
set_option maxRecDepth 20000 in
theorem ggX4_decides_X4_have : GoodIn wsX4_decides wsX4_have := goodIn_r _ [10, 1, 2, 11, 12, 13, 14, 15, 16, 17, 18, 19, 20, 21, 22, 23, 24, 25] (by decide +kernel) (by decide +kernel)
set_option maxRecDepth 20000 in
theorem gX4_decides_X4_have : GoodIn wsX4_decides (wsV RX4 90 RX4 yX4_have wsX4_have) := goodIn_app (goodIn_of _ (by decide +kernel)) ggX4_decides_X4_have
theorem dX4_decides_0 : decode cX4_decides 0 = .ok (.iconst 0, 1) := by decide +kernel
theorem dX4_decides_1 : decode cX4_decides 1 = .ok (.istore_n 2, 1) := by decide +kernel
theorem dX4_decides_2 : decode cX4_decides 2 = .ok (.iload_n 2, 1) := by decide +kernel
theorem dX4_decides_3 : decode cX4_decides 3 = .ok (.aload_n 0, 1) := by decide +kernel
theorem dX4_decides_4 : decode cX4_decides 4 = .ok (.getfield 52, 3) := by decide +kernel
theorem dX4_decides_7 : decode cX4_decides 7 = .ok (.if_icmp .ge 16, 3) := by decide +kernel
theorem dX4_decides_10 : decode cX4_decides 10 = .ok (.aload_n 0, 1) := by decide +kernel
theorem dX4_decides_11 : decode cX4_decides 11 = .ok (.getfield 35, 3) := by decide +kernel
theorem dX4_decides_14 : decode cX4_decides 14 = .ok (.iload_n 2, 1) := by decide +kernel
theorem dX4_decides_15 : decode cX4_decides 15 = .ok (.iconst 0, 1) := by decide +kernel
theorem dX4_decides_16 : decode cX4_decides 16 = .ok (.iastore, 1) := by decide +kernel
theorem dX4_decides_17 : decode cX4_decides 17 = .ok (.iinc 2 1, 3) := by decide +kernel
theorem dX4_decides_20 : decode cX4_decides 20 = .ok (.goto (-18), 3) := by decide +kernel
theorem dX4_decides_23 : decode cX4_decides 23 = .ok (.iconst 1, 1) := by decide +kernel
theorem dX4_decides_24 : decode cX4_decides 24 = .ok (.istore_n 2, 1) := by decide +kernel
theorem dX4_decides_25 : decode cX4_decides 25 = .ok (.iload_n 2, 1) := by decide +kernel
theorem dX4_decides_26 : decode cX4_decides 26 = .ok (.ifCond .eq 150, 3) := by decide +kernel
theorem dX4_decides_29 : decode cX4_decides 29 = .ok (.iconst 0, 1) := by decide +kernel
theorem dX4_decides_30 : decode cX4_decides 30 = .ok (.istore_n 2, 1) := by decide +kernel
theorem dX4_decides_31 : decode cX4_decides 31 = .ok (.iconst 0, 1) := by decide +kernel
theorem dX4_decides_32 : decode cX4_decides 32 = .ok (.istore_n 3, 1) := by decide +kernel
theorem dX4_decides_33 : decode cX4_decides 33 = .ok (.iload_n 3, 1) := by decide +kernel
theorem dX4_decides_34 : decode cX4_decides 34 = .ok (.aload_n 0, 1) := by decide +kernel
theorem dX4_decides_35 : decode cX4_decides 35 = .ok (.getfield 52, 3) := by decide +kernel
theorem dX4_decides_38 : decode cX4_decides 38 = .ok (.if_icmp .ge 135, 3) := by decide +kernel
theorem dX4_decides_41 : decode cX4_decides 41 = .ok (.aload_n 0, 1) := by decide +kernel
theorem dX4_decides_42 : decode cX4_decides 42 = .ok (.getfield 26, 3) := by decide +kernel
theorem dX4_decides_45 : decode cX4_decides 45 = .ok (.iload_n 3, 1) := by decide +kernel
theorem dX4_decides_46 : decode cX4_decides 46 = .ok (.iaload, 1) := by decide +kernel
theorem dX4_decides_47 : decode cX4_decides 47 = .ok (.iload_n 1, 1) := by decide +kernel
theorem dX4_decides_48 : decode cX4_decides 48 = .ok (.iconst (-1), 1) := by decide +kernel
theorem dX4_decides_49 : decode cX4_decides 49 = .ok (.ixor, 1) := by decide +kernel
theorem dX4_decides_50 : decode cX4_decides 50 = .ok (.iand, 1) := by decide +kernel
theorem dX4_decides_51 : decode cX4_decides 51 = .ok (.ifCond .ne 7, 3) := by decide +kernel
theorem dX4_decides_54 : decode cX4_decides 54 = .ok (.iconst 1, 1) := by decide +kernel
theorem dX4_decides_55 : decode cX4_decides 55 = .ok (.goto 4, 3) := by decide +kernel
theorem dX4_decides_58 : decode cX4_decides 58 = .ok (.iconst 0, 1) := by decide +kernel
theorem dX4_decides_59 : decode cX4_decides 59 = .ok (.istore 4, 2) := by decide +kernel
theorem dX4_decides_61 : decode cX4_decides 61 = .ok (.aload_n 0, 1) := by decide +kernel
theorem dX4_decides_62 : decode cX4_decides 62 = .ok (.getfield 35, 3) := by decide +kernel
theorem dX4_decides_65 : decode cX4_decides 65 = .ok (.iload_n 3, 1) := by decide +kernel
theorem dX4_decides_66 : decode cX4_decides 66 = .ok (.iaload, 1) := by decide +kernel
theorem dX4_decides_67 : decode cX4_decides 67 = .ok (.ifCond .ne 47, 3) := by decide +kernel
theorem dX4_decides_70 : decode cX4_decides 70 = .ok (.iload 4, 2) := by decide +kernel
theorem dX4_decides_72 : decode cX4_decides 72 = .ok (.ifCond .eq 42, 3) := by decide +kernel
theorem dX4_decides_75 : decode cX4_decides 75 = .ok (.aload_n 0, 1) := by decide +kernel
theorem dX4_decides_76 : decode cX4_decides 76 = .ok (.aload_n 0, 1) := by decide +kernel
theorem dX4_decides_77 : decode cX4_decides 77 = .ok (.getfield 29, 3) := by decide +kernel
theorem dX4_decides_80 : decode cX4_decides 80 = .ok (.iload_n 3, 1) := by decide +kernel
theorem dX4_decides_81 : decode cX4_decides 81 = .ok (.iaload, 1) := by decide +kernel
theorem dX4_decides_82 : decode cX4_decides 82 = .ok (.iconst 1, 1) := by decide +kernel
theorem dX4_decides_83 : decode cX4_decides 83 = .ok (.iconst 1, 1) := by decide +kernel
theorem dX4_decides_84 : decode cX4_decides 84 = .ok (.invokevirtual 90, 3) := by decide +kernel
theorem dX4_decides_87 : decode cX4_decides 87 = .ok (.ifCond .eq 27, 3) := by decide +kernel
theorem dX4_decides_90 : decode cX4_decides 90 = .ok (.aload_n 0, 1) := by decide +kernel
theorem dX4_decides_91 : decode cX4_decides 91 = .ok (.aload_n 0, 1) := by decide +kernel
theorem dX4_decides_92 : decode cX4_decides 92 = .ok (.getfield 32, 3) := by decide +kernel
theorem dX4_decides_95 : decode cX4_decides 95 = .ok (.iload_n 3, 1) := by decide +kernel
theorem dX4_decides_96 : decode cX4_decides 96 = .ok (.iaload, 1) := by decide +kernel
theorem dX4_decides_97 : decode cX4_decides 97 = .ok (.iconst 2, 1) := by decide +kernel
theorem dX4_decides_98 : decode cX4_decides 98 = .ok (.iconst 1, 1) := by decide +kernel
theorem dX4_decides_99 : decode cX4_decides 99 = .ok (.invokevirtual 90, 3) := by decide +kernel
theorem dX4_decides_102 : decode cX4_decides 102 = .ok (.ifCond .eq 12, 3) := by decide +kernel
theorem dX4_decides_105 : decode cX4_decides 105 = .ok (.aload_n 0, 1) := by decide +kernel
theorem dX4_decides_106 : decode cX4_decides 106 = .ok (.getfield 35, 3) := by decide +kernel
theorem dX4_decides_109 : decode cX4_decides 109 = .ok (.iload_n 3, 1) := by decide +kernel
theorem dX4_decides_110 : decode cX4_decides 110 = .ok (.iconst 1, 1) := by decide +kernel
theorem dX4_decides_111 : decode cX4_decides 111 = .ok (.iastore, 1) := by decide +kernel
theorem dX4_decides_112 : decode cX4_decides 112 = .ok (.iconst 1, 1) := by decide +kernel
theorem dX4_decides_113 : decode cX4_decides 113 = .ok (.istore_n 2, 1) := by decide +kernel
theorem dX4_decides_114 : decode cX4_decides 114 = .ok (.aload_n 0, 1) := by decide +kernel
theorem dX4_decides_115 : decode cX4_decides 115 = .ok (.getfield 35, 3) := by decide +kernel
theorem dX4_decides_118 : decode cX4_decides 118 = .ok (.iload_n 3, 1) := by decide +kernel
theorem dX4_decides_119 : decode cX4_decides 119 = .ok (.iaload, 1) := by decide +kernel
theorem dX4_decides_120 : decode cX4_decides 120 = .ok (.ifCond .ne 47, 3) := by decide +kernel
theorem dX4_decides_123 : decode cX4_decides 123 = .ok (.iload 4, 2) := by decide +kernel
theorem dX4_decides_125 : decode cX4_decides 125 = .ok (.ifCond .eq 33, 3) := by decide +kernel
theorem dX4_decides_128 : decode cX4_decides 128 = .ok (.aload_n 0, 1) := by decide +kernel
theorem dX4_decides_129 : decode cX4_decides 129 = .ok (.aload_n 0, 1) := by decide +kernel
theorem dX4_decides_130 : decode cX4_decides 130 = .ok (.getfield 29, 3) := by decide +kernel
theorem dX4_decides_133 : decode cX4_decides 133 = .ok (.iload_n 3, 1) := by decide +kernel
theorem dX4_decides_134 : decode cX4_decides 134 = .ok (.iaload, 1) := by decide +kernel
theorem dX4_decides_135 : decode cX4_decides 135 = .ok (.iconst 2, 1) := by decide +kernel
theorem dX4_decides_136 : decode cX4_decides 136 = .ok (.iconst 0, 1) := by decide +kernel
theorem dX4_decides_137 : decode cX4_decides 137 = .ok (.invokevirtual 90, 3) := by decide +kernel
theorem dX4_decides_140 : decode cX4_decides 140 = .ok (.ifCond .ne 18, 3) := by decide +kernel
theorem dX4_decides_143 : decode cX4_decides 143 = .ok (.aload_n 0, 1) := by decide +kernel
theorem dX4_decides_144 : decode cX4_decides 144 = .ok (.aload_n 0, 1) := by decide +kernel
theorem dX4_decides_145 : decode cX4_decides 145 = .ok (.getfield 32, 3) := by decide +kernel
theorem dX4_decides_148 : decode cX4_decides 148 = .ok (.iload_n 3, 1) := by decide +kernel
theorem dX4_decides_149 : decode cX4_decides 149 = .ok (.iaload, 1) := by decide +kernel
theorem dX4_decides_150 : decode cX4_decides 150 = .ok (.iconst 1, 1) := by decide +kernel
theorem dX4_decides_151 : decode cX4_decides 151 = .ok (.iconst 0, 1) := by decide +kernel
theorem dX4_decides_152 : decode cX4_decides 152 = .ok (.invokevirtual 90, 3) := by decide +kernel
theorem dX4_decides_155 : decode cX4_decides 155 = .ok (.ifCond .eq 12, 3) := by decide +kernel
theorem dX4_decides_158 : decode cX4_decides 158 = .ok (.aload_n 0, 1) := by decide +kernel
theorem dX4_decides_159 : decode cX4_decides 159 = .ok (.getfield 35, 3) := by decide +kernel
theorem dX4_decides_162 : decode cX4_decides 162 = .ok (.iload_n 3, 1) := by decide +kernel
theorem dX4_decides_163 : decode cX4_decides 163 = .ok (.iconst 2, 1) := by decide +kernel
theorem dX4_decides_164 : decode cX4_decides 164 = .ok (.iastore, 1) := by decide +kernel
theorem dX4_decides_165 : decode cX4_decides 165 = .ok (.iconst 1, 1) := by decide +kernel
theorem dX4_decides_166 : decode cX4_decides 166 = .ok (.istore_n 2, 1) := by decide +kernel
theorem dX4_decides_167 : decode cX4_decides 167 = .ok (.iinc 3 1, 3) := by decide +kernel
theorem dX4_decides_170 : decode cX4_decides 170 = .ok (.goto (-137), 3) := by decide +kernel
theorem dX4_decides_173 : decode cX4_decides 173 = .ok (.goto (-148), 3) := by decide +kernel
theorem dX4_decides_176 : decode cX4_decides 176 = .ok (.return_, 1) := by decide +kernel
set_option maxRecDepth 20000 in
theorem ggX4_stateNow_X4_asks : GoodIn wsX4_stateNow wsX4_asks := goodIn_r _ [6, 7, 8, 9, 5, 10, 11, 12, 13, 14, 15, 16, 17, 18, 19, 43, 44, 45, 46, 47, 48, 49, 50, 51, 52, 53, 54, 55, 56, 57] (by decide +kernel) (by decide +kernel)
set_option maxRecDepth 20000 in
theorem gX4_stateNow_X4_asks : GoodIn wsX4_stateNow (wsV RX4 81 RX4 yX4_asks wsX4_asks) := goodIn_app (goodIn_of _ (by decide +kernel)) ggX4_stateNow_X4_asks
set_option maxRecDepth 20000 in
theorem ggX4_stateNow_X4_standing : GoodIn wsX4_stateNow wsX4_standing := goodIn_r _ [23, 24, 25, 26, 27, 5, 28, 29, 30, 31, 43, 44, 45, 46, 47, 48, 49, 50, 51, 52, 53, 54, 55, 56, 57] (by decide +kernel) (by decide +kernel)
set_option maxRecDepth 20000 in
theorem gX4_stateNow_X4_standing : GoodIn wsX4_stateNow (wsV RX4 94 RX4 yX4_standing wsX4_standing) := goodIn_app (goodIn_of _ (by decide +kernel)) ggX4_stateNow_X4_standing
set_option maxRecDepth 20000 in
theorem ggX4_stateNow_X4_decides : GoodIn wsX4_stateNow wsX4_decides := goodIn_r _ [35, 11, 1, 36, 37, 38, 39, 40, 41, 5, 42, 43, 44, 45, 46, 47, 48, 49, 50, 51, 52, 53, 54, 55, 56, 57] (by decide +kernel) (by decide +kernel)
set_option maxRecDepth 20000 in
theorem gX4_stateNow_X4_decides : GoodIn wsX4_stateNow (wsV RX4 98 RX4 yX4_decides wsX4_decides) := goodIn_app (goodIn_of _ (by decide +kernel)) ggX4_stateNow_X4_decides
theorem dX4_stateNow_0 : decode cX4_stateNow 0 = .ok (.aload_n 0, 1) := by decide +kernel
theorem dX4_stateNow_1 : decode cX4_stateNow 1 = .ok (.iload_n 1, 1) := by decide +kernel
theorem dX4_stateNow_2 : decode cX4_stateNow 2 = .ok (.invokevirtual 81, 3) := by decide +kernel
theorem dX4_stateNow_5 : decode cX4_stateNow 5 = .ok (.ifCond .ne 5, 3) := by decide +kernel
theorem dX4_stateNow_8 : decode cX4_stateNow 8 = .ok (.iconst 0, 1) := by decide +kernel
theorem dX4_stateNow_9 : decode cX4_stateNow 9 = .ok (.ireturn, 1) := by decide +kernel
theorem dX4_stateNow_10 : decode cX4_stateNow 10 = .ok (.aload_n 0, 1) := by decide +kernel
theorem dX4_stateNow_11 : decode cX4_stateNow 11 = .ok (.aload_n 0, 1) := by decide +kernel
theorem dX4_stateNow_12 : decode cX4_stateNow 12 = .ok (.iconst (-1), 1) := by decide +kernel
theorem dX4_stateNow_13 : decode cX4_stateNow 13 = .ok (.invokevirtual 94, 3) := by decide +kernel
theorem dX4_stateNow_16 : decode cX4_stateNow 16 = .ok (.invokevirtual 98, 3) := by decide +kernel
theorem dX4_stateNow_19 : decode cX4_stateNow 19 = .ok (.aload_n 0, 1) := by decide +kernel
theorem dX4_stateNow_20 : decode cX4_stateNow 20 = .ok (.getfield 35, 3) := by decide +kernel
theorem dX4_stateNow_23 : decode cX4_stateNow 23 = .ok (.iload_n 1, 1) := by decide +kernel
theorem dX4_stateNow_24 : decode cX4_stateNow 24 = .ok (.iaload, 1) := by decide +kernel
theorem dX4_stateNow_25 : decode cX4_stateNow 25 = .ok (.ireturn, 1) := by decide +kernel
set_option maxRecDepth 20000 in
theorem ggX4_stateOf_X4_stateNow : GoodIn wsX4_stateOf wsX4_stateNow := goodIn_r _ [5, 6, 7, 8, 9, 4, 10, 11, 12, 13, 14, 15, 16, 17, 18, 19, 20, 21, 22, 23, 24, 25, 26, 27, 28, 29, 30, 31, 32, 33, 34, 35, 36, 37, 38, 39, 40, 41, 42, 43, 44, 45, 46, 47, 48, 49, 50, 51, 52, 53, 54, 55, 56, 57, 58, 59, 60, 61] (by decide +kernel) (by decide +kernel)
set_option maxRecDepth 20000 in
theorem gX4_stateOf_X4_stateNow : GoodIn wsX4_stateOf (wsV RX4 102 RX4 yX4_stateNow wsX4_stateNow) := goodIn_app (goodIn_of _ (by decide +kernel)) ggX4_stateOf_X4_stateNow
theorem dX4_stateOf_0 : decode cX4_stateOf 0 = .ok (.aload_n 0, 1) := by decide +kernel
theorem dX4_stateOf_1 : decode cX4_stateOf 1 = .ok (.iload_n 1, 1) := by decide +kernel
theorem dX4_stateOf_2 : decode cX4_stateOf 2 = .ok (.invokevirtual 102, 3) := by decide +kernel
theorem dX4_stateOf_5 : decode cX4_stateOf 5 = .ok (.ireturn, 1) := by decide +kernel
set_option maxRecDepth 20000 in
theorem ggX4_stateByRounds_X4_stateNow : GoodIn wsX4_stateByRounds wsX4_stateNow := goodIn_r _ [5, 6, 7, 8, 9, 4, 10, 11, 12, 13, 14, 15, 16, 17, 18, 19, 20, 21, 22, 23, 24, 25, 26, 27, 28, 29, 30, 31, 32, 33, 34, 35, 36, 37, 38, 39, 40, 41, 42, 43, 44, 45, 46, 47, 48, 49, 50, 51, 52, 53, 54, 55, 56, 57, 58, 59, 60, 61] (by decide +kernel) (by decide +kernel)
set_option maxRecDepth 20000 in
theorem gX4_stateByRounds_X4_stateNow : GoodIn wsX4_stateByRounds (wsV RX4 102 RX4 yX4_stateNow wsX4_stateNow) := goodIn_app (goodIn_of _ (by decide +kernel)) ggX4_stateByRounds_X4_stateNow
theorem dX4_stateByRounds_0 : decode cX4_stateByRounds 0 = .ok (.aload_n 0, 1) := by decide +kernel
theorem dX4_stateByRounds_1 : decode cX4_stateByRounds 1 = .ok (.iload_n 1, 1) := by decide +kernel
theorem dX4_stateByRounds_2 : decode cX4_stateByRounds 2 = .ok (.invokevirtual 102, 3) := by decide +kernel
theorem dX4_stateByRounds_5 : decode cX4_stateByRounds 5 = .ok (.ireturn, 1) := by decide +kernel
set_option maxRecDepth 20000 in
theorem ggX4_scored_X4_standing : GoodIn wsX4_scored wsX4_standing := goodIn_r _ [8, 9, 10, 11, 12, 7, 13, 14, 15, 16, 28, 29, 30, 31, 32, 33, 34, 35, 36, 37, 38, 39, 40, 41, 42] (by decide +kernel) (by decide +kernel)
set_option maxRecDepth 20000 in
theorem gX4_scored_X4_standing : GoodIn wsX4_scored (wsV RX4 94 RX4 yX4_standing wsX4_standing) := goodIn_app (goodIn_of _ (by decide +kernel)) ggX4_scored_X4_standing
set_option maxRecDepth 20000 in
theorem ggX4_scored_X4_decides : GoodIn wsX4_scored wsX4_decides := goodIn_r _ [20, 1, 3, 21, 22, 23, 24, 25, 26, 7, 27, 28, 29, 30, 31, 32, 33, 34, 35, 36, 37, 38, 39, 40, 41, 42] (by decide +kernel) (by decide +kernel)
set_option maxRecDepth 20000 in
theorem gX4_scored_X4_decides : GoodIn wsX4_scored (wsV RX4 98 RX4 yX4_decides wsX4_decides) := goodIn_app (goodIn_of _ (by decide +kernel)) ggX4_scored_X4_decides
theorem dX4_scored_0 : decode cX4_scored 0 = .ok (.aload_n 0, 1) := by decide +kernel
theorem dX4_scored_1 : decode cX4_scored 1 = .ok (.aload_n 0, 1) := by decide +kernel
theorem dX4_scored_2 : decode cX4_scored 2 = .ok (.iload_n 2, 1) := by decide +kernel
theorem dX4_scored_3 : decode cX4_scored 3 = .ok (.invokevirtual 94, 3) := by decide +kernel
theorem dX4_scored_6 : decode cX4_scored 6 = .ok (.invokevirtual 98, 3) := by decide +kernel
theorem dX4_scored_9 : decode cX4_scored 9 = .ok (.iconst 0, 1) := by decide +kernel
theorem dX4_scored_10 : decode cX4_scored 10 = .ok (.istore_n 3, 1) := by decide +kernel
theorem dX4_scored_11 : decode cX4_scored 11 = .ok (.iconst 0, 1) := by decide +kernel
theorem dX4_scored_12 : decode cX4_scored 12 = .ok (.istore 4, 2) := by decide +kernel
theorem dX4_scored_14 : decode cX4_scored 14 = .ok (.iload 4, 2) := by decide +kernel
theorem dX4_scored_16 : decode cX4_scored 16 = .ok (.aload_n 0, 1) := by decide +kernel
theorem dX4_scored_17 : decode cX4_scored 17 = .ok (.getfield 52, 3) := by decide +kernel
theorem dX4_scored_20 : decode cX4_scored 20 = .ok (.if_icmp .ge 39, 3) := by decide +kernel
theorem dX4_scored_23 : decode cX4_scored 23 = .ok (.iload_n 3, 1) := by decide +kernel
theorem dX4_scored_24 : decode cX4_scored 24 = .ok (.aload_n 0, 1) := by decide +kernel
theorem dX4_scored_25 : decode cX4_scored 25 = .ok (.getfield 23, 3) := by decide +kernel
theorem dX4_scored_28 : decode cX4_scored 28 = .ok (.iload 4, 2) := by decide +kernel
theorem dX4_scored_30 : decode cX4_scored 30 = .ok (.iaload, 1) := by decide +kernel
theorem dX4_scored_31 : decode cX4_scored 31 = .ok (.iload_n 1, 1) := by decide +kernel
theorem dX4_scored_32 : decode cX4_scored 32 = .ok (.if_icmp .ne 18, 3) := by decide +kernel
theorem dX4_scored_35 : decode cX4_scored 35 = .ok (.aload_n 0, 1) := by decide +kernel
theorem dX4_scored_36 : decode cX4_scored 36 = .ok (.getfield 35, 3) := by decide +kernel
theorem dX4_scored_39 : decode cX4_scored 39 = .ok (.iload 4, 2) := by decide +kernel
theorem dX4_scored_41 : decode cX4_scored 41 = .ok (.iaload, 1) := by decide +kernel
theorem dX4_scored_42 : decode cX4_scored 42 = .ok (.iconst 1, 1) := by decide +kernel
theorem dX4_scored_43 : decode cX4_scored 43 = .ok (.if_icmp .ne 7, 3) := by decide +kernel
theorem dX4_scored_46 : decode cX4_scored 46 = .ok (.iconst 1, 1) := by decide +kernel
theorem dX4_scored_47 : decode cX4_scored 47 = .ok (.goto 4, 3) := by decide +kernel
theorem dX4_scored_50 : decode cX4_scored 50 = .ok (.iconst 0, 1) := by decide +kernel
theorem dX4_scored_51 : decode cX4_scored 51 = .ok (.iadd, 1) := by decide +kernel
theorem dX4_scored_52 : decode cX4_scored 52 = .ok (.istore_n 3, 1) := by decide +kernel
theorem dX4_scored_53 : decode cX4_scored 53 = .ok (.iinc 4 1, 3) := by decide +kernel
theorem dX4_scored_56 : decode cX4_scored 56 = .ok (.goto (-42), 3) := by decide +kernel
theorem dX4_scored_59 : decode cX4_scored 59 = .ok (.iload_n 3, 1) := by decide +kernel
theorem dX4_scored_60 : decode cX4_scored 60 = .ok (.ireturn, 1) := by decide +kernel
set_option maxRecDepth 20000 in
theorem ggX4_score_X4_asksPlayer : GoodIn wsX4_score wsX4_asksPlayer := goodIn_r _ [5, 6, 7, 4, 8, 9, 10, 11, 12, 13, 14, 15, 16, 47, 48, 49, 50, 51, 52, 53, 54, 55, 56, 57, 58, 59, 60, 61] (by decide +kernel) (by decide +kernel)
set_option maxRecDepth 20000 in
theorem gX4_score_X4_asksPlayer : GoodIn wsX4_score (wsV RX4 87 RX4 yX4_asksPlayer wsX4_asksPlayer) := goodIn_app (goodIn_of _ (by decide +kernel)) ggX4_score_X4_asksPlayer
set_option maxRecDepth 20000 in
theorem ggX4_score_X4_scored : GoodIn wsX4_score wsX4_scored := goodIn_r _ [20, 21, 22, 23, 24, 25, 26, 4, 27, 28, 29, 30, 31, 32, 33, 34, 35, 36, 37, 38, 39, 40, 41, 42, 43, 44, 45, 46, 47, 48, 49, 50, 51, 52, 53, 54, 55, 56, 57, 58, 59, 60, 61] (by decide +kernel) (by decide +kernel)
set_option maxRecDepth 20000 in
theorem gX4_score_X4_scored : GoodIn wsX4_score (wsV RX4 105 RX4 yX4_scored wsX4_scored) := goodIn_app (goodIn_of _ (by decide +kernel)) ggX4_score_X4_scored
theorem dX4_score_0 : decode cX4_score 0 = .ok (.aload_n 0, 1) := by decide +kernel
theorem dX4_score_1 : decode cX4_score 1 = .ok (.iload_n 1, 1) := by decide +kernel
theorem dX4_score_2 : decode cX4_score 2 = .ok (.invokevirtual 87, 3) := by decide +kernel
theorem dX4_score_5 : decode cX4_score 5 = .ok (.ifCond .eq 12, 3) := by decide +kernel
theorem dX4_score_8 : decode cX4_score 8 = .ok (.aload_n 0, 1) := by decide +kernel
theorem dX4_score_9 : decode cX4_score 9 = .ok (.iload_n 1, 1) := by decide +kernel
theorem dX4_score_10 : decode cX4_score 10 = .ok (.iconst (-1), 1) := by decide +kernel
theorem dX4_score_11 : decode cX4_score 11 = .ok (.invokevirtual 105, 3) := by decide +kernel
theorem dX4_score_14 : decode cX4_score 14 = .ok (.goto 4, 3) := by decide +kernel
theorem dX4_score_17 : decode cX4_score 17 = .ok (.iconst 0, 1) := by decide +kernel
theorem dX4_score_18 : decode cX4_score 18 = .ok (.ireturn, 1) := by decide +kernel
set_option maxRecDepth 20000 in
theorem ggX4_scoreWithout_X4_isPlayer : GoodIn wsX4_scoreWithout wsX4_isPlayer := goodIn_r _ [4, 5, 6, 3, 7] (by decide +kernel) (by decide +kernel)
set_option maxRecDepth 20000 in
theorem gX4_scoreWithout_X4_isPlayer : GoodIn wsX4_scoreWithout (va_wsS RX4 84 yX4_isPlayer wsX4_isPlayer) := goodIn_app (goodIn_of _ (by decide +kernel)) ggX4_scoreWithout_X4_isPlayer
set_option maxRecDepth 20000 in
theorem ggX4_scoreWithout_X4_isFact : GoodIn wsX4_scoreWithout wsX4_isFact := goodIn_r _ [11, 12, 5, 6, 3, 7, 47, 48, 49, 50, 51, 52, 53, 54, 55, 56, 57, 58, 59, 60, 61] (by decide +kernel) (by decide +kernel)
set_option maxRecDepth 20000 in
theorem gX4_scoreWithout_X4_isFact : GoodIn wsX4_scoreWithout (wsV RX4 62 RX4 yX4_isFact wsX4_isFact) := goodIn_app (goodIn_of _ (by decide +kernel)) ggX4_scoreWithout_X4_isFact
set_option maxRecDepth 20000 in
theorem ggX4_scoreWithout_X4_goes : GoodIn wsX4_scoreWithout wsX4_goes := goodIn_r _ [16, 17, 47, 48, 49, 50, 51, 52, 53, 54, 55, 56, 57, 58, 59, 60, 61] (by decide +kernel) (by decide +kernel)
set_option maxRecDepth 20000 in
theorem gX4_scoreWithout_X4_goes : GoodIn wsX4_scoreWithout (wsV RX4 59 RX4 yX4_goes wsX4_goes) := goodIn_app (goodIn_of _ (by decide +kernel)) ggX4_scoreWithout_X4_goes
set_option maxRecDepth 20000 in
theorem ggX4_scoreWithout_X4_scored : GoodIn wsX4_scoreWithout wsX4_scored := goodIn_r _ [21, 22, 23, 24, 25, 26, 27, 3, 28, 12, 29, 30, 31, 32, 33, 34, 35, 36, 37, 38, 39, 40, 41, 42, 43, 44, 45, 46, 47, 48, 49, 50, 51, 52, 53, 54, 55, 56, 57, 58, 59, 60, 61] (by decide +kernel) (by decide +kernel)
set_option maxRecDepth 20000 in
theorem gX4_scoreWithout_X4_scored : GoodIn wsX4_scoreWithout (wsV RX4 105 RX4 yX4_scored wsX4_scored) := goodIn_app (goodIn_of _ (by decide +kernel)) ggX4_scoreWithout_X4_scored
theorem dX4_scoreWithout_0 : decode cX4_scoreWithout 0 = .ok (.aload_n 0, 1) := by decide +kernel
theorem dX4_scoreWithout_1 : decode cX4_scoreWithout 1 = .ok (.iload_n 1, 1) := by decide +kernel
theorem dX4_scoreWithout_2 : decode cX4_scoreWithout 2 = .ok (.invokestatic 84, 3) := by decide +kernel
theorem dX4_scoreWithout_5 : decode cX4_scoreWithout 5 = .ok (.ifCond .eq 15, 3) := by decide +kernel
theorem dX4_scoreWithout_8 : decode cX4_scoreWithout 8 = .ok (.aload_n 0, 1) := by decide +kernel
theorem dX4_scoreWithout_9 : decode cX4_scoreWithout 9 = .ok (.iload_n 2, 1) := by decide +kernel
theorem dX4_scoreWithout_10 : decode cX4_scoreWithout 10 = .ok (.invokevirtual 62, 3) := by decide +kernel
theorem dX4_scoreWithout_13 : decode cX4_scoreWithout 13 = .ok (.ifCond .eq 7, 3) := by decide +kernel
theorem dX4_scoreWithout_16 : decode cX4_scoreWithout 16 = .ok (.iconst 0, 1) := by decide +kernel
theorem dX4_scoreWithout_17 : decode cX4_scoreWithout 17 = .ok (.goto 4, 3) := by decide +kernel
theorem dX4_scoreWithout_20 : decode cX4_scoreWithout 20 = .ok (.iconst 1, 1) := by decide +kernel
theorem dX4_scoreWithout_21 : decode cX4_scoreWithout 21 = .ok (.invokevirtual 59, 3) := by decide +kernel
theorem dX4_scoreWithout_24 : decode cX4_scoreWithout 24 = .ok (.ifCond .eq 12, 3) := by decide +kernel
theorem dX4_scoreWithout_27 : decode cX4_scoreWithout 27 = .ok (.aload_n 0, 1) := by decide +kernel
theorem dX4_scoreWithout_28 : decode cX4_scoreWithout 28 = .ok (.iload_n 1, 1) := by decide +kernel
theorem dX4_scoreWithout_29 : decode cX4_scoreWithout 29 = .ok (.iload_n 2, 1) := by decide +kernel
theorem dX4_scoreWithout_30 : decode cX4_scoreWithout 30 = .ok (.invokevirtual 105, 3) := by decide +kernel
theorem dX4_scoreWithout_33 : decode cX4_scoreWithout 33 = .ok (.goto 4, 3) := by decide +kernel
theorem dX4_scoreWithout_36 : decode cX4_scoreWithout 36 = .ok (.iconst 0, 1) := by decide +kernel
theorem dX4_scoreWithout_37 : decode cX4_scoreWithout 37 = .ok (.ireturn, 1) := by decide +kernel
set_option maxRecDepth 20000 in
theorem ggX4_keyFact_X4_asksPlayer : GoodIn wsX4_keyFact wsX4_asksPlayer := goodIn_r _ [6, 7, 8, 5, 9, 10, 11, 12, 13, 14, 15, 16, 17, 47, 48, 49, 50, 51, 52, 53, 54, 55, 56, 57, 58, 59, 60, 61] (by decide +kernel) (by decide +kernel)
set_option maxRecDepth 20000 in
theorem gX4_keyFact_X4_asksPlayer : GoodIn wsX4_keyFact (wsV RX4 87 RX4 yX4_asksPlayer wsX4_asksPlayer) := goodIn_app (goodIn_of _ (by decide +kernel)) ggX4_keyFact_X4_asksPlayer
set_option maxRecDepth 20000 in
theorem ggX4_keyFact_X4_stands : GoodIn wsX4_keyFact wsX4_stands := goodIn_r _ [21, 22, 23, 24, 47, 48, 49, 50, 51, 52, 53, 54, 55, 56, 57, 58, 59, 60, 61] (by decide +kernel) (by decide +kernel)
set_option maxRecDepth 20000 in
theorem gX4_keyFact_X4_stands : GoodIn wsX4_keyFact (wsV RX4 65 RX4 yX4_stands wsX4_stands) := goodIn_app (goodIn_of _ (by decide +kernel)) ggX4_keyFact_X4_stands
set_option maxRecDepth 20000 in
theorem ggX4_keyFact_X4_scored : GoodIn wsX4_keyFact wsX4_scored := goodIn_r _ [28, 29, 30, 31, 32, 33, 34, 5, 35, 1, 18, 19, 20, 21, 22, 23, 24, 36, 37, 38, 39, 40, 41, 42, 43, 44, 45, 46, 47, 48, 49, 50, 51, 52, 53, 54, 55, 56, 57, 58, 59, 60, 61] (by decide +kernel) (by decide +kernel)
set_option maxRecDepth 20000 in
theorem gX4_keyFact_X4_scored : GoodIn wsX4_keyFact (wsV RX4 105 RX4 yX4_scored wsX4_scored) := goodIn_app (goodIn_of _ (by decide +kernel)) ggX4_keyFact_X4_scored
theorem dX4_keyFact_0 : decode cX4_keyFact 0 = .ok (.aload_n 0, 1) := by decide +kernel
theorem dX4_keyFact_1 : decode cX4_keyFact 1 = .ok (.iload_n 1, 1) := by decide +kernel
theorem dX4_keyFact_2 : decode cX4_keyFact 2 = .ok (.invokevirtual 87, 3) := by decide +kernel
theorem dX4_keyFact_5 : decode cX4_keyFact 5 = .ok (.ifCond .ne 5, 3) := by decide +kernel
theorem dX4_keyFact_8 : decode cX4_keyFact 8 = .ok (.iconst 0, 1) := by decide +kernel
theorem dX4_keyFact_9 : decode cX4_keyFact 9 = .ok (.ireturn, 1) := by decide +kernel
theorem dX4_keyFact_10 : decode cX4_keyFact 10 = .ok (.iconst (-1), 1) := by decide +kernel
theorem dX4_keyFact_11 : decode cX4_keyFact 11 = .ok (.istore_n 2, 1) := by decide +kernel
theorem dX4_keyFact_12 : decode cX4_keyFact 12 = .ok (.bipush 17, 2) := by decide +kernel
theorem dX4_keyFact_14 : decode cX4_keyFact 14 = .ok (.istore_n 3, 1) := by decide +kernel
theorem dX4_keyFact_15 : decode cX4_keyFact 15 = .ok (.iconst 0, 1) := by decide +kernel
theorem dX4_keyFact_16 : decode cX4_keyFact 16 = .ok (.istore 4, 2) := by decide +kernel
theorem dX4_keyFact_18 : decode cX4_keyFact 18 = .ok (.iload 4, 2) := by decide +kernel
theorem dX4_keyFact_20 : decode cX4_keyFact 20 = .ok (.aload_n 0, 1) := by decide +kernel
theorem dX4_keyFact_21 : decode cX4_keyFact 21 = .ok (.getfield 49, 3) := by decide +kernel
theorem dX4_keyFact_24 : decode cX4_keyFact 24 = .ok (.if_icmp .ge 58, 3) := by decide +kernel
theorem dX4_keyFact_27 : decode cX4_keyFact 27 = .ok (.aload_n 0, 1) := by decide +kernel
theorem dX4_keyFact_28 : decode cX4_keyFact 28 = .ok (.iload 4, 2) := by decide +kernel
theorem dX4_keyFact_30 : decode cX4_keyFact 30 = .ok (.invokevirtual 65, 3) := by decide +kernel
theorem dX4_keyFact_33 : decode cX4_keyFact 33 = .ok (.ifCond .eq 13, 3) := by decide +kernel
theorem dX4_keyFact_36 : decode cX4_keyFact 36 = .ok (.aload_n 0, 1) := by decide +kernel
theorem dX4_keyFact_37 : decode cX4_keyFact 37 = .ok (.iload_n 1, 1) := by decide +kernel
theorem dX4_keyFact_38 : decode cX4_keyFact 38 = .ok (.iload 4, 2) := by decide +kernel
theorem dX4_keyFact_40 : decode cX4_keyFact 40 = .ok (.invokevirtual 105, 3) := by decide +kernel
theorem dX4_keyFact_43 : decode cX4_keyFact 43 = .ok (.goto 5, 3) := by decide +kernel
theorem dX4_keyFact_46 : decode cX4_keyFact 46 = .ok (.bipush 17, 2) := by decide +kernel
theorem dX4_keyFact_48 : decode cX4_keyFact 48 = .ok (.istore 5, 2) := by decide +kernel
theorem dX4_keyFact_50 : decode cX4_keyFact 50 = .ok (.iload 5, 2) := by decide +kernel
theorem dX4_keyFact_52 : decode cX4_keyFact 52 = .ok (.iload_n 3, 1) := by decide +kernel
theorem dX4_keyFact_53 : decode cX4_keyFact 53 = .ok (.if_icmp .ge 8, 3) := by decide +kernel
theorem dX4_keyFact_56 : decode cX4_keyFact 56 = .ok (.iload 4, 2) := by decide +kernel
theorem dX4_keyFact_58 : decode cX4_keyFact 58 = .ok (.goto 4, 3) := by decide +kernel
theorem dX4_keyFact_61 : decode cX4_keyFact 61 = .ok (.iload_n 2, 1) := by decide +kernel
theorem dX4_keyFact_62 : decode cX4_keyFact 62 = .ok (.istore_n 2, 1) := by decide +kernel
theorem dX4_keyFact_63 : decode cX4_keyFact 63 = .ok (.iload 5, 2) := by decide +kernel
theorem dX4_keyFact_65 : decode cX4_keyFact 65 = .ok (.iload_n 3, 1) := by decide +kernel
theorem dX4_keyFact_66 : decode cX4_keyFact 66 = .ok (.if_icmp .ge 8, 3) := by decide +kernel
theorem dX4_keyFact_69 : decode cX4_keyFact 69 = .ok (.iload 5, 2) := by decide +kernel
theorem dX4_keyFact_71 : decode cX4_keyFact 71 = .ok (.goto 4, 3) := by decide +kernel
theorem dX4_keyFact_74 : decode cX4_keyFact 74 = .ok (.iload_n 3, 1) := by decide +kernel
theorem dX4_keyFact_75 : decode cX4_keyFact 75 = .ok (.istore_n 3, 1) := by decide +kernel
theorem dX4_keyFact_76 : decode cX4_keyFact 76 = .ok (.iinc 4 1, 3) := by decide +kernel
theorem dX4_keyFact_79 : decode cX4_keyFact 79 = .ok (.goto (-61), 3) := by decide +kernel
theorem dX4_keyFact_82 : decode cX4_keyFact 82 = .ok (.iload_n 2, 1) := by decide +kernel
theorem dX4_keyFact_83 : decode cX4_keyFact 83 = .ok (.ireturn, 1) := by decide +kernel
set_option maxRecDepth 20000 in
theorem ggX4_verdict_X4_scored : GoodIn wsX4_verdict wsX4_scored := goodIn_r _ [6, 7, 8, 9, 10, 11, 12, 5, 13, 14, 15, 16, 17, 18, 19, 20, 21, 22, 23, 24, 25, 26, 27, 28, 29, 30, 31, 32, 33, 34, 35, 36, 37, 38, 39, 40, 41, 42, 43, 44, 45, 46, 47] (by decide +kernel) (by decide +kernel)
set_option maxRecDepth 20000 in
theorem gX4_verdict_X4_scored : GoodIn wsX4_verdict (wsV RX4 105 RX4 yX4_scored wsX4_scored) := goodIn_app (goodIn_of _ (by decide +kernel)) ggX4_verdict_X4_scored
theorem dX4_verdict_0 : decode cX4_verdict 0 = .ok (.aload_n 0, 1) := by decide +kernel
theorem dX4_verdict_1 : decode cX4_verdict 1 = .ok (.iconst 0, 1) := by decide +kernel
theorem dX4_verdict_2 : decode cX4_verdict 2 = .ok (.putfield 41, 3) := by decide +kernel
theorem dX4_verdict_5 : decode cX4_verdict 5 = .ok (.iconst (-1), 1) := by decide +kernel
theorem dX4_verdict_6 : decode cX4_verdict 6 = .ok (.istore_n 1, 1) := by decide +kernel
theorem dX4_verdict_7 : decode cX4_verdict 7 = .ok (.iconst (-1), 1) := by decide +kernel
theorem dX4_verdict_8 : decode cX4_verdict 8 = .ok (.istore_n 2, 1) := by decide +kernel
theorem dX4_verdict_9 : decode cX4_verdict 9 = .ok (.iconst 0, 1) := by decide +kernel
theorem dX4_verdict_10 : decode cX4_verdict 10 = .ok (.istore_n 3, 1) := by decide +kernel
theorem dX4_verdict_11 : decode cX4_verdict 11 = .ok (.iload_n 3, 1) := by decide +kernel
theorem dX4_verdict_12 : decode cX4_verdict 12 = .ok (.iconst 3, 1) := by decide +kernel
theorem dX4_verdict_13 : decode cX4_verdict 13 = .ok (.if_icmp .ge 52, 3) := by decide +kernel
theorem dX4_verdict_16 : decode cX4_verdict 16 = .ok (.aload_n 0, 1) := by decide +kernel
theorem dX4_verdict_17 : decode cX4_verdict 17 = .ok (.iload_n 3, 1) := by decide +kernel
theorem dX4_verdict_18 : decode cX4_verdict 18 = .ok (.iconst (-1), 1) := by decide +kernel
theorem dX4_verdict_19 : decode cX4_verdict 19 = .ok (.invokevirtual 105, 3) := by decide +kernel
theorem dX4_verdict_22 : decode cX4_verdict 22 = .ok (.istore 4, 2) := by decide +kernel
theorem dX4_verdict_24 : decode cX4_verdict 24 = .ok (.iload 4, 2) := by decide +kernel
theorem dX4_verdict_26 : decode cX4_verdict 26 = .ok (.iload_n 2, 1) := by decide +kernel
theorem dX4_verdict_27 : decode cX4_verdict 27 = .ok (.if_icmp .le 7, 3) := by decide +kernel
theorem dX4_verdict_30 : decode cX4_verdict 30 = .ok (.iload_n 3, 1) := by decide +kernel
theorem dX4_verdict_31 : decode cX4_verdict 31 = .ok (.goto 14, 3) := by decide +kernel
theorem dX4_verdict_34 : decode cX4_verdict 34 = .ok (.iload 4, 2) := by decide +kernel
theorem dX4_verdict_36 : decode cX4_verdict 36 = .ok (.iload_n 2, 1) := by decide +kernel
theorem dX4_verdict_37 : decode cX4_verdict 37 = .ok (.if_icmp .ne 7, 3) := by decide +kernel
theorem dX4_verdict_40 : decode cX4_verdict 40 = .ok (.iconst (-1), 1) := by decide +kernel
theorem dX4_verdict_41 : decode cX4_verdict 41 = .ok (.goto 4, 3) := by decide +kernel
theorem dX4_verdict_44 : decode cX4_verdict 44 = .ok (.iload_n 1, 1) := by decide +kernel
theorem dX4_verdict_45 : decode cX4_verdict 45 = .ok (.istore_n 1, 1) := by decide +kernel
theorem dX4_verdict_46 : decode cX4_verdict 46 = .ok (.iload 4, 2) := by decide +kernel
theorem dX4_verdict_48 : decode cX4_verdict 48 = .ok (.iload_n 2, 1) := by decide +kernel
theorem dX4_verdict_49 : decode cX4_verdict 49 = .ok (.if_icmp .le 8, 3) := by decide +kernel
theorem dX4_verdict_52 : decode cX4_verdict 52 = .ok (.iload 4, 2) := by decide +kernel
theorem dX4_verdict_54 : decode cX4_verdict 54 = .ok (.goto 4, 3) := by decide +kernel
theorem dX4_verdict_57 : decode cX4_verdict 57 = .ok (.iload_n 2, 1) := by decide +kernel
theorem dX4_verdict_58 : decode cX4_verdict 58 = .ok (.istore_n 2, 1) := by decide +kernel
theorem dX4_verdict_59 : decode cX4_verdict 59 = .ok (.iinc 3 1, 3) := by decide +kernel
theorem dX4_verdict_62 : decode cX4_verdict 62 = .ok (.goto (-51), 3) := by decide +kernel
theorem dX4_verdict_65 : decode cX4_verdict 65 = .ok (.iload_n 1, 1) := by decide +kernel
theorem dX4_verdict_66 : decode cX4_verdict 66 = .ok (.ireturn, 1) := by decide +kernel
set_option maxRecDepth 20000 in
theorem ggX4_close_X4_standing : GoodIn wsX4_close wsX4_standing := goodIn_r _ [13, 14, 15, 16, 17, 12, 18, 19, 20, 21, 37, 38, 39, 40, 41, 42, 43, 44, 45, 46, 47, 48, 49, 50, 51] (by decide +kernel) (by decide +kernel)
set_option maxRecDepth 20000 in
theorem gX4_close_X4_standing : GoodIn wsX4_close (wsV RX4 94 RX4 yX4_standing wsX4_standing) := goodIn_app (goodIn_of _ (by decide +kernel)) ggX4_close_X4_standing
set_option maxRecDepth 20000 in
theorem ggX4_close_X4_scored : GoodIn wsX4_close wsX4_scored := goodIn_r _ [25, 4, 5, 26, 9, 10, 11, 12, 13, 14, 15, 16, 17, 18, 19, 20, 21, 27, 28, 29, 30, 6, 31, 32, 33, 34, 35, 36, 37, 38, 39, 40, 41, 42, 43, 44, 45, 46, 47, 48, 49, 50, 51] (by decide +kernel) (by decide +kernel)
set_option maxRecDepth 20000 in
theorem gX4_close_X4_scored : GoodIn wsX4_close (wsV RX4 105 RX4 yX4_scored wsX4_scored) := goodIn_app (goodIn_of _ (by decide +kernel)) ggX4_close_X4_scored
theorem dX4_close_0 : decode cX4_close 0 = .ok (.aload_n 0, 1) := by decide +kernel
theorem dX4_close_1 : decode cX4_close 1 = .ok (.iconst 0, 1) := by decide +kernel
theorem dX4_close_2 : decode cX4_close 2 = .ok (.putfield 41, 3) := by decide +kernel
theorem dX4_close_5 : decode cX4_close 5 = .ok (.aload_n 0, 1) := by decide +kernel
theorem dX4_close_6 : decode cX4_close 6 = .ok (.iconst (-1), 1) := by decide +kernel
theorem dX4_close_7 : decode cX4_close 7 = .ok (.invokevirtual 94, 3) := by decide +kernel
theorem dX4_close_10 : decode cX4_close 10 = .ok (.istore_n 1, 1) := by decide +kernel
theorem dX4_close_11 : decode cX4_close 11 = .ok (.iconst 0, 1) := by decide +kernel
theorem dX4_close_12 : decode cX4_close 12 = .ok (.istore_n 2, 1) := by decide +kernel
theorem dX4_close_13 : decode cX4_close 13 = .ok (.iload_n 2, 1) := by decide +kernel
theorem dX4_close_14 : decode cX4_close 14 = .ok (.iconst 3, 1) := by decide +kernel
theorem dX4_close_15 : decode cX4_close 15 = .ok (.if_icmp .ge 33, 3) := by decide +kernel
theorem dX4_close_18 : decode cX4_close 18 = .ok (.aload_n 0, 1) := by decide +kernel
theorem dX4_close_19 : decode cX4_close 19 = .ok (.getfield 38, 3) := by decide +kernel
theorem dX4_close_22 : decode cX4_close 22 = .ok (.iload_n 2, 1) := by decide +kernel
theorem dX4_close_23 : decode cX4_close 23 = .ok (.dup2, 1) := by decide +kernel
theorem dX4_close_24 : decode cX4_close 24 = .ok (.iaload, 1) := by decide +kernel
theorem dX4_close_25 : decode cX4_close 25 = .ok (.aload_n 0, 1) := by decide +kernel
theorem dX4_close_26 : decode cX4_close 26 = .ok (.iload_n 2, 1) := by decide +kernel
theorem dX4_close_27 : decode cX4_close 27 = .ok (.iconst (-1), 1) := by decide +kernel
theorem dX4_close_28 : decode cX4_close 28 = .ok (.invokevirtual 105, 3) := by decide +kernel
theorem dX4_close_31 : decode cX4_close 31 = .ok (.iadd, 1) := by decide +kernel
theorem dX4_close_32 : decode cX4_close 32 = .ok (.iastore, 1) := by decide +kernel
theorem dX4_close_33 : decode cX4_close 33 = .ok (.aload_n 0, 1) := by decide +kernel
theorem dX4_close_34 : decode cX4_close 34 = .ok (.getfield 20, 3) := by decide +kernel
theorem dX4_close_37 : decode cX4_close 37 = .ok (.iload_n 2, 1) := by decide +kernel
theorem dX4_close_38 : decode cX4_close 38 = .ok (.sipush 300, 3) := by decide +kernel
theorem dX4_close_41 : decode cX4_close 41 = .ok (.iastore, 1) := by decide +kernel
theorem dX4_close_42 : decode cX4_close 42 = .ok (.iinc 2 1, 3) := by decide +kernel
theorem dX4_close_45 : decode cX4_close 45 = .ok (.goto (-32), 3) := by decide +kernel
theorem dX4_close_48 : decode cX4_close 48 = .ok (.iconst 0, 1) := by decide +kernel
theorem dX4_close_49 : decode cX4_close 49 = .ok (.istore_n 2, 1) := by decide +kernel
theorem dX4_close_50 : decode cX4_close 50 = .ok (.iload_n 2, 1) := by decide +kernel
theorem dX4_close_51 : decode cX4_close 51 = .ok (.aload_n 0, 1) := by decide +kernel
theorem dX4_close_52 : decode cX4_close 52 = .ok (.getfield 52, 3) := by decide +kernel
theorem dX4_close_55 : decode cX4_close 55 = .ok (.if_icmp .ge 41, 3) := by decide +kernel
theorem dX4_close_58 : decode cX4_close 58 = .ok (.aload_n 0, 1) := by decide +kernel
theorem dX4_close_59 : decode cX4_close 59 = .ok (.getfield 38, 3) := by decide +kernel
theorem dX4_close_62 : decode cX4_close 62 = .ok (.aload_n 0, 1) := by decide +kernel
theorem dX4_close_63 : decode cX4_close 63 = .ok (.getfield 23, 3) := by decide +kernel
theorem dX4_close_66 : decode cX4_close 66 = .ok (.iload_n 2, 1) := by decide +kernel
theorem dX4_close_67 : decode cX4_close 67 = .ok (.iaload, 1) := by decide +kernel
theorem dX4_close_68 : decode cX4_close 68 = .ok (.dup2, 1) := by decide +kernel
theorem dX4_close_69 : decode cX4_close 69 = .ok (.iaload, 1) := by decide +kernel
theorem dX4_close_70 : decode cX4_close 70 = .ok (.aload_n 0, 1) := by decide +kernel
theorem dX4_close_71 : decode cX4_close 71 = .ok (.getfield 26, 3) := by decide +kernel
theorem dX4_close_74 : decode cX4_close 74 = .ok (.iload_n 2, 1) := by decide +kernel
theorem dX4_close_75 : decode cX4_close 75 = .ok (.iaload, 1) := by decide +kernel
theorem dX4_close_76 : decode cX4_close 76 = .ok (.iload_n 1, 1) := by decide +kernel
theorem dX4_close_77 : decode cX4_close 77 = .ok (.iconst (-1), 1) := by decide +kernel
theorem dX4_close_78 : decode cX4_close 78 = .ok (.ixor, 1) := by decide +kernel
theorem dX4_close_79 : decode cX4_close 79 = .ok (.iand, 1) := by decide +kernel
theorem dX4_close_80 : decode cX4_close 80 = .ok (.ifCond .ne 7, 3) := by decide +kernel
theorem dX4_close_83 : decode cX4_close 83 = .ok (.iconst 0, 1) := by decide +kernel
theorem dX4_close_84 : decode cX4_close 84 = .ok (.goto 4, 3) := by decide +kernel
theorem dX4_close_87 : decode cX4_close 87 = .ok (.iconst 1, 1) := by decide +kernel
theorem dX4_close_88 : decode cX4_close 88 = .ok (.isub, 1) := by decide +kernel
theorem dX4_close_89 : decode cX4_close 89 = .ok (.iastore, 1) := by decide +kernel
theorem dX4_close_90 : decode cX4_close 90 = .ok (.iinc 2 1, 3) := by decide +kernel
theorem dX4_close_93 : decode cX4_close 93 = .ok (.goto (-43), 3) := by decide +kernel
theorem dX4_close_96 : decode cX4_close 96 = .ok (.aload_n 0, 1) := by decide +kernel
theorem dX4_close_97 : decode cX4_close 97 = .ok (.iconst 0, 1) := by decide +kernel
theorem dX4_close_98 : decode cX4_close 98 = .ok (.putfield 52, 3) := by decide +kernel
theorem dX4_close_101 : decode cX4_close 101 = .ok (.aload_n 0, 1) := by decide +kernel
theorem dX4_close_102 : decode cX4_close 102 = .ok (.iconst 0, 1) := by decide +kernel
theorem dX4_close_103 : decode cX4_close 103 = .ok (.putfield 68, 3) := by decide +kernel
theorem dX4_close_106 : decode cX4_close 106 = .ok (.aload_n 0, 1) := by decide +kernel
theorem dX4_close_107 : decode cX4_close 107 = .ok (.dup, 1) := by decide +kernel
theorem dX4_close_108 : decode cX4_close 108 = .ok (.getfield 109, 3) := by decide +kernel
theorem dX4_close_111 : decode cX4_close 111 = .ok (.iconst 1, 1) := by decide +kernel
theorem dX4_close_112 : decode cX4_close 112 = .ok (.iadd, 1) := by decide +kernel
theorem dX4_close_113 : decode cX4_close 113 = .ok (.putfield 109, 3) := by decide +kernel
theorem dX4_close_116 : decode cX4_close 116 = .ok (.aload_n 0, 1) := by decide +kernel
theorem dX4_close_117 : decode cX4_close 117 = .ok (.getfield 109, 3) := by decide +kernel
theorem dX4_close_120 : decode cX4_close 120 = .ok (.ireturn, 1) := by decide +kernel
set_option maxRecDepth 20000 in
theorem ggX4_reputation_X4_asksPlayer : GoodIn wsX4_reputation wsX4_asksPlayer := goodIn_r _ [6, 7, 8, 5, 9, 10, 11, 12, 13, 14, 15, 16, 17, 18, 19, 20, 21, 22, 23, 24, 25, 26, 27, 28, 29, 30, 31, 32] (by decide +kernel) (by decide +kernel)
set_option maxRecDepth 20000 in
theorem gX4_reputation_X4_asksPlayer : GoodIn wsX4_reputation (wsV RX4 87 RX4 yX4_asksPlayer wsX4_asksPlayer) := goodIn_app (goodIn_of _ (by decide +kernel)) ggX4_reputation_X4_asksPlayer
theorem dX4_reputation_0 : decode cX4_reputation 0 = .ok (.aload_n 0, 1) := by decide +kernel
theorem dX4_reputation_1 : decode cX4_reputation 1 = .ok (.iload_n 1, 1) := by decide +kernel
theorem dX4_reputation_2 : decode cX4_reputation 2 = .ok (.invokevirtual 87, 3) := by decide +kernel
theorem dX4_reputation_5 : decode cX4_reputation 5 = .ok (.ifCond .eq 12, 3) := by decide +kernel
theorem dX4_reputation_8 : decode cX4_reputation 8 = .ok (.aload_n 0, 1) := by decide +kernel
theorem dX4_reputation_9 : decode cX4_reputation 9 = .ok (.getfield 38, 3) := by decide +kernel
theorem dX4_reputation_12 : decode cX4_reputation 12 = .ok (.iload_n 1, 1) := by decide +kernel
theorem dX4_reputation_13 : decode cX4_reputation 13 = .ok (.iaload, 1) := by decide +kernel
theorem dX4_reputation_14 : decode cX4_reputation 14 = .ok (.goto 4, 3) := by decide +kernel
theorem dX4_reputation_17 : decode cX4_reputation 17 = .ok (.iconst 0, 1) := by decide +kernel
theorem dX4_reputation_18 : decode cX4_reputation 18 = .ok (.ireturn, 1) := by decide +kernel
end
section
set_option maxRecDepth 20000 in
theorem ggL_addFact_X3_addFact : GoodIn wsL_addFact wsX3_addFact := goodIn_ca (goodIn_ca (goodIn_r _ [7, 8, 9, 10, 11, 12, 13, 6, 14, 15, 16, 17, 18, 19, 20, 21, 22, 23, 24, 25, 26, 27, 28, 29, 30, 31, 32] (by decide +kernel) (by decide +kernel)) (goodIn_sub (fun _ h => List.mem_cons_of_mem _ (List.mem_append_left _ (List.mem_append_right _ h))) (by decide +kernel))) (goodIn_sub (fun _ h => List.mem_cons_of_mem _ (List.mem_append_right _ h)) (by decide +kernel))
set_option maxRecDepth 20000 in
theorem gL_addFact_X3_addFact : GoodIn wsL_addFact (wsV RL 7 RX3 yX3_addFact wsX3_addFact) := goodIn_app (goodIn_of _ (by decide +kernel)) ggL_addFact_X3_addFact
theorem dL_addFact_0 : decode cL_addFact 0 = .ok (.aload_n 2, 1) := by decide +kernel
theorem dL_addFact_1 : decode cL_addFact 1 = .ok (.iconst 0, 1) := by decide +kernel
theorem dL_addFact_2 : decode cL_addFact 2 = .ok (.aload_n 0, 1) := by decide +kernel
theorem dL_addFact_3 : decode cL_addFact 3 = .ok (.iload_n 1, 1) := by decide +kernel
theorem dL_addFact_4 : decode cL_addFact 4 = .ok (.invokevirtual 7, 3) := by decide +kernel
theorem dL_addFact_7 : decode cL_addFact 7 = .ok (.i2l, 1) := by decide +kernel
theorem dL_addFact_8 : decode cL_addFact 8 = .ok (.lastore, 1) := by decide +kernel
theorem dL_addFact_9 : decode cL_addFact 9 = .ok (.goto 9, 3) := by decide +kernel
theorem dL_addFact_12 : decode cL_addFact 12 = .ok (.astore_n 3, 1) := by decide +kernel
theorem dL_addFact_13 : decode cL_addFact 13 = .ok (.iconst 1, 1) := by decide +kernel
theorem dL_addFact_14 : decode cL_addFact 14 = .ok (.ireturn, 1) := by decide +kernel
theorem dL_addFact_15 : decode cL_addFact 15 = .ok (.astore_n 3, 1) := by decide +kernel
theorem dL_addFact_16 : decode cL_addFact 16 = .ok (.iconst 2, 1) := by decide +kernel
theorem dL_addFact_17 : decode cL_addFact 17 = .ok (.ireturn, 1) := by decide +kernel
theorem dL_addFact_18 : decode cL_addFact 18 = .ok (.iconst 0, 1) := by decide +kernel
theorem dL_addFact_19 : decode cL_addFact 19 = .ok (.ireturn, 1) := by decide +kernel
set_option maxRecDepth 20000 in
theorem ggL_toggleSource_X3_toggleSource : GoodIn wsL_toggleSource wsX3_toggleSource := goodIn_ca (goodIn_r _ [6, 7, 8, 9, 10, 5, 11, 12, 13, 14, 15, 16, 17, 18, 19, 20, 21, 22, 23, 24, 25, 26, 27, 28, 29, 30] (by decide +kernel) (by decide +kernel)) (goodIn_sub (fun _ h => List.mem_cons_of_mem _ (List.mem_append_right _ h)) (by decide +kernel))
set_option maxRecDepth 20000 in
theorem gL_toggleSource_X3_toggleSource : GoodIn wsL_toggleSource (wsV RL 17 RX3 yX3_toggleSource wsX3_toggleSource) := goodIn_app (goodIn_of _ (by decide +kernel)) ggL_toggleSource_X3_toggleSource
theorem dL_toggleSource_0 : decode cL_toggleSource 0 = .ok (.aload_n 2, 1) := by decide +kernel
theorem dL_toggleSource_1 : decode cL_toggleSource 1 = .ok (.iconst 0, 1) := by decide +kernel
theorem dL_toggleSource_2 : decode cL_toggleSource 2 = .ok (.aload_n 0, 1) := by decide +kernel
theorem dL_toggleSource_3 : decode cL_toggleSource 3 = .ok (.iload_n 1, 1) := by decide +kernel
theorem dL_toggleSource_4 : decode cL_toggleSource 4 = .ok (.invokevirtual 17, 3) := by decide +kernel
theorem dL_toggleSource_7 : decode cL_toggleSource 7 = .ok (.ifCond .eq 7, 3) := by decide +kernel
theorem dL_toggleSource_10 : decode cL_toggleSource 10 = .ok (.lconst 1, 1) := by decide +kernel
theorem dL_toggleSource_11 : decode cL_toggleSource 11 = .ok (.goto 4, 3) := by decide +kernel
theorem dL_toggleSource_14 : decode cL_toggleSource 14 = .ok (.lconst 0, 1) := by decide +kernel
theorem dL_toggleSource_15 : decode cL_toggleSource 15 = .ok (.lastore, 1) := by decide +kernel
theorem dL_toggleSource_16 : decode cL_toggleSource 16 = .ok (.goto 6, 3) := by decide +kernel
theorem dL_toggleSource_19 : decode cL_toggleSource 19 = .ok (.astore_n 3, 1) := by decide +kernel
theorem dL_toggleSource_20 : decode cL_toggleSource 20 = .ok (.iconst 1, 1) := by decide +kernel
theorem dL_toggleSource_21 : decode cL_toggleSource 21 = .ok (.ireturn, 1) := by decide +kernel
theorem dL_toggleSource_22 : decode cL_toggleSource 22 = .ok (.iconst 0, 1) := by decide +kernel
theorem dL_toggleSource_23 : decode cL_toggleSource 23 = .ok (.ireturn, 1) := by decide +kernel
set_option maxRecDepth 20000 in
theorem ggL_withdraw_X3_withdraw : GoodIn wsL_withdraw wsX3_withdraw := goodIn_ca (goodIn_r _ [6, 7, 8, 9, 10, 5, 11, 12, 13, 14, 15, 16, 17, 18, 19, 20, 21, 22, 23, 24, 25, 26, 27, 28, 29, 30, 31, 32, 33, 34, 35] (by decide +kernel) (by decide +kernel)) (goodIn_sub (fun _ h => List.mem_cons_of_mem _ (List.mem_append_right _ h)) (by decide +kernel))
set_option maxRecDepth 20000 in
theorem gL_withdraw_X3_withdraw : GoodIn wsL_withdraw (wsV RL 21 RX3 yX3_withdraw wsX3_withdraw) := goodIn_app (goodIn_of _ (by decide +kernel)) ggL_withdraw_X3_withdraw
theorem dL_withdraw_0 : decode cL_withdraw 0 = .ok (.aload_n 2, 1) := by decide +kernel
theorem dL_withdraw_1 : decode cL_withdraw 1 = .ok (.iconst 0, 1) := by decide +kernel
theorem dL_withdraw_2 : decode cL_withdraw 2 = .ok (.aload_n 0, 1) := by decide +kernel
theorem dL_withdraw_3 : decode cL_withdraw 3 = .ok (.iload_n 1, 1) := by decide +kernel
theorem dL_withdraw_4 : decode cL_withdraw 4 = .ok (.invokevirtual 21, 3) := by decide +kernel
theorem dL_withdraw_7 : decode cL_withdraw 7 = .ok (.ifCond .eq 7, 3) := by decide +kernel
theorem dL_withdraw_10 : decode cL_withdraw 10 = .ok (.lconst 1, 1) := by decide +kernel
theorem dL_withdraw_11 : decode cL_withdraw 11 = .ok (.goto 4, 3) := by decide +kernel
theorem dL_withdraw_14 : decode cL_withdraw 14 = .ok (.lconst 0, 1) := by decide +kernel
theorem dL_withdraw_15 : decode cL_withdraw 15 = .ok (.lastore, 1) := by decide +kernel
theorem dL_withdraw_16 : decode cL_withdraw 16 = .ok (.goto 6, 3) := by decide +kernel
theorem dL_withdraw_19 : decode cL_withdraw 19 = .ok (.astore_n 3, 1) := by decide +kernel
theorem dL_withdraw_20 : decode cL_withdraw 20 = .ok (.iconst 1, 1) := by decide +kernel
theorem dL_withdraw_21 : decode cL_withdraw 21 = .ok (.ireturn, 1) := by decide +kernel
theorem dL_withdraw_22 : decode cL_withdraw 22 = .ok (.iconst 0, 1) := by decide +kernel
theorem dL_withdraw_23 : decode cL_withdraw 23 = .ok (.ireturn, 1) := by decide +kernel
set_option maxRecDepth 20000 in
theorem ggL_factStands_X3_factStands : GoodIn wsL_factStands wsX3_factStands := goodIn_ca (goodIn_r _ [6, 7, 8, 9, 10, 5, 11, 12, 13, 14, 15, 16, 17, 18, 19, 20, 21, 22, 23, 24, 25, 26, 27, 28, 29, 30, 31, 32, 33, 34, 35, 36, 37, 38] (by decide +kernel) (by decide +kernel)) (goodIn_sub (fun _ h => List.mem_cons_of_mem _ (List.mem_append_right _ h)) (by decide +kernel))
set_option maxRecDepth 20000 in
theorem gL_factStands_X3_factStands : GoodIn wsL_factStands (wsV RL 24 RX3 yX3_factStands wsX3_factStands) := goodIn_app (goodIn_of _ (by decide +kernel)) ggL_factStands_X3_factStands
theorem dL_factStands_0 : decode cL_factStands 0 = .ok (.aload_n 2, 1) := by decide +kernel
theorem dL_factStands_1 : decode cL_factStands 1 = .ok (.iconst 0, 1) := by decide +kernel
theorem dL_factStands_2 : decode cL_factStands 2 = .ok (.aload_n 0, 1) := by decide +kernel
theorem dL_factStands_3 : decode cL_factStands 3 = .ok (.iload_n 1, 1) := by decide +kernel
theorem dL_factStands_4 : decode cL_factStands 4 = .ok (.invokevirtual 24, 3) := by decide +kernel
theorem dL_factStands_7 : decode cL_factStands 7 = .ok (.ifCond .eq 7, 3) := by decide +kernel
theorem dL_factStands_10 : decode cL_factStands 10 = .ok (.lconst 1, 1) := by decide +kernel
theorem dL_factStands_11 : decode cL_factStands 11 = .ok (.goto 4, 3) := by decide +kernel
theorem dL_factStands_14 : decode cL_factStands 14 = .ok (.lconst 0, 1) := by decide +kernel
theorem dL_factStands_15 : decode cL_factStands 15 = .ok (.lastore, 1) := by decide +kernel
theorem dL_factStands_16 : decode cL_factStands 16 = .ok (.goto 6, 3) := by decide +kernel
theorem dL_factStands_19 : decode cL_factStands 19 = .ok (.astore_n 3, 1) := by decide +kernel
theorem dL_factStands_20 : decode cL_factStands 20 = .ok (.iconst 1, 1) := by decide +kernel
theorem dL_factStands_21 : decode cL_factStands 21 = .ok (.ireturn, 1) := by decide +kernel
theorem dL_factStands_22 : decode cL_factStands 22 = .ok (.iconst 0, 1) := by decide +kernel
theorem dL_factStands_23 : decode cL_factStands 23 = .ok (.ireturn, 1) := by decide +kernel
set_option maxRecDepth 20000 in
theorem ggL_claim_X3_claim : GoodIn wsL_claim wsX3_claim := goodIn_ca (goodIn_ca (goodIn_r _ [7, 8, 9, 10, 11, 12, 13, 14, 15, 16, 17, 18, 19, 20, 21, 22, 23, 24, 25, 26, 27, 28, 29, 30, 31, 32, 33, 34, 35, 36, 37, 38, 39, 40, 41, 42, 43, 44, 45, 46, 47, 48, 49, 50, 51] (by decide +kernel) (by decide +kernel)) (goodIn_sub (fun _ h => List.mem_cons_of_mem _ (List.mem_append_left _ (List.mem_append_right _ h))) (by decide +kernel))) (goodIn_sub (fun _ h => List.mem_cons_of_mem _ (List.mem_append_right _ h)) (by decide +kernel))
set_option maxRecDepth 20000 in
theorem gL_claim_X3_claim : GoodIn wsL_claim (wsV RL 27 RX3 yX3_claim wsX3_claim) := goodIn_app (goodIn_of _ (by decide +kernel)) ggL_claim_X3_claim
theorem dL_claim_0 : decode cL_claim 0 = .ok (.aload_n 3, 1) := by decide +kernel
theorem dL_claim_1 : decode cL_claim 1 = .ok (.iconst 0, 1) := by decide +kernel
theorem dL_claim_2 : decode cL_claim 2 = .ok (.aload_n 0, 1) := by decide +kernel
theorem dL_claim_3 : decode cL_claim 3 = .ok (.iload_n 1, 1) := by decide +kernel
theorem dL_claim_4 : decode cL_claim 4 = .ok (.iload_n 2, 1) := by decide +kernel
theorem dL_claim_5 : decode cL_claim 5 = .ok (.invokevirtual 27, 3) := by decide +kernel
theorem dL_claim_8 : decode cL_claim 8 = .ok (.i2l, 1) := by decide +kernel
theorem dL_claim_9 : decode cL_claim 9 = .ok (.lastore, 1) := by decide +kernel
theorem dL_claim_10 : decode cL_claim 10 = .ok (.goto 11, 3) := by decide +kernel
theorem dL_claim_13 : decode cL_claim 13 = .ok (.astore 4, 2) := by decide +kernel
theorem dL_claim_15 : decode cL_claim 15 = .ok (.iconst 1, 1) := by decide +kernel
theorem dL_claim_16 : decode cL_claim 16 = .ok (.ireturn, 1) := by decide +kernel
theorem dL_claim_17 : decode cL_claim 17 = .ok (.astore 4, 2) := by decide +kernel
theorem dL_claim_19 : decode cL_claim 19 = .ok (.iconst 2, 1) := by decide +kernel
theorem dL_claim_20 : decode cL_claim 20 = .ok (.ireturn, 1) := by decide +kernel
theorem dL_claim_21 : decode cL_claim 21 = .ok (.iconst 0, 1) := by decide +kernel
theorem dL_claim_22 : decode cL_claim 22 = .ok (.ireturn, 1) := by decide +kernel
set_option maxRecDepth 20000 in
theorem ggL_rest_X3_rest : GoodIn wsL_rest wsX3_rest := goodIn_ca (goodIn_ca (goodIn_r _ [7, 8, 9, 10, 11, 6, 12, 13, 14, 15, 16, 17, 18, 19, 20, 21, 22, 23, 24, 25, 26, 27, 28, 29, 30, 31, 32, 33, 34, 35, 36, 37, 38, 39, 40, 41, 42, 43, 44, 45] (by decide +kernel) (by decide +kernel)) (goodIn_sub (fun _ h => List.mem_cons_of_mem _ (List.mem_append_left _ (List.mem_append_right _ h))) (by decide +kernel))) (goodIn_sub (fun _ h => List.mem_cons_of_mem _ (List.mem_append_right _ h)) (by decide +kernel))
set_option maxRecDepth 20000 in
theorem gL_rest_X3_rest : GoodIn wsL_rest (wsV RL 33 RX3 yX3_rest wsX3_rest) := goodIn_app (goodIn_of _ (by decide +kernel)) ggL_rest_X3_rest
theorem dL_rest_0 : decode cL_rest 0 = .ok (.aload_n 3, 1) := by decide +kernel
theorem dL_rest_1 : decode cL_rest 1 = .ok (.iconst 0, 1) := by decide +kernel
theorem dL_rest_2 : decode cL_rest 2 = .ok (.aload_n 0, 1) := by decide +kernel
theorem dL_rest_3 : decode cL_rest 3 = .ok (.iload_n 1, 1) := by decide +kernel
theorem dL_rest_4 : decode cL_rest 4 = .ok (.iload_n 2, 1) := by decide +kernel
theorem dL_rest_5 : decode cL_rest 5 = .ok (.invokevirtual 33, 3) := by decide +kernel
theorem dL_rest_8 : decode cL_rest 8 = .ok (.ifCond .eq 7, 3) := by decide +kernel
theorem dL_rest_11 : decode cL_rest 11 = .ok (.lconst 1, 1) := by decide +kernel
theorem dL_rest_12 : decode cL_rest 12 = .ok (.goto 4, 3) := by decide +kernel
theorem dL_rest_15 : decode cL_rest 15 = .ok (.lconst 0, 1) := by decide +kernel
theorem dL_rest_16 : decode cL_rest 16 = .ok (.lastore, 1) := by decide +kernel
theorem dL_rest_17 : decode cL_rest 17 = .ok (.goto 11, 3) := by decide +kernel
theorem dL_rest_20 : decode cL_rest 20 = .ok (.astore 4, 2) := by decide +kernel
theorem dL_rest_22 : decode cL_rest 22 = .ok (.iconst 1, 1) := by decide +kernel
theorem dL_rest_23 : decode cL_rest 23 = .ok (.ireturn, 1) := by decide +kernel
theorem dL_rest_24 : decode cL_rest 24 = .ok (.astore 4, 2) := by decide +kernel
theorem dL_rest_26 : decode cL_rest 26 = .ok (.iconst 2, 1) := by decide +kernel
theorem dL_rest_27 : decode cL_rest 27 = .ok (.ireturn, 1) := by decide +kernel
theorem dL_rest_28 : decode cL_rest 28 = .ok (.iconst 0, 1) := by decide +kernel
theorem dL_rest_29 : decode cL_rest 29 = .ok (.ireturn, 1) := by decide +kernel
set_option maxRecDepth 20000 in
theorem ggL_attack_X3_attack : GoodIn wsL_attack wsX3_attack := goodIn_ca (goodIn_ca (goodIn_r _ [7, 8, 9, 10, 11, 6, 12, 13, 14, 15, 16, 17, 18, 19, 20, 21, 22, 23, 24, 25, 26, 27, 28, 29, 30, 31, 32, 33, 34, 35, 36, 37, 38, 39, 40, 41, 42, 43, 44, 45] (by decide +kernel) (by decide +kernel)) (goodIn_sub (fun _ h => List.mem_cons_of_mem _ (List.mem_append_left _ (List.mem_append_right _ h))) (by decide +kernel))) (goodIn_sub (fun _ h => List.mem_cons_of_mem _ (List.mem_append_right _ h)) (by decide +kernel))
set_option maxRecDepth 20000 in
theorem gL_attack_X3_attack : GoodIn wsL_attack (wsV RL 37 RX3 yX3_attack wsX3_attack) := goodIn_app (goodIn_of _ (by decide +kernel)) ggL_attack_X3_attack
theorem dL_attack_0 : decode cL_attack 0 = .ok (.aload_n 3, 1) := by decide +kernel
theorem dL_attack_1 : decode cL_attack 1 = .ok (.iconst 0, 1) := by decide +kernel
theorem dL_attack_2 : decode cL_attack 2 = .ok (.aload_n 0, 1) := by decide +kernel
theorem dL_attack_3 : decode cL_attack 3 = .ok (.iload_n 1, 1) := by decide +kernel
theorem dL_attack_4 : decode cL_attack 4 = .ok (.iload_n 2, 1) := by decide +kernel
theorem dL_attack_5 : decode cL_attack 5 = .ok (.invokevirtual 37, 3) := by decide +kernel
theorem dL_attack_8 : decode cL_attack 8 = .ok (.ifCond .eq 7, 3) := by decide +kernel
theorem dL_attack_11 : decode cL_attack 11 = .ok (.lconst 1, 1) := by decide +kernel
theorem dL_attack_12 : decode cL_attack 12 = .ok (.goto 4, 3) := by decide +kernel
theorem dL_attack_15 : decode cL_attack 15 = .ok (.lconst 0, 1) := by decide +kernel
theorem dL_attack_16 : decode cL_attack 16 = .ok (.lastore, 1) := by decide +kernel
theorem dL_attack_17 : decode cL_attack 17 = .ok (.goto 11, 3) := by decide +kernel
theorem dL_attack_20 : decode cL_attack 20 = .ok (.astore 4, 2) := by decide +kernel
theorem dL_attack_22 : decode cL_attack 22 = .ok (.iconst 1, 1) := by decide +kernel
theorem dL_attack_23 : decode cL_attack 23 = .ok (.ireturn, 1) := by decide +kernel
theorem dL_attack_24 : decode cL_attack 24 = .ok (.astore 4, 2) := by decide +kernel
theorem dL_attack_26 : decode cL_attack 26 = .ok (.iconst 2, 1) := by decide +kernel
theorem dL_attack_27 : decode cL_attack 27 = .ok (.ireturn, 1) := by decide +kernel
theorem dL_attack_28 : decode cL_attack 28 = .ok (.iconst 0, 1) := by decide +kernel
theorem dL_attack_29 : decode cL_attack 29 = .ok (.ireturn, 1) := by decide +kernel
set_option maxRecDepth 20000 in
theorem ggL_playerOf_X3_playerOf : GoodIn wsL_playerOf wsX3_playerOf := goodIn_ca (goodIn_r _ [6, 7, 8, 9, 10, 5, 11, 12, 13, 14, 15, 16, 17, 18, 19, 20, 21, 22, 23, 24, 25, 26, 27, 28, 29, 30, 31, 32, 33, 34, 35, 36] (by decide +kernel) (by decide +kernel)) (goodIn_sub (fun _ h => List.mem_cons_of_mem _ (List.mem_append_right _ h)) (by decide +kernel))
set_option maxRecDepth 20000 in
theorem gL_playerOf_X3_playerOf : GoodIn wsL_playerOf (wsV RL 40 RX3 yX3_playerOf wsX3_playerOf) := goodIn_app (goodIn_of _ (by decide +kernel)) ggL_playerOf_X3_playerOf
theorem dL_playerOf_0 : decode cL_playerOf 0 = .ok (.aload_n 2, 1) := by decide +kernel
theorem dL_playerOf_1 : decode cL_playerOf 1 = .ok (.iconst 0, 1) := by decide +kernel
theorem dL_playerOf_2 : decode cL_playerOf 2 = .ok (.aload_n 0, 1) := by decide +kernel
theorem dL_playerOf_3 : decode cL_playerOf 3 = .ok (.iload_n 1, 1) := by decide +kernel
theorem dL_playerOf_4 : decode cL_playerOf 4 = .ok (.invokevirtual 40, 3) := by decide +kernel
theorem dL_playerOf_7 : decode cL_playerOf 7 = .ok (.i2l, 1) := by decide +kernel
theorem dL_playerOf_8 : decode cL_playerOf 8 = .ok (.lastore, 1) := by decide +kernel
theorem dL_playerOf_9 : decode cL_playerOf 9 = .ok (.goto 6, 3) := by decide +kernel
theorem dL_playerOf_12 : decode cL_playerOf 12 = .ok (.astore_n 3, 1) := by decide +kernel
theorem dL_playerOf_13 : decode cL_playerOf 13 = .ok (.iconst 1, 1) := by decide +kernel
theorem dL_playerOf_14 : decode cL_playerOf 14 = .ok (.ireturn, 1) := by decide +kernel
theorem dL_playerOf_15 : decode cL_playerOf 15 = .ok (.iconst 0, 1) := by decide +kernel
theorem dL_playerOf_16 : decode cL_playerOf 16 = .ok (.ireturn, 1) := by decide +kernel
set_option maxRecDepth 20000 in
theorem ggL_bank_X3_bank : GoodIn wsL_bank wsX3_bank := goodIn_ca (goodIn_r _ [6, 7, 8, 9, 10, 5, 11, 12, 13, 14, 15, 16, 17, 18, 19, 20, 21, 22, 23, 24, 25, 26, 27, 28, 29, 30, 31] (by decide +kernel) (by decide +kernel)) (goodIn_sub (fun _ h => List.mem_cons_of_mem _ (List.mem_append_right _ h)) (by decide +kernel))
set_option maxRecDepth 20000 in
theorem gL_bank_X3_bank : GoodIn wsL_bank (wsV RL 43 RX3 yX3_bank wsX3_bank) := goodIn_app (goodIn_of _ (by decide +kernel)) ggL_bank_X3_bank
theorem dL_bank_0 : decode cL_bank 0 = .ok (.aload_n 2, 1) := by decide +kernel
theorem dL_bank_1 : decode cL_bank 1 = .ok (.iconst 0, 1) := by decide +kernel
theorem dL_bank_2 : decode cL_bank 2 = .ok (.aload_n 0, 1) := by decide +kernel
theorem dL_bank_3 : decode cL_bank 3 = .ok (.iload_n 1, 1) := by decide +kernel
theorem dL_bank_4 : decode cL_bank 4 = .ok (.invokevirtual 43, 3) := by decide +kernel
theorem dL_bank_7 : decode cL_bank 7 = .ok (.i2l, 1) := by decide +kernel
theorem dL_bank_8 : decode cL_bank 8 = .ok (.lastore, 1) := by decide +kernel
theorem dL_bank_9 : decode cL_bank 9 = .ok (.goto 6, 3) := by decide +kernel
theorem dL_bank_12 : decode cL_bank 12 = .ok (.astore_n 3, 1) := by decide +kernel
theorem dL_bank_13 : decode cL_bank 13 = .ok (.iconst 1, 1) := by decide +kernel
theorem dL_bank_14 : decode cL_bank 14 = .ok (.ireturn, 1) := by decide +kernel
theorem dL_bank_15 : decode cL_bank 15 = .ok (.iconst 0, 1) := by decide +kernel
theorem dL_bank_16 : decode cL_bank 16 = .ok (.ireturn, 1) := by decide +kernel
set_option maxRecDepth 20000 in
theorem ggL_stateOf_X3_stateOf : GoodIn wsL_stateOf wsX3_stateOf := goodIn_ca (goodIn_r _ [6, 7, 8, 9, 10, 11, 5, 12, 13, 14, 15, 16, 17, 18, 19, 20, 21, 22, 23, 24, 25, 26, 27, 28, 29, 30, 31, 32, 33, 34, 35, 36, 37, 38, 39, 40, 41, 42, 43, 44, 45, 46, 47, 48, 49, 50, 51, 52, 53, 54, 55, 56, 57, 58, 59, 60, 61, 62, 63, 64, 65, 66, 67, 68, 69, 70, 71, 72, 73, 74, 75, 76, 77, 78, 79, 80, 81, 82, 83, 84, 85, 86, 87, 88, 89, 90, 91, 92, 93, 94, 95, 96, 97, 98, 99, 100, 101] (by decide +kernel) (by decide +kernel)) (goodIn_sub (fun _ h => List.mem_cons_of_mem _ (List.mem_append_right _ h)) (by decide +kernel))
set_option maxRecDepth 20000 in
theorem gL_stateOf_X3_stateOf : GoodIn wsL_stateOf (wsV RL 46 RX3 yX3_stateOf wsX3_stateOf) := goodIn_app (goodIn_of _ (by decide +kernel)) ggL_stateOf_X3_stateOf
theorem dL_stateOf_0 : decode cL_stateOf 0 = .ok (.aload_n 2, 1) := by decide +kernel
theorem dL_stateOf_1 : decode cL_stateOf 1 = .ok (.iconst 0, 1) := by decide +kernel
theorem dL_stateOf_2 : decode cL_stateOf 2 = .ok (.aload_n 0, 1) := by decide +kernel
theorem dL_stateOf_3 : decode cL_stateOf 3 = .ok (.iload_n 1, 1) := by decide +kernel
theorem dL_stateOf_4 : decode cL_stateOf 4 = .ok (.invokevirtual 46, 3) := by decide +kernel
theorem dL_stateOf_7 : decode cL_stateOf 7 = .ok (.i2l, 1) := by decide +kernel
theorem dL_stateOf_8 : decode cL_stateOf 8 = .ok (.lastore, 1) := by decide +kernel
theorem dL_stateOf_9 : decode cL_stateOf 9 = .ok (.goto 6, 3) := by decide +kernel
theorem dL_stateOf_12 : decode cL_stateOf 12 = .ok (.astore_n 3, 1) := by decide +kernel
theorem dL_stateOf_13 : decode cL_stateOf 13 = .ok (.iconst 1, 1) := by decide +kernel
theorem dL_stateOf_14 : decode cL_stateOf 14 = .ok (.ireturn, 1) := by decide +kernel
theorem dL_stateOf_15 : decode cL_stateOf 15 = .ok (.iconst 0, 1) := by decide +kernel
theorem dL_stateOf_16 : decode cL_stateOf 16 = .ok (.ireturn, 1) := by decide +kernel
set_option maxRecDepth 20000 in
theorem ggL_stateByRounds_X3_stateByRounds : GoodIn wsL_stateByRounds wsX3_stateByRounds := goodIn_ca (goodIn_r _ [6, 7, 8, 9, 10, 11, 5, 12, 13, 14, 15, 16, 17, 18, 19, 20, 21, 22, 23, 24, 25, 26, 27, 28, 29, 30, 31, 32, 33, 34, 35, 36, 37, 38, 39, 40, 41, 42, 43, 44, 45, 46, 47, 48, 49, 50, 51, 52, 53, 54, 55, 56, 57, 58, 59, 60, 61, 62, 63, 64, 65, 66, 67, 68, 69, 70, 71, 72, 73, 74, 75, 76, 77, 78, 79, 80, 81, 82, 83, 84, 85, 86, 87, 88] (by decide +kernel) (by decide +kernel)) (goodIn_sub (fun _ h => List.mem_cons_of_mem _ (List.mem_append_right _ h)) (by decide +kernel))
set_option maxRecDepth 20000 in
theorem gL_stateByRounds_X3_stateByRounds : GoodIn wsL_stateByRounds (wsV RL 49 RX3 yX3_stateByRounds wsX3_stateByRounds) := goodIn_app (goodIn_of _ (by decide +kernel)) ggL_stateByRounds_X3_stateByRounds
theorem dL_stateByRounds_0 : decode cL_stateByRounds 0 = .ok (.aload_n 2, 1) := by decide +kernel
theorem dL_stateByRounds_1 : decode cL_stateByRounds 1 = .ok (.iconst 0, 1) := by decide +kernel
theorem dL_stateByRounds_2 : decode cL_stateByRounds 2 = .ok (.aload_n 0, 1) := by decide +kernel
theorem dL_stateByRounds_3 : decode cL_stateByRounds 3 = .ok (.iload_n 1, 1) := by decide +kernel
theorem dL_stateByRounds_4 : decode cL_stateByRounds 4 = .ok (.invokevirtual 49, 3) := by decide +kernel
theorem dL_stateByRounds_7 : decode cL_stateByRounds 7 = .ok (.i2l, 1) := by decide +kernel
theorem dL_stateByRounds_8 : decode cL_stateByRounds 8 = .ok (.lastore, 1) := by decide +kernel
theorem dL_stateByRounds_9 : decode cL_stateByRounds 9 = .ok (.goto 6, 3) := by decide +kernel
theorem dL_stateByRounds_12 : decode cL_stateByRounds 12 = .ok (.astore_n 3, 1) := by decide +kernel
theorem dL_stateByRounds_13 : decode cL_stateByRounds 13 = .ok (.iconst 1, 1) := by decide +kernel
theorem dL_stateByRounds_14 : decode cL_stateByRounds 14 = .ok (.ireturn, 1) := by decide +kernel
theorem dL_stateByRounds_15 : decode cL_stateByRounds 15 = .ok (.iconst 0, 1) := by decide +kernel
theorem dL_stateByRounds_16 : decode cL_stateByRounds 16 = .ok (.ireturn, 1) := by decide +kernel
set_option maxRecDepth 20000 in
theorem ggL_score_X3_score : GoodIn wsL_score wsX3_score := goodIn_ca (goodIn_r _ [6, 7, 8, 9, 10, 5, 11, 12, 13, 14, 15, 16, 17, 18, 19, 20, 21, 22, 23, 24, 25, 26, 27, 28, 29, 30, 31, 32, 33, 34, 35, 36, 37, 38, 39, 40, 41, 42, 43, 44, 45, 46, 47, 48, 49, 50, 51, 52, 53, 54, 55, 56, 57, 58, 59, 60, 61, 62, 63, 64, 65, 66, 67, 68, 69, 70, 71, 72, 73, 74, 75, 76, 77, 78, 79, 80, 81, 82, 83, 84, 85, 86, 87, 88, 89, 90, 91, 92, 93, 94, 95, 96, 97, 98, 99, 100, 101, 102, 103, 104, 105, 106, 107, 108, 109] (by decide +kernel) (by decide +kernel)) (goodIn_sub (fun _ h => List.mem_cons_of_mem _ (List.mem_append_right _ h)) (by decide +kernel))
set_option maxRecDepth 20000 in
theorem gL_score_X3_score : GoodIn wsL_score (wsV RL 52 RX3 yX3_score wsX3_score) := goodIn_app (goodIn_of _ (by decide +kernel)) ggL_score_X3_score
theorem dL_score_0 : decode cL_score 0 = .ok (.aload_n 2, 1) := by decide +kernel
theorem dL_score_1 : decode cL_score 1 = .ok (.iconst 0, 1) := by decide +kernel
theorem dL_score_2 : decode cL_score 2 = .ok (.aload_n 0, 1) := by decide +kernel
theorem dL_score_3 : decode cL_score 3 = .ok (.iload_n 1, 1) := by decide +kernel
theorem dL_score_4 : decode cL_score 4 = .ok (.invokevirtual 52, 3) := by decide +kernel
theorem dL_score_7 : decode cL_score 7 = .ok (.i2l, 1) := by decide +kernel
theorem dL_score_8 : decode cL_score 8 = .ok (.lastore, 1) := by decide +kernel
theorem dL_score_9 : decode cL_score 9 = .ok (.goto 6, 3) := by decide +kernel
theorem dL_score_12 : decode cL_score 12 = .ok (.astore_n 3, 1) := by decide +kernel
theorem dL_score_13 : decode cL_score 13 = .ok (.iconst 1, 1) := by decide +kernel
theorem dL_score_14 : decode cL_score 14 = .ok (.ireturn, 1) := by decide +kernel
theorem dL_score_15 : decode cL_score 15 = .ok (.iconst 0, 1) := by decide +kernel
theorem dL_score_16 : decode cL_score 16 = .ok (.ireturn, 1) := by decide +kernel
set_option maxRecDepth 20000 in
theorem ggL_scoreWithout_X3_scoreWithout : GoodIn wsL_scoreWithout wsX3_scoreWithout := goodIn_ca (goodIn_r _ [6, 7, 8, 9, 10, 5, 11, 12, 13, 14, 15, 16, 17, 18, 19, 20, 21, 22, 23, 24, 25, 26, 27, 28, 29, 30, 31, 32, 33, 34, 35, 36, 37, 38, 39, 40, 41, 42, 43, 44, 45, 46, 47, 48, 49, 50, 51, 52, 53, 54, 55, 56, 57, 58, 59, 60, 61, 62, 63, 64, 65, 66, 67, 68, 69, 70, 71, 72, 73, 74, 75, 76, 77, 78, 79, 80, 81, 82, 83, 84, 85, 86, 87, 88, 89, 90, 91, 92, 93, 94, 95, 96, 97, 98, 99, 100, 101, 102, 103, 104, 105, 106, 107, 108, 109, 110, 111, 112, 113, 114, 115, 116, 117, 118, 119, 120] (by decide +kernel) (by decide +kernel)) (goodIn_sub (fun _ h => List.mem_cons_of_mem _ (List.mem_append_right _ h)) (by decide +kernel))
set_option maxRecDepth 20000 in
theorem gL_scoreWithout_X3_scoreWithout : GoodIn wsL_scoreWithout (wsV RL 55 RX3 yX3_scoreWithout wsX3_scoreWithout) := goodIn_app (goodIn_of _ (by decide +kernel)) ggL_scoreWithout_X3_scoreWithout
theorem dL_scoreWithout_0 : decode cL_scoreWithout 0 = .ok (.aload_n 3, 1) := by decide +kernel
theorem dL_scoreWithout_1 : decode cL_scoreWithout 1 = .ok (.iconst 0, 1) := by decide +kernel
theorem dL_scoreWithout_2 : decode cL_scoreWithout 2 = .ok (.aload_n 0, 1) := by decide +kernel
theorem dL_scoreWithout_3 : decode cL_scoreWithout 3 = .ok (.iload_n 1, 1) := by decide +kernel
theorem dL_scoreWithout_4 : decode cL_scoreWithout 4 = .ok (.iload_n 2, 1) := by decide +kernel
theorem dL_scoreWithout_5 : decode cL_scoreWithout 5 = .ok (.invokevirtual 55, 3) := by decide +kernel
theorem dL_scoreWithout_8 : decode cL_scoreWithout 8 = .ok (.i2l, 1) := by decide +kernel
theorem dL_scoreWithout_9 : decode cL_scoreWithout 9 = .ok (.lastore, 1) := by decide +kernel
theorem dL_scoreWithout_10 : decode cL_scoreWithout 10 = .ok (.goto 7, 3) := by decide +kernel
theorem dL_scoreWithout_13 : decode cL_scoreWithout 13 = .ok (.astore 4, 2) := by decide +kernel
theorem dL_scoreWithout_15 : decode cL_scoreWithout 15 = .ok (.iconst 1, 1) := by decide +kernel
theorem dL_scoreWithout_16 : decode cL_scoreWithout 16 = .ok (.ireturn, 1) := by decide +kernel
theorem dL_scoreWithout_17 : decode cL_scoreWithout 17 = .ok (.iconst 0, 1) := by decide +kernel
theorem dL_scoreWithout_18 : decode cL_scoreWithout 18 = .ok (.ireturn, 1) := by decide +kernel
set_option maxRecDepth 20000 in
theorem ggL_keyFact_X3_keyFact : GoodIn wsL_keyFact wsX3_keyFact := goodIn_ca (goodIn_r _ [6, 7, 8, 9, 10, 5, 11, 12, 13, 14, 15, 16, 17, 18, 19, 20, 21, 22, 23, 24, 25, 26, 27, 28, 29, 30, 31, 32, 33, 34, 35, 36, 37, 38, 39, 40, 41, 42, 43, 44, 45, 46, 47, 48, 49, 50, 51, 52, 53, 54, 55, 56, 57, 58, 59, 60, 61, 62, 63, 64, 65, 66, 67, 68, 69, 70, 71, 72, 73, 74, 75, 76, 77, 78, 79, 80, 81, 82, 83, 84, 85, 86, 87, 88, 89, 90, 91, 92, 93, 94, 95, 96, 97, 98, 99, 100, 101, 102, 103, 104, 105, 106, 107, 108, 109, 110, 111, 112, 113] (by decide +kernel) (by decide +kernel)) (goodIn_sub (fun _ h => List.mem_cons_of_mem _ (List.mem_append_right _ h)) (by decide +kernel))
set_option maxRecDepth 20000 in
theorem gL_keyFact_X3_keyFact : GoodIn wsL_keyFact (wsV RL 58 RX3 yX3_keyFact wsX3_keyFact) := goodIn_app (goodIn_of _ (by decide +kernel)) ggL_keyFact_X3_keyFact
theorem dL_keyFact_0 : decode cL_keyFact 0 = .ok (.aload_n 2, 1) := by decide +kernel
theorem dL_keyFact_1 : decode cL_keyFact 1 = .ok (.iconst 0, 1) := by decide +kernel
theorem dL_keyFact_2 : decode cL_keyFact 2 = .ok (.aload_n 0, 1) := by decide +kernel
theorem dL_keyFact_3 : decode cL_keyFact 3 = .ok (.iload_n 1, 1) := by decide +kernel
theorem dL_keyFact_4 : decode cL_keyFact 4 = .ok (.invokevirtual 58, 3) := by decide +kernel
theorem dL_keyFact_7 : decode cL_keyFact 7 = .ok (.i2l, 1) := by decide +kernel
theorem dL_keyFact_8 : decode cL_keyFact 8 = .ok (.lastore, 1) := by decide +kernel
theorem dL_keyFact_9 : decode cL_keyFact 9 = .ok (.goto 6, 3) := by decide +kernel
theorem dL_keyFact_12 : decode cL_keyFact 12 = .ok (.astore_n 3, 1) := by decide +kernel
theorem dL_keyFact_13 : decode cL_keyFact 13 = .ok (.iconst 1, 1) := by decide +kernel
theorem dL_keyFact_14 : decode cL_keyFact 14 = .ok (.ireturn, 1) := by decide +kernel
theorem dL_keyFact_15 : decode cL_keyFact 15 = .ok (.iconst 0, 1) := by decide +kernel
theorem dL_keyFact_16 : decode cL_keyFact 16 = .ok (.ireturn, 1) := by decide +kernel
set_option maxRecDepth 20000 in
theorem ggL_reputation_X3_reputation : GoodIn wsL_reputation wsX3_reputation := goodIn_ca (goodIn_r _ [6, 7, 8, 9, 10, 5, 11, 12, 13, 14, 15, 16, 17, 18] (by decide +kernel) (by decide +kernel)) (goodIn_sub (fun _ h => List.mem_cons_of_mem _ (List.mem_append_right _ h)) (by decide +kernel))
set_option maxRecDepth 20000 in
theorem gL_reputation_X3_reputation : GoodIn wsL_reputation (wsV RL 61 RX3 yX3_reputation wsX3_reputation) := goodIn_app (goodIn_of _ (by decide +kernel)) ggL_reputation_X3_reputation
theorem dL_reputation_0 : decode cL_reputation 0 = .ok (.aload_n 2, 1) := by decide +kernel
theorem dL_reputation_1 : decode cL_reputation 1 = .ok (.iconst 0, 1) := by decide +kernel
theorem dL_reputation_2 : decode cL_reputation 2 = .ok (.aload_n 0, 1) := by decide +kernel
theorem dL_reputation_3 : decode cL_reputation 3 = .ok (.iload_n 1, 1) := by decide +kernel
theorem dL_reputation_4 : decode cL_reputation 4 = .ok (.invokevirtual 61, 3) := by decide +kernel
theorem dL_reputation_7 : decode cL_reputation 7 = .ok (.i2l, 1) := by decide +kernel
theorem dL_reputation_8 : decode cL_reputation 8 = .ok (.lastore, 1) := by decide +kernel
theorem dL_reputation_9 : decode cL_reputation 9 = .ok (.goto 6, 3) := by decide +kernel
theorem dL_reputation_12 : decode cL_reputation 12 = .ok (.astore_n 3, 1) := by decide +kernel
theorem dL_reputation_13 : decode cL_reputation 13 = .ok (.iconst 1, 1) := by decide +kernel
theorem dL_reputation_14 : decode cL_reputation 14 = .ok (.ireturn, 1) := by decide +kernel
theorem dL_reputation_15 : decode cL_reputation 15 = .ok (.iconst 0, 1) := by decide +kernel
theorem dL_reputation_16 : decode cL_reputation 16 = .ok (.ireturn, 1) := by decide +kernel
end
section
/-! ===== what the methods compute, as functions ===== -/
theorem bt_t {s : Int32} {j : Nat} (hj : j < 32) (h : ¬ (s &&& m1 j) = 0) : bt s j = true := by
  cases e : bt s j with
  | true => rfl
  | false => exact absurd ((bt_and0 hj).mpr e) h
section OURS2
variable {p : Program} {l : Launch} {e : Env} {R : Room} {s : State} {m : MethodId} {args : Array Value} {below : List Frame} {meth : Method} {c : Code} {H : Heap} {locs : List Loc} {cells slots : Nat} {Q : State → Prop}
variable {cc : ByteArray} {pc : Nat} {ls : Array Slot} {rest : List Value} {E : gE} {A : Nat → Prop} {H0 : Heap} {ws : va_W} {a : Nat}
theorem k_ialdN (hexec : p.tables.exec = Jvm.exec) (hb : c.code = cc) (hK : kS E s) (hP : va_P E.1 vwCl ws H) (q0 : Nat) {N : Nat} {f : Nat → Nat} (j : Nat) (ha : ws[q0]? = some (a, .inl (E.2.1, N, .inl (fun i => nI (f i))))) (hj : j < N) (hN : N < 2 ^ 31) (hdg : decode cc pc = .ok (.iaload, 1))
    (kk : W p l e R s m args below meth c H locs cells slots Q (F0 m (pc + 1) ls (.int (nI (f j)) :: rest))) : W p l e R s m args below meth c H locs cells slots Q (F0 m pc ls (.int (nI j) :: .ref a :: rest)) := k_iald hexec hb hK hP q0 j ha hj hN hdg kk
theorem k_zaldB (hexec : p.tables.exec = Jvm.exec) (hb : c.code = cc) (hK : kS E s) (hP : va_P E.1 vwCl ws H) (q0 : Nat) {N : Nat} {f : Nat → Bool} (j : Nat) (ha : ws[q0]? = some (a, .inl (E.2.2.1, N, .inl (fun i => zI (f i))))) (hj : j < N) (hN : N < 2 ^ 31) (hdg : decode cc pc = .ok (.baload, 1))
    (kk : W p l e R s m args below meth c H locs cells slots Q (F0 m (pc + 1) ls (.int (zI (f j)) :: rest))) : W p l e R s m args below meth c H locs cells slots Q (F0 m pc ls (.int (nI j) :: .ref a :: rest)) := k_zald hexec hb hK hP q0 j ha hj hN hdg kk
end OURS2
def hasF (f : Int32) (n : Nat) : Bool := !(decide (f < 0)) && !(decide (m1 n ≤ f))
/-- the facts that stand, of the first k -/
def stC (src : Nat → Nat) (wd fl : Int32) : Nat → Int32
  | 0 => 0
  | k + 1 => if bt wd k || bt fl (src k) then stC src wd fl k else stC src wd fl k ||| m1 k
def nx (sp : Nat) : Nat := if 2 ≤ sp then 0 else sp + 1
def fA (gf gc ak : Nat → Int32) (c : Nat) (S I O : Int32) : Bool := !(decide (gf c &&& (S ^^^ (-1)) = 0)) || !(decide (gc c &&& O = 0)) || !(decide (ak c &&& I = 0))
def hO (gf gc ak : Nat → Int32) (c : Nat) (S I O : Int32) : Bool := decide (gf c &&& (S ^^^ (-1)) = 0) && decide (gc c &&& (I ^^^ (-1)) = 0) && decide (ak c &&& (O ^^^ (-1)) = 0)
def ilF (gf : Nat → Int32) (S : Int32) : Nat → Int32
  | 0 => 0
  | k + 1 => if gf k &&& (S ^^^ (-1)) = 0 then ilF gf S k else ilF gf S k ||| m1 k
def cnF (ow : Nat → Nat) (p : Nat) (x : Int32) : Nat → Nat
  | 0 => 0
  | k + 1 => if ow k = p ∧ bt x k = true then cnF ow p x k + 1 else cnF ow p x k
theorem cnF_le (ow : Nat → Nat) (p : Nat) (x : Int32) : ∀ k, cnF ow p x k ≤ k
  | 0 => Nat.le_refl 0
  | k + 1 => by
    have h := cnF_le ow p x k
    unfold cnF
    by_cases c : ow k = p ∧ bt x k = true
    · rw [if_pos c]; omega
    · rw [if_neg c]; omega
/-- one claim is looked at: whether it was decided now, and the sets -/
def dR (gf gc ak : Nat → Int32) (S : Int32) (c : Nat) (I O : Int32) : Bool × Int32 × Int32 :=
  if bt (I ||| O) c = true then (false, I, O) else if fA gf gc ak c S I O = true then (true, I, O ||| m1 c) else if hO gf gc ak c S I O = true then (true, I ||| m1 c, O) else (false, I, O)
section DR
variable {gf gc ak : Nat → Int32} {S I O : Int32} {c : Nat}
theorem dR_a (h : bt (I ||| O) c = true) : dR gf gc ak S c I O = (false, I, O) := if_pos h
theorem dR_b (h : bt (I ||| O) c = false) (h1 : fA gf gc ak c S I O = true) : dR gf gc ak S c I O = (true, I, O ||| m1 c) := by unfold dR; rw [h, h1]; rfl
theorem dR_c (h : bt (I ||| O) c = false) (h1 : fA gf gc ak c S I O = false) (h2 : hO gf gc ak c S I O = true) : dR gf gc ak S c I O = (true, I ||| m1 c, O) := by unfold dR; rw [h, h1, h2]; rfl
theorem dR_d (h : bt (I ||| O) c = false) (h1 : fA gf gc ak c S I O = false) (h2 : hO gf gc ak c S I O = false) : dR gf gc ak S c I O = (false, I, O) := by unfold dR; rw [h, h1, h2]; rfl
end DR
/-- queue, how many, the claims IN, the claims OUT -/
abbrev jT : Type := (Nat → Nat) × Nat × Int32 × Int32
def dQ (gf gc ak : Nat → Int32) (S : Int32) (c : Nat) (j : jT) : jT :=
  if (dR gf gc ak S c j.2.2.1 j.2.2.2).1 = true ∧ j.2.1 < 16 then (upN j.1 j.2.1 c, j.2.1 + 1, (dR gf gc ak S c j.2.2.1 j.2.2.2).2.1, (dR gf gc ak S c j.2.2.1 j.2.2.2).2.2)
  else (j.1, j.2.1, (dR gf gc ak S c j.2.2.1 j.2.2.2).2.1, (dR gf gc ak S c j.2.2.1 j.2.2.2).2.2)
section DQ
variable {gf gc ak : Nat → Int32} {S I O : Int32} {c qn : Nat} {qu : Nat → Nat}
theorem dQ_a (h : (dR gf gc ak S c I O).1 = false) : dQ gf gc ak S c (qu, qn, I, O) = (qu, qn, (dR gf gc ak S c I O).2.1, (dR gf gc ak S c I O).2.2) := if_neg (fun z => by rw [show (dR gf gc ak S c I O).1 = false from h] at z; exact absurd z.1 (by decide))
theorem dQ_b (h : 16 ≤ qn) : dQ gf gc ak S c (qu, qn, I, O) = (qu, qn, (dR gf gc ak S c I O).2.1, (dR gf gc ak S c I O).2.2) := if_neg (fun z => absurd z.2 (Nat.not_lt.mpr h))
theorem dQ_c (h : (dR gf gc ak S c I O).1 = true) (h2 : qn < 16) : dQ gf gc ak S c (qu, qn, I, O) = (upN qu qn c, qn + 1, (dR gf gc ak S c I O).2.1, (dR gf gc ak S c I O).2.2) := if_pos ⟨h, h2⟩
theorem dQ_le {j : jT} (h : j.2.1 ≤ 16) : (dQ gf gc ak S c j).2.1 ≤ 16 := by
  unfold dQ
  by_cases z : (dR gf gc ak S c j.2.2.1 j.2.2.2).1 = true ∧ j.2.1 < 16
  · rw [if_pos z]; exact z.2
  · rw [if_neg z]; exact h
theorem dQ_lt {j : jT} (hc : c < 16) (h : ∀ i, i < j.2.1 → j.1 i < 16) : ∀ i, i < (dQ gf gc ak S c j).2.1 → (dQ gf gc ak S c j).1 i < 16 := by
  unfold dQ
  by_cases z : (dR gf gc ak S c j.2.2.1 j.2.2.2).1 = true ∧ j.2.1 < 16
  · rw [if_pos z]
    intro i hi
    show (if i = j.2.1 then c else j.1 i) < 16
    by_cases e : i = j.2.1
    · rw [if_pos e]; exact hc
    · rw [if_neg e]; exact h i (by have : i < j.2.1 + 1 := hi; omega)
  · rw [if_neg z]; exact h
end DQ
def gO (gf gc ak : Nat → Int32) (S : Int32) (d : Nat) (j : jT) : Nat → jT
  | 0 => j
  | k + 1 => if bt (gc k ||| ak k) d = true then dQ gf gc ak S k (gO gf gc ak S d j k) else gO gf gc ak S d j k
section GO
variable {gf gc ak : Nat → Int32} {S : Int32} {d : Nat} {j : jT}
theorem gO_t {k : Nat} (h : bt (gc k ||| ak k) d = true) : gO gf gc ak S d j (k + 1) = dQ gf gc ak S k (gO gf gc ak S d j k) := if_pos h
theorem gO_f {k : Nat} (h : bt (gc k ||| ak k) d = false) : gO gf gc ak S d j (k + 1) = gO gf gc ak S d j k := if_neg (by rw [h]; decide)
theorem gO_le (h : j.2.1 ≤ 16) : ∀ k, (gO gf gc ak S d j k).2.1 ≤ 16
  | 0 => h
  | k + 1 => by
    cases c : bt (gc k ||| ak k) d with
    | true => rw [gO_t c]; exact dQ_le (gO_le h k)
    | false => rw [gO_f c]; exact gO_le h k
theorem gO_lt (h : ∀ i, i < j.2.1 → j.1 i < 16) : ∀ k, k ≤ 16 → ∀ i, i < (gO gf gc ak S d j k).2.1 → (gO gf gc ak S d j k).1 i < 16
  | 0, _ => h
  | k + 1, hk => by
    cases c : bt (gc k ||| ak k) d with
    | true => rw [gO_t c]; exact dQ_lt (by omega) (gO_lt h k (by omega))
    | false => rw [gO_f c]; exact gO_lt h k (by omega)
end GO
def aQ (gf gc ak : Nat → Int32) (S : Int32) (qu : Nat → Nat) : Nat → jT
  | 0 => (qu, 0, 0, 0)
  | k + 1 => dQ gf gc ak S k (aQ gf gc ak S qu k)
theorem aQ_le (gf gc ak : Nat → Int32) (S : Int32) (qu : Nat → Nat) : ∀ k, (aQ gf gc ak S qu k).2.1 ≤ 16
  | 0 => Nat.zero_le _
  | k + 1 => dQ_le (aQ_le gf gc ak S qu k)
theorem aQ_lt (gf gc ak : Nat → Int32) (S : Int32) (qu : Nat → Nat) : ∀ k, k ≤ 16 → ∀ i, i < (aQ gf gc ak S qu k).2.1 → (aQ gf gc ak S qu k).1 i < 16
  | 0, _ => fun i h => absurd h (Nat.not_lt_zero i)
  | k + 1, hk => dQ_lt (by omega) (aQ_lt gf gc ak S qu k (by omega))
def hQ (gf gc ak : Nat → Int32) (S : Int32) (n : Nat) : Nat → Nat → jT → jT
  | 0, _, j => j
  | f + 1, h, j => if h < j.2.1 then hQ gf gc ak S n f (h + 1) (gO gf gc ak S (j.1 h) j n) else j
section HQ
variable {gf gc ak : Nat → Int32} {S : Int32} {n : Nat}
theorem hQ_stop {f h : Nat} {j : jT} (z : j.2.1 ≤ h) : hQ gf gc ak S n f h j = j := by
  cases f with
  | zero => rfl
  | succ f => exact if_neg (Nat.not_lt.mpr z)
theorem hQ_end {h : Nat} {j : jT} (z : 16 ≤ h) : hQ gf gc ak S n (16 - h) h j = j := by rw [show 16 - h = 0 from by omega]; rfl
theorem hQ_go {h : Nat} {j : jT} (z : h < j.2.1) (z2 : h < 16) : hQ gf gc ak S n (16 - h) h j = hQ gf gc ak S n (16 - (h + 1)) (h + 1) (gO gf gc ak S (j.1 h) j n) := by
  rw [show 16 - h = (16 - (h + 1)) + 1 from by omega]
  exact if_pos z
end HQ
def jG (gf gc ak : Nat → Int32) (S : Int32) (n : Nat) (qu : Nat → Nat) : jT := hQ gf gc ak S n 16 0 (aQ gf gc ak S qu n)
/-- a round over the first k claims -/
def rF (gf gc ak : Nat → Int32) (S : Int32) (u : Int32 × Int32) : Nat → Bool × Int32 × Int32
  | 0 => (false, u.1, u.2)
  | k + 1 => ((rF gf gc ak S u k).1 || (dR gf gc ak S k (rF gf gc ak S u k).2.1 (rF gf gc ak S u k).2.2).1, (dR gf gc ak S k (rF gf gc ak S u k).2.1 (rF gf gc ak S u k).2.2).2)
def rL (gf gc ak : Nat → Int32) (S : Int32) (n : Nat) : Nat → Bool × Int32 × Int32 → Bool × Int32 × Int32
  | 0, t => t
  | f + 1, t => if t.1 = true then rL gf gc ak S n f (rF gf gc ak S t.2 n) else t
section RL
variable {gf gc ak : Nat → Int32} {S : Int32} {n : Nat}
theorem rL_stop {f : Nat} {t : Bool × Int32 × Int32} (z : t.1 = false) : rL gf gc ak S n f t = t := by
  cases f with
  | zero => rfl
  | succ f => exact if_neg (by rw [z]; decide)
theorem rL_end {h : Nat} {t : Bool × Int32 × Int32} (z : 16 ≤ h) : rL gf gc ak S n (16 - h) t = t := by rw [show 16 - h = 0 from by omega]; rfl
theorem rL_go {h : Nat} {t : Bool × Int32 × Int32} (z : t.1 = true) (z2 : h < 16) : rL gf gc ak S n (16 - h) t = rL gf gc ak S n (16 - (h + 1)) (rF gf gc ak S t.2 n) := by
  rw [show 16 - h = (16 - (h + 1)) + 1 from by omega]
  exact if_pos z
end RL
def rJ (gf gc ak : Nat → Int32) (S : Int32) (n : Nat) : Bool × Int32 × Int32 := rL gf gc ak S n 16 (true, 0, 0)
end
section
set_option maxHeartbeats 4000000 in
set_option maxRecDepth 100000 in
theorem c_X3_contains (l : Launch) (E : gE)  (x : Int32) (j : Nat) (hj : j < 32) : Met l yX3_contains wsX3_contains ({ frames := 0, cells := 0, slots := 0, locals := 0 }) (va_Pc [.int x, .int (nI j)] (pR E [])) (vp_Si (fun r => r = zI (bt x j))) 0 0 (fun _ => False) := by
  refine Met.ofW (cc := cX3_contains) (maxL := 2) (ret := (some .boolean)) (by decide) rfl ?_
  intro p e s m args below meth c s₁ B hml hv
  obtain ⟨rfl, hP, hK⟩ := hv
  have hx := B.exec
  have hb := B.bytes
  have hr := B.returns
  have hts := atoms_spec (ws := wsX3_contains) B.pre
  have hown : s.vm.findClass RX3 = some m.cls := findClass_of_methodNamed B.named
  have hlocks := B.notSynchronized
  have hP : va_P E.1 vwCl [] s.heap := hP
  have hl := lv_entry ([.int x, .int (nI j)]) (n := 2) (Nat.le_of_ble_eq_true rfl)
  rw [lg_entry_eq]
  generalize (lg_sl ([.int x, .int (nI j)]) ++ List.replicate (2 - (lg_sl ([.int x, .int (nI j)])).length) Slot.unset).toArray = ls at hl ⊢
  have hl : lv_has ls 2 [(0, .int x), (1, .int (nI j))] := hl
  refine lv_iload_n hx hb dX3_contains_0 rfl (lv_at hl 0 rfl) ?_
  refine lv_iconst (v := 1) hx hb dX3_contains_1 (by decide) ?_
  refine lv_iload_n hx hb dX3_contains_2 rfl (lv_at hl 1 rfl) ?_
  refine lv_ishl hx hb dX3_contains_3 ?_
  refine lv_topi (fun y9 ey9 => ?_)
  obtain rfl : y9 = m1 j := ey9.trans (rfl)
  refine lv_iand hx hb dX3_contains_4 ?_
  refine lv_if_eq (tgt := 12) hx hb dX3_contains_5 (by decide) (fun c_5 => ?_) (fun c_5 => ?_)
  · skip
    refine lv_iconst (v := 0) hx hb dX3_contains_12 (by decide) ?_
    have e9 : (0 : Int32) = zI (bt x j) := by rw [(bt_and0 hj).mp c_5]; rfl
    exact W.zret (v := 0) hx hb hr (rfl) (fun t ht hW => ⟨_, rfl, e9, ht⟩) (fun q h => absurd h List.not_mem_nil) dX3_contains_13
  · skip
    refine lv_iconst (v := 1) hx hb dX3_contains_8 (by decide) ?_
    refine lv_goto (tgt := 13) hx hb dX3_contains_9 (by decide) ?_
    have e9 : (1 : Int32) = zI (bt x j) := by rw [bt_t hj c_5]; rfl
    exact W.zret (v := 1) hx hb hr (rfl) (fun t ht hW => ⟨_, rfl, e9, ht⟩) (fun q h => absurd h List.not_mem_nil) dX3_contains_13
set_option maxHeartbeats 4000000 in
set_option maxRecDepth 100000 in
theorem c_X3_without (l : Launch) (E : gE)  (x : Int32) (j : Nat) (hj : j < 32) : Met l yX3_without wsX3_without ({ frames := 0, cells := 0, slots := 0, locals := 0 }) (va_Pc [.int x, .int (nI j)] (pR E [])) (vp_Si (fun r => r = x &&& (m1 j ^^^ (-1)))) 0 0 (fun _ => False) := by
  refine Met.ofW (cc := cX3_without) (maxL := 2) (ret := (some .int)) (by decide) rfl ?_
  intro p e s m args below meth c s₁ B hml hv
  obtain ⟨rfl, hP, hK⟩ := hv
  have hx := B.exec
  have hb := B.bytes
  have hr := B.returns
  have hts := atoms_spec (ws := wsX3_without) B.pre
  have hown : s.vm.findClass RX3 = some m.cls := findClass_of_methodNamed B.named
  have hlocks := B.notSynchronized
  have hP : va_P E.1 vwCl [] s.heap := hP
  have hl := lv_entry ([.int x, .int (nI j)]) (n := 2) (Nat.le_of_ble_eq_true rfl)
  rw [lg_entry_eq]
  generalize (lg_sl ([.int x, .int (nI j)]) ++ List.replicate (2 - (lg_sl ([.int x, .int (nI j)])).length) Slot.unset).toArray = ls at hl ⊢
  have hl : lv_has ls 2 [(0, .int x), (1, .int (nI j))] := hl
  refine lv_iload_n hx hb dX3_without_0 rfl (lv_at hl 0 rfl) ?_
  refine lv_iconst (v := 1) hx hb dX3_without_1 (by decide) ?_
  refine lv_iload_n hx hb dX3_without_2 rfl (lv_at hl 1 rfl) ?_
  refine lv_ishl hx hb dX3_without_3 ?_
  refine lv_topi (fun y9 ey9 => ?_)
  obtain rfl : y9 = m1 j := ey9.trans (rfl)
  refine lv_iconst (v := (-1)) hx hb dX3_without_4 (by decide) ?_
  refine lv_ixor hx hb dX3_without_5 ?_
  refine lv_iand hx hb dX3_without_6 ?_
  have e9 : (x &&& ((m1 j) ^^^ (-1)) : Int32) = x &&& (m1 j ^^^ (-1)) := by rfl
  exact W.iret (v := x &&& ((m1 j) ^^^ (-1))) hx hb hr (fun t ht hW => ⟨_, rfl, e9, ht⟩) (fun q h => absurd h List.not_mem_nil) dX3_without_7
set_option maxHeartbeats 4000000 in
set_option maxRecDepth 100000 in
theorem c_X1_size (l : Launch) (E : gE) (qK : Nat) (qS : Nat) (nf : Nat) (wd : Int32) (fl : Int32) (src : Nat → Nat) : Met l yX1_size wsX1_size ({ frames := 0, cells := 0, slots := 0, locals := 0 }) (va_Pc [.ref qK] (pR E [(qK, .inr (1, [.ref qS, .int (nI nf), .int wd, .int fl])), (qS, .inl (E.2.1, 14, .inl (fun w9 => nI (src w9))))])) (vp_Si (fun r => r = nI nf)) 0 0 (fun _ => False) := by
  refine Met.ofW (cc := cX1_size) (maxL := 1) (ret := (some .int)) (by decide) rfl ?_
  intro p e s m args below meth c s₁ B hml hv
  obtain ⟨rfl, hP, hK⟩ := hv
  have hx := B.exec
  have hb := B.bytes
  have hr := B.returns
  have hts := atoms_spec (ws := wsX1_size) B.pre
  have hown : s.vm.findClass RX1 = some m.cls := findClass_of_methodNamed B.named
  have hlocks := B.notSynchronized
  have hP : va_P E.1 vwCl [(qK, .inr (1, [.ref qS, .int (nI nf), .int wd, .int fl])), (qS, .inl (E.2.1, 14, .inl (fun w9 => nI (src w9))))] s.heap := hP
  have hl := lv_entry ([.ref qK]) (n := 1) (Nat.le_of_ble_eq_true rfl)
  rw [lg_entry_eq]
  generalize (lg_sl ([.ref qK]) ++ List.replicate (1 - (lg_sl ([.ref qK])).length) Slot.unset).toArray = ls at hl ⊢
  have hl : lv_has ls 1 [(0, .ref qK)] := hl
  refine lv_aload_n hx hb dX1_size_0 rfl (lv_at hl 0 rfl) ?_
  refine va_get (D := E.1) (ci := 1) (v := .int (nI nf)) (C := RX1) (T := TX1) (N := 4) hx hb hts (fun _ h => List.mem_cons_of_mem _ (List.mem_append_right _ h)) hown hK.1 hP 0 rfl rfl 1 (by decide) (hts (.fieldLink RX1 15 "Quarrelboard$FactBook" "count" "I") (List.mem_of_getElem? (i := 1) rfl)) (fun _ h9 => h9) rfl dX1_size_1 ?_
  have e9 : (nI nf : Int32) = nI nf := by rfl
  exact W.iret (v := nI nf) hx hb hr (fun t ht hW => ⟨_, rfl, e9, ht⟩) (fun q h => absurd h List.not_mem_nil) dX1_size_4
set_option maxHeartbeats 4000000 in
set_option maxRecDepth 100000 in
theorem c_X1_hasAll (l : Launch) (E : gE) (qK : Nat) (qS : Nat) (nf : Nat) (wd : Int32) (fl : Int32) (src : Nat → Nat) (f : Int32) (hn : nf ≤ 14) : Met l yX1_hasAll wsX1_hasAll ({ frames := 0, cells := 0, slots := 0, locals := 0 }) (va_Pc [.ref qK, .int f] (pR E [(qK, .inr (1, [.ref qS, .int (nI nf), .int wd, .int fl])), (qS, .inl (E.2.1, 14, .inl (fun w9 => nI (src w9))))])) (vp_Si (fun r => r = zI (hasF f nf))) 0 0 (fun _ => False) := by
  refine Met.ofW (cc := cX1_hasAll) (maxL := 2) (ret := (some .boolean)) (by decide) rfl ?_
  intro p e s m args below meth c s₁ B hml hv
  obtain ⟨rfl, hP, hK⟩ := hv
  have hx := B.exec
  have hb := B.bytes
  have hr := B.returns
  have hts := atoms_spec (ws := wsX1_hasAll) B.pre
  have hown : s.vm.findClass RX1 = some m.cls := findClass_of_methodNamed B.named
  have hlocks := B.notSynchronized
  have hP : va_P E.1 vwCl [(qK, .inr (1, [.ref qS, .int (nI nf), .int wd, .int fl])), (qS, .inl (E.2.1, 14, .inl (fun w9 => nI (src w9))))] s.heap := hP
  have hl := lv_entry ([.ref qK, .int f]) (n := 2) (Nat.le_of_ble_eq_true rfl)
  rw [lg_entry_eq]
  generalize (lg_sl ([.ref qK, .int f]) ++ List.replicate (2 - (lg_sl ([.ref qK, .int f])).length) Slot.unset).toArray = ls at hl ⊢
  have hl : lv_has ls 2 [(0, .ref qK), (1, .int f)] := hl
  refine lv_iload_n hx hb dX1_hasAll_0 rfl (lv_at hl 1 rfl) ?_
  refine lv_if_lt (tgt := 18) hx hb dX1_hasAll_1 (by decide) (fun c_1 => ?_) (fun c_1 => ?_)
  · skip
    refine lv_iconst (v := 0) hx hb dX1_hasAll_18 (by decide) ?_
    have e9 : (0 : Int32) = zI (hasF f nf) := by simp only [zI, hasF, c_1, decide_true, decide_false, Bool.and_true, Bool.false_and, Bool.true_and, Bool.and_false, Bool.not_true, Bool.not_false, Bool.or_true, Bool.true_or, Bool.false_or, Bool.or_false, if_true, if_false, Bool.false_eq_true]
    exact W.zret (v := 0) hx hb hr (rfl) (fun t ht hW => ⟨_, rfl, e9, ht⟩) (fun q h => absurd h List.not_mem_nil) dX1_hasAll_19
  · skip
    refine lv_iload_n hx hb dX1_hasAll_4 rfl (lv_at hl 1 rfl) ?_
    refine lv_iconst (v := 1) hx hb dX1_hasAll_5 (by decide) ?_
    refine lv_aload_n hx hb dX1_hasAll_6 rfl (lv_at hl 0 rfl) ?_
    refine va_get (D := E.1) (ci := 1) (v := .int (nI nf)) (C := RX1) (T := TX1) (N := 4) hx hb hts (fun _ h => List.mem_cons_of_mem _ (List.mem_append_right _ h)) hown hK.1 hP 0 rfl rfl 1 (by decide) (hts (.fieldLink RX1 15 "Quarrelboard$FactBook" "count" "I") (List.mem_of_getElem? (i := 1) rfl)) (fun _ h9 => h9) rfl dX1_hasAll_7 ?_
    refine lv_ishl hx hb dX1_hasAll_10 ?_
    refine lv_topi (fun y9 ey9 => ?_)
    obtain rfl : y9 = m1 nf := ey9.trans (rfl)
    refine lv_icmp_ge (tgt := 18) hx hb dX1_hasAll_11 (by decide) (fun c_11 => ?_) (fun c_11 => ?_)
    · skip
      refine lv_iconst (v := 0) hx hb dX1_hasAll_18 (by decide) ?_
      have e9 : (0 : Int32) = zI (hasF f nf) := by simp only [zI, hasF, c_1, c_11, decide_true, decide_false, Bool.and_true, Bool.false_and, Bool.true_and, Bool.and_false, Bool.not_true, Bool.not_false, Bool.or_true, Bool.true_or, Bool.false_or, Bool.or_false, if_true, if_false, Bool.false_eq_true]
      exact W.zret (v := 0) hx hb hr (rfl) (fun t ht hW => ⟨_, rfl, e9, ht⟩) (fun q h => absurd h List.not_mem_nil) dX1_hasAll_19
    · skip
      refine lv_iconst (v := 1) hx hb dX1_hasAll_14 (by decide) ?_
      refine lv_goto (tgt := 19) hx hb dX1_hasAll_15 (by decide) ?_
      have e9 : (1 : Int32) = zI (hasF f nf) := by simp only [zI, hasF, c_1, c_11, decide_true, decide_false, Bool.and_true, Bool.false_and, Bool.true_and, Bool.and_false, Bool.not_true, Bool.not_false, Bool.or_true, Bool.true_or, Bool.false_or, Bool.or_false, if_true, if_false, Bool.false_eq_true]
      exact W.zret (v := 1) hx hb hr (rfl) (fun t ht hW => ⟨_, rfl, e9, ht⟩) (fun q h => absurd h List.not_mem_nil) dX1_hasAll_19
set_option maxHeartbeats 4000000 in
set_option maxRecDepth 100000 in
theorem c_X1_add_no (l : Launch) (E : gE) (qK : Nat) (qS : Nat) (nf : Nat) (wd : Int32) (fl : Int32) (src : Nat → Nat) (sN : Nat) (hn : 14 ≤ nf) (hn2 : nf ≤ 14) : Met l yX1_add wsX1_add ({ frames := 0, cells := 0, slots := 0, locals := 0 }) (va_Pc [.ref qK, .int (nI sN)] (pR E [(qK, .inr (1, [.ref qS, .int (nI nf), .int wd, .int fl])), (qS, .inl (E.2.1, 14, .inl (fun w9 => nI (src w9))))])) (vp_Si (fun r => r = (-1))) 0 0 (fun _ => False) := by
  refine Met.ofW (cc := cX1_add) (maxL := 3) (ret := (some .int)) (by decide) rfl ?_
  intro p e s m args below meth c s₁ B hml hv
  obtain ⟨rfl, hP, hK⟩ := hv
  have hx := B.exec
  have hb := B.bytes
  have hr := B.returns
  have hts := atoms_spec (ws := wsX1_add) B.pre
  have hown : s.vm.findClass RX1 = some m.cls := findClass_of_methodNamed B.named
  have hlocks := B.notSynchronized
  have hP : va_P E.1 vwCl [(qK, .inr (1, [.ref qS, .int (nI nf), .int wd, .int fl])), (qS, .inl (E.2.1, 14, .inl (fun w9 => nI (src w9))))] s.heap := hP
  have hl := lv_entry ([.ref qK, .int (nI sN)]) (n := 3) (Nat.le_of_ble_eq_true rfl)
  rw [lg_entry_eq]
  generalize (lg_sl ([.ref qK, .int (nI sN)]) ++ List.replicate (3 - (lg_sl ([.ref qK, .int (nI sN)])).length) Slot.unset).toArray = ls at hl ⊢
  have hl : lv_has ls 3 [(0, .ref qK), (1, .int (nI sN))] := hl
  refine lv_aload_n hx hb dX1_add_0 rfl (lv_at hl 0 rfl) ?_
  refine va_get (D := E.1) (ci := 1) (v := .int (nI nf)) (C := RX1) (T := TX1) (N := 4) hx hb hts (fun _ h => List.mem_cons_of_mem _ (List.mem_append_right _ h)) hown hK.1 hP 0 rfl rfl 1 (by decide) (hts (.fieldLink RX1 15 "Quarrelboard$FactBook" "count" "I") (List.mem_of_getElem? (i := 1) rfl)) (fun _ h9 => h9) rfl dX1_add_1 ?_
  refine lv_bipush (v := 14) hx hb dX1_add_4 (by decide) ?_
  refine lv_icmp_lt (tgt := 11) hx hb dX1_add_6 (by decide) (fun c_6 => ?_) (fun c_6 => ?_)
  · have c_6 : nI nf < nI 14 := c_6
    have c_6 := (nI_ltI (a := nf) (b := 14) (by omega) (by omega)).mp c_6
    exact absurd c_6 (by omega)
  · have c_6 : ¬ (nI nf < nI 14) := c_6
    have c_6 : ¬ (nf < 14) := fun h9 => c_6 ((nI_ltI (a := nf) (b := 14) (by omega) (by omega)).mpr h9)
    refine lv_iconst (v := (-1)) hx hb dX1_add_9 (by decide) ?_
    have e9 : ((-1) : Int32) = (-1) := by rfl
    exact W.iret (v := (-1)) hx hb hr (fun t ht hW => ⟨_, rfl, e9, ht⟩) (fun q h => absurd h List.not_mem_nil) dX1_add_10
set_option maxHeartbeats 4000000 in
set_option maxRecDepth 100000 in
theorem c_X1_add (l : Launch) (E : gE) (qK : Nat) (qS : Nat) (nf : Nat) (wd : Int32) (fl : Int32) (src : Nat → Nat) (sz : Nat) (sN : Nat) (hn : nf < 14) : Met l yX1_add wsX1_add ({ frames := 0, cells := 0, slots := 0, locals := 0 }) (va_Pc [.ref qK, .int (nI sN)] (pW E [(qK, .inr (1, [.ref qS, .int (nI nf), .int wd, .int fl])), (qS, .inl (E.2.1, 14, .inl (fun w9 => nI (src w9))))] sz)) (va_Qi (fun r (_ : Unit) => r = nI nf) (fun _ => eW E (va_A [(qK, .inr (1, [.ref qS, .int (nI nf), .int wd, .int fl])), (qS, .inl (E.2.1, 14, .inl (fun w9 => nI (src w9))))] sz) [(qK, .inr (1, [.ref qS, .int (nI (nf + 1)), .int wd, .int fl])), (qS, .inl (E.2.1, 14, .inl (fun w9 => nI ((upN src nf sN) w9))))]) (va_A [(qK, .inr (1, [.ref qS, .int (nI nf), .int wd, .int fl])), (qS, .inl (E.2.1, 14, .inl (fun w9 => nI (src w9))))] sz)) 0 0 (va_A [(qK, .inr (1, [.ref qS, .int (nI nf), .int wd, .int fl])), (qS, .inl (E.2.1, 14, .inl (fun w9 => nI (src w9))))] sz) := by
  refine Met.ofW (cc := cX1_add) (maxL := 3) (ret := (some .int)) (by decide) rfl ?_
  intro p e s m args below meth c s₁ B hml hv
  obtain ⟨rfl, hsz, hP, hK, hD0⟩ := hv
  have hx := B.exec
  have hb := B.bytes
  have hr := B.returns
  have hts := atoms_spec (ws := wsX1_add) B.pre
  have hown : s.vm.findClass RX1 = some m.cls := findClass_of_methodNamed B.named
  have hlocks := B.notSynchronized
  subst hsz
  have hD := hD0.self (sz := s.heap.size)
  generalize hAe : va_A [(qK, .inr (1, [.ref qS, .int (nI nf), .int wd, .int fl])), (qS, .inl (E.2.1, 14, .inl (fun w9 => nI (src w9))))] s.heap.size = A at hD ⊢
  have hA : ∀ q : Nat, s.heap.size ≤ q → A q := fun q h => by rw [← hAe]; exact Or.inr h
  have hS : va_S A s.heap s.heap [] := va_S.rf
  have hl := lv_entry ([.ref qK, .int (nI sN)]) (n := 3) (Nat.le_of_ble_eq_true rfl)
  rw [lg_entry_eq]
  generalize (lg_sl ([.ref qK, .int (nI sN)]) ++ List.replicate (3 - (lg_sl ([.ref qK, .int (nI sN)])).length) Slot.unset).toArray = ls at hl ⊢
  have hl : lv_has ls 3 [(0, .ref qK), (1, .int (nI sN))] := hl
  refine lv_aload_n hx hb dX1_add_0 rfl (lv_at hl 0 rfl) ?_
  refine va_get (D := E.1) (ci := 1) (v := .int (nI nf)) (C := RX1) (T := TX1) (N := 4) hx hb hts (fun _ h => List.mem_cons_of_mem _ (List.mem_append_right _ h)) hown hK.1 hP 0 rfl rfl 1 (by decide) (hts (.fieldLink RX1 15 "Quarrelboard$FactBook" "count" "I") (List.mem_of_getElem? (i := 1) rfl)) (fun _ h9 => h9) rfl dX1_add_1 ?_
  refine lv_bipush (v := 14) hx hb dX1_add_4 (by decide) ?_
  refine lv_icmp_lt (tgt := 11) hx hb dX1_add_6 (by decide) (fun c_6 => ?_) (fun c_6 => ?_)
  · have c_6 : nI nf < nI 14 := c_6
    have c_6 := (nI_ltI (a := nf) (b := 14) (by omega) (by omega)).mp c_6
    refine lv_aload_n hx hb dX1_add_11 rfl (lv_at hl 0 rfl) ?_
    refine va_get (D := E.1) (ci := 1) (v := .int (nI nf)) (C := RX1) (T := TX1) (N := 4) hx hb hts (fun _ h => List.mem_cons_of_mem _ (List.mem_append_right _ h)) hown hK.1 hP 0 rfl rfl 1 (by decide) (hts (.fieldLink RX1 15 "Quarrelboard$FactBook" "count" "I") (List.mem_of_getElem? (i := 1) rfl)) (fun _ h9 => h9) rfl dX1_add_12 ?_
    refine lv_istore_n (lv' := [(2, .int (nI nf)), (0, .ref qK), (1, .int (nI sN))]) hx hb dX1_add_15 rfl hl (by decide) rfl (fun ls hl => ?_)
    refine lv_aload_n hx hb dX1_add_16 rfl (lv_at hl 1 rfl) ?_
    refine va_get (D := E.1) (ci := 1) (v := .ref qS) (C := RX1) (T := TX1) (N := 4) hx hb hts (fun _ h => List.mem_cons_of_mem _ (List.mem_append_right _ h)) hown hK.1 hP 0 rfl rfl 0 (by decide) (hts (.fieldLink RX1 9 "Quarrelboard$FactBook" "sources" "[I") (List.mem_of_getElem? (i := 2) rfl)) (fun _ h9 => h9) rfl dX1_add_17 ?_
    refine lv_iload_n hx hb dX1_add_20 rfl (lv_at hl 0 rfl) ?_
    refine lv_iload_n hx hb dX1_add_21 rfl (lv_at hl 2 rfl) ?_
    refine k_iastN hx hb hK hP hD hS 1 (f := src) nf sN rfl (by omega) (by decide) dX1_add_22 (fun H locs hP hD hS => ?_)
    have hP : va_P E.1 vwCl [(qK, .inr (1, [.ref qS, .int (nI nf), .int wd, .int fl])), (qS, .inl (E.2.1, 14, .inl (fun w9 => nI ((upN src nf sN) w9))))] H := hP
    have hD : va_D A [(qK, .inr (1, [.ref qS, .int (nI nf), .int wd, .int fl])), (qS, .inl (E.2.1, 14, .inl (fun w9 => nI ((upN src nf sN) w9))))] := hD
    refine lv_aload_n hx hb dX1_add_23 rfl (lv_at hl 1 rfl) ?_
    refine lv_dup hx hb dX1_add_24 rfl ?_
    refine va_get (D := E.1) (ci := 1) (v := .int (nI nf)) (C := RX1) (T := TX1) (N := 4) hx hb hts (fun _ h => List.mem_cons_of_mem _ (List.mem_append_right _ h)) hown hK.1 hP 0 rfl rfl 1 (by decide) (hts (.fieldLink RX1 15 "Quarrelboard$FactBook" "count" "I") (List.mem_of_getElem? (i := 1) rfl)) (fun _ h9 => h9) rfl dX1_add_25 ?_
    refine lv_iconst (v := 1) hx hb dX1_add_28 (by decide) ?_
    refine lv_iadd hx hb dX1_add_29 ?_
    refine lv_topi (fun y9 ey9 => ?_)
    obtain rfl : y9 = nI (nf + 1) := ey9.trans (nI_1 _)
    refine va_put (D := E.1) (ci := 1) (v := .int (nI (nf + 1))) (ty := .int) (C := RX1) (T := TX1) (N := 4) hx hb hts (fun _ h => List.mem_cons_of_mem _ (List.mem_append_right _ h)) tyX1 tyX1_ok nmX1 hown hK.1 hP hD hS 0 rfl rfl 1 (by decide) (hts (.fieldLink RX1 15 "Quarrelboard$FactBook" "count" "I") (List.mem_of_getElem? (i := 1) rfl)) (fun _ h9 => h9) rfl (by decide +kernel) rfl rfl (Nat.le_of_ble_eq_true rfl) dX1_add_30 (fun H locs hP hD hS => ?_)
    have hP : va_P E.1 vwCl [(qK, .inr (1, [.ref qS, .int (nI (nf + 1)), .int wd, .int fl])), (qS, .inl (E.2.1, 14, .inl (fun w9 => nI ((upN src nf sN) w9))))] H := hP
    have hD : va_D A [(qK, .inr (1, [.ref qS, .int (nI (nf + 1)), .int wd, .int fl])), (qS, .inl (E.2.1, 14, .inl (fun w9 => nI ((upN src nf sN) w9))))] := hD
    refine lv_iload_n hx hb dX1_add_33 rfl (lv_at hl 0 rfl) ?_
    have e9 : (nI nf : Int32) = nI nf := by rfl
    have hP9 : va_P E.1 vwCl [(qK, .inr (1, [.ref qS, .int (nI (nf + 1)), .int wd, .int fl])), (qS, .inl (E.2.1, 14, .inl (fun w9 => nI ((upN src nf sN) w9))))] H := by exact hP
    have hD9 : va_D A [(qK, .inr (1, [.ref qS, .int (nI (nf + 1)), .int wd, .int fl])), (qS, .inl (E.2.1, 14, .inl (fun w9 => nI ((upN src nf sN) w9))))] := by exact hD
    exact W.iret (v := nI nf) hx hb hr (fun t ht hW => ⟨⟨_, (), rfl, e9, by rw [ht]; exact hP9, hD9⟩, hS.F ht⟩) hS.2.2 dX1_add_34
  · have c_6 : ¬ (nI nf < nI 14) := c_6
    have c_6 : ¬ (nf < 14) := fun h9 => c_6 ((nI_ltI (a := nf) (b := 14) (by omega) (by omega)).mpr h9)
    exact absurd c_6 (by omega)
set_option maxHeartbeats 4000000 in
set_option maxRecDepth 100000 in
theorem c_X1_flipSource (l : Launch) (E : gE) (qK : Nat) (qS : Nat) (nf : Nat) (wd : Int32) (fl : Int32) (src : Nat → Nat) (sz : Nat) (j : Nat) (hj : j < 32) : Met l yX1_flipSource wsX1_flipSource ({ frames := 1, cells := 0, slots := 0, locals := 21 }) (va_Pc [.ref qK, .int (nI j)] (pW E [(qK, .inr (1, [.ref qS, .int (nI nf), .int wd, .int fl])), (qS, .inl (E.2.1, 14, .inl (fun w9 => nI (src w9))))] sz)) (va_Qi (fun r (_ : Unit) => r = zI (!bt (fl ^^^ m1 j) j)) (fun _ => eW E (va_A [(qK, .inr (1, [.ref qS, .int (nI nf), .int wd, .int fl])), (qS, .inl (E.2.1, 14, .inl (fun w9 => nI (src w9))))] sz) [(qK, .inr (1, [.ref qS, .int (nI nf), .int wd, .int (fl ^^^ m1 j)])), (qS, .inl (E.2.1, 14, .inl (fun w9 => nI (src w9))))]) (va_A [(qK, .inr (1, [.ref qS, .int (nI nf), .int wd, .int fl])), (qS, .inl (E.2.1, 14, .inl (fun w9 => nI (src w9))))] sz)) 0 0 (va_A [(qK, .inr (1, [.ref qS, .int (nI nf), .int wd, .int fl])), (qS, .inl (E.2.1, 14, .inl (fun w9 => nI (src w9))))] sz) := by
  refine Met.ofW (cc := cX1_flipSource) (maxL := 2) (ret := (some .boolean)) (by decide) rfl ?_
  intro p e s m args below meth c s₁ B hml hv
  obtain ⟨rfl, hsz, hP, hK, hD0⟩ := hv
  have hx := B.exec
  have hb := B.bytes
  have hr := B.returns
  have hts := atoms_spec (ws := wsX1_flipSource) B.pre
  have hown : s.vm.findClass RX1 = some m.cls := findClass_of_methodNamed B.named
  have hlocks := B.notSynchronized
  subst hsz
  have hD := hD0.self (sz := s.heap.size)
  generalize hAe : va_A [(qK, .inr (1, [.ref qS, .int (nI nf), .int wd, .int fl])), (qS, .inl (E.2.1, 14, .inl (fun w9 => nI (src w9))))] s.heap.size = A at hD ⊢
  have hA : ∀ q : Nat, s.heap.size ≤ q → A q := fun q h => by rw [← hAe]; exact Or.inr h
  have hS : va_S A s.heap s.heap [] := va_S.rf
  have hl := lv_entry ([.ref qK, .int (nI j)]) (n := 2) (Nat.le_of_ble_eq_true rfl)
  rw [lg_entry_eq]
  generalize (lg_sl ([.ref qK, .int (nI j)]) ++ List.replicate (2 - (lg_sl ([.ref qK, .int (nI j)])).length) Slot.unset).toArray = ls at hl ⊢
  have hl : lv_has ls 2 [(0, .ref qK), (1, .int (nI j))] := hl
  refine lv_aload_n hx hb dX1_flipSource_0 rfl (lv_at hl 0 rfl) ?_
  refine lv_dup hx hb dX1_flipSource_1 rfl ?_
  refine va_get (D := E.1) (ci := 1) (v := .int fl) (C := RX1) (T := TX1) (N := 4) hx hb hts (fun _ h => List.mem_cons_of_mem _ (List.mem_append_right _ h)) hown hK.1 hP 0 rfl rfl 3 (by decide) (hts (.fieldLink RX1 22 "Quarrelboard$FactBook" "fallenSources" "I") (List.mem_of_getElem? (i := 1) rfl)) (fun _ h9 => h9) rfl dX1_flipSource_2 ?_
  refine lv_iconst (v := 1) hx hb dX1_flipSource_5 (by decide) ?_
  refine lv_iload_n hx hb dX1_flipSource_6 rfl (lv_at hl 1 rfl) ?_
  refine lv_ishl hx hb dX1_flipSource_7 ?_
  refine lv_topi (fun y9 ey9 => ?_)
  obtain rfl : y9 = m1 j := ey9.trans (rfl)
  refine lv_ixor hx hb dX1_flipSource_8 ?_
  refine va_put (D := E.1) (ci := 1) (v := .int (fl ^^^ (m1 j))) (ty := .int) (C := RX1) (T := TX1) (N := 4) hx hb hts (fun _ h => List.mem_cons_of_mem _ (List.mem_append_right _ h)) tyX1 tyX1_ok nmX1 hown hK.1 hP hD hS 0 rfl rfl 3 (by decide) (hts (.fieldLink RX1 22 "Quarrelboard$FactBook" "fallenSources" "I") (List.mem_of_getElem? (i := 1) rfl)) (fun _ h9 => h9) rfl (by decide +kernel) rfl rfl (Nat.le_of_ble_eq_true rfl) dX1_flipSource_9 (fun H locs hP hD hS => ?_)
  have hP : va_P E.1 vwCl [(qK, .inr (1, [.ref qS, .int (nI nf), .int wd, .int (fl ^^^ (m1 j))])), (qS, .inl (E.2.1, 14, .inl (fun w9 => nI (src w9))))] H := hP
  have hD : va_D A [(qK, .inr (1, [.ref qS, .int (nI nf), .int wd, .int (fl ^^^ (m1 j))])), (qS, .inl (E.2.1, 14, .inl (fun w9 => nI (src w9))))] := hD
  refine lv_aload_n hx hb dX1_flipSource_12 rfl (lv_at hl 0 rfl) ?_
  refine va_get (D := E.1) (ci := 1) (v := .int (fl ^^^ (m1 j))) (C := RX1) (T := TX1) (N := 4) hx hb hts (fun _ h => List.mem_cons_of_mem _ (List.mem_append_right _ h)) hown hK.1 hP 0 rfl rfl 3 (by decide) (hts (.fieldLink RX1 22 "Quarrelboard$FactBook" "fallenSources" "I") (List.mem_of_getElem? (i := 1) rfl)) (fun _ h9 => h9) rfl dX1_flipSource_13 ?_
  refine lv_iload_n hx hb dX1_flipSource_16 rfl (lv_at hl 1 rfl) ?_
  refine cl_SN (Wc := []) (As := [.int (fl ^^^ (m1 j)), .int (nI j)]) (rest := []) ⟨hx, hb, hml, hown, hts⟩ (c_X3_contains l E  (fl ^^^ (m1 j)) j (by omega)) ⟨va_cnB 2 hts gX1_flipSource_X3_contains_n25 rfl rfl rfl hK.2.2.1 (hts (.initialized RX3) (List.mem_of_getElem? (i := 3) rfl)) (by decide +kernel) ⟨Nat.le_of_ble_eq_true rfl, Nat.le_of_ble_eq_true rfl⟩, hts (.static yX3_contains) (List.mem_of_getElem? (i := 2) rfl), trivial⟩ hK (hP.sub [] rfl) rfl hl.1 rfl (Nat.le_of_ble_eq_true rfl) dX1_flipSource_17 ⟨Nat.zero_le _, Nat.zero_le _⟩ ?_
  refine lv_if_ne (tgt := 27) hx hb dX1_flipSource_20 (by decide) (fun c_20 => ?_) (fun c_20 => ?_)
  · have c_20 := zI_t c_20
    refine lv_iconst (v := 0) hx hb dX1_flipSource_27 (by decide) ?_
    have e9 : (0 : Int32) = zI (!bt (fl ^^^ m1 j) j) := by rw [c_20]; rfl
    have hP9 : va_P E.1 vwCl [(qK, .inr (1, [.ref qS, .int (nI nf), .int wd, .int (fl ^^^ m1 j)])), (qS, .inl (E.2.1, 14, .inl (fun w9 => nI (src w9))))] H := by exact hP
    have hD9 : va_D A [(qK, .inr (1, [.ref qS, .int (nI nf), .int wd, .int (fl ^^^ m1 j)])), (qS, .inl (E.2.1, 14, .inl (fun w9 => nI (src w9))))] := by exact hD
    exact W.zret (v := 0) hx hb hr (rfl) (fun t ht hW => ⟨⟨_, (), rfl, e9, by rw [ht]; exact hP9, hD9⟩, hS.F ht⟩) hS.2.2 dX1_flipSource_28
  · have c_20 := zI_f c_20
    refine lv_iconst (v := 1) hx hb dX1_flipSource_23 (by decide) ?_
    refine lv_goto (tgt := 28) hx hb dX1_flipSource_24 (by decide) ?_
    have e9 : (1 : Int32) = zI (!bt (fl ^^^ m1 j) j) := by rw [c_20]; rfl
    have hP9 : va_P E.1 vwCl [(qK, .inr (1, [.ref qS, .int (nI nf), .int wd, .int (fl ^^^ m1 j)])), (qS, .inl (E.2.1, 14, .inl (fun w9 => nI (src w9))))] H := by exact hP
    have hD9 : va_D A [(qK, .inr (1, [.ref qS, .int (nI nf), .int wd, .int (fl ^^^ m1 j)])), (qS, .inl (E.2.1, 14, .inl (fun w9 => nI (src w9))))] := by exact hD
    exact W.zret (v := 1) hx hb hr (rfl) (fun t ht hW => ⟨⟨_, (), rfl, e9, by rw [ht]; exact hP9, hD9⟩, hS.F ht⟩) hS.2.2 dX1_flipSource_28
set_option maxHeartbeats 4000000 in
set_option maxRecDepth 100000 in
theorem c_X1_takeBack (l : Launch) (E : gE) (qK : Nat) (qS : Nat) (nf : Nat) (wd : Int32) (fl : Int32) (src : Nat → Nat) (sz : Nat) (j : Nat) (hj : j < 32) : Met l yX1_takeBack wsX1_takeBack ({ frames := 1, cells := 0, slots := 0, locals := 21 }) (va_Pc [.ref qK, .int (nI j)] (pW E [(qK, .inr (1, [.ref qS, .int (nI nf), .int wd, .int fl])), (qS, .inl (E.2.1, 14, .inl (fun w9 => nI (src w9))))] sz)) (va_Qi (fun r (_ : Unit) => r = zI (!bt wd j)) (fun _ => eW E (va_A [(qK, .inr (1, [.ref qS, .int (nI nf), .int wd, .int fl])), (qS, .inl (E.2.1, 14, .inl (fun w9 => nI (src w9))))] sz) [(qK, .inr (1, [.ref qS, .int (nI nf), .int (wd ||| m1 j), .int fl])), (qS, .inl (E.2.1, 14, .inl (fun w9 => nI (src w9))))]) (va_A [(qK, .inr (1, [.ref qS, .int (nI nf), .int wd, .int fl])), (qS, .inl (E.2.1, 14, .inl (fun w9 => nI (src w9))))] sz)) 0 0 (va_A [(qK, .inr (1, [.ref qS, .int (nI nf), .int wd, .int fl])), (qS, .inl (E.2.1, 14, .inl (fun w9 => nI (src w9))))] sz) := by
  refine Met.ofW (cc := cX1_takeBack) (maxL := 3) (ret := (some .boolean)) (by decide) rfl ?_
  intro p e s m args below meth c s₁ B hml hv
  obtain ⟨rfl, hsz, hP, hK, hD0⟩ := hv
  have hx := B.exec
  have hb := B.bytes
  have hr := B.returns
  have hts := atoms_spec (ws := wsX1_takeBack) B.pre
  have hown : s.vm.findClass RX1 = some m.cls := findClass_of_methodNamed B.named
  have hlocks := B.notSynchronized
  subst hsz
  have hD := hD0.self (sz := s.heap.size)
  generalize hAe : va_A [(qK, .inr (1, [.ref qS, .int (nI nf), .int wd, .int fl])), (qS, .inl (E.2.1, 14, .inl (fun w9 => nI (src w9))))] s.heap.size = A at hD ⊢
  have hA : ∀ q : Nat, s.heap.size ≤ q → A q := fun q h => by rw [← hAe]; exact Or.inr h
  have hS : va_S A s.heap s.heap [] := va_S.rf
  have hl := lv_entry ([.ref qK, .int (nI j)]) (n := 3) (Nat.le_of_ble_eq_true rfl)
  rw [lg_entry_eq]
  generalize (lg_sl ([.ref qK, .int (nI j)]) ++ List.replicate (3 - (lg_sl ([.ref qK, .int (nI j)])).length) Slot.unset).toArray = ls at hl ⊢
  have hl : lv_has ls 3 [(0, .ref qK), (1, .int (nI j))] := hl
  refine lv_aload_n hx hb dX1_takeBack_0 rfl (lv_at hl 0 rfl) ?_
  refine va_get (D := E.1) (ci := 1) (v := .int wd) (C := RX1) (T := TX1) (N := 4) hx hb hts (fun _ h => List.mem_cons_of_mem _ (List.mem_append_right _ h)) hown hK.1 hP 0 rfl rfl 2 (by decide) (hts (.fieldLink RX1 19 "Quarrelboard$FactBook" "withdrawn" "I") (List.mem_of_getElem? (i := 1) rfl)) (fun _ h9 => h9) rfl dX1_takeBack_1 ?_
  refine lv_iload_n hx hb dX1_takeBack_4 rfl (lv_at hl 1 rfl) ?_
  refine cl_SN (Wc := []) (As := [.int wd, .int (nI j)]) (rest := []) ⟨hx, hb, hml, hown, hts⟩ (c_X3_contains l E  wd j (by omega)) ⟨va_cnB 2 hts gX1_takeBack_X3_contains_n25 rfl rfl rfl hK.2.2.1 (hts (.initialized RX3) (List.mem_of_getElem? (i := 3) rfl)) (by decide +kernel) ⟨Nat.le_of_ble_eq_true rfl, Nat.le_of_ble_eq_true rfl⟩, hts (.static yX3_contains) (List.mem_of_getElem? (i := 2) rfl), trivial⟩ hK (hP.sub [] rfl) rfl hl.1 rfl (Nat.le_of_ble_eq_true rfl) dX1_takeBack_5 ⟨Nat.zero_le _, Nat.zero_le _⟩ ?_
  refine lv_if_ne (tgt := 15) hx hb dX1_takeBack_8 (by decide) (fun c_8 => ?_) (fun c_8 => ?_)
  · have c_8 := zI_t c_8
    refine lv_iconst (v := 0) hx hb dX1_takeBack_15 (by decide) ?_
    refine lv_istore_n (lv' := [(2, .int 0), (0, .ref qK), (1, .int (nI j))]) hx hb dX1_takeBack_16 rfl hl (by decide) rfl (fun ls hl => ?_)
    refine lv_aload_n hx hb dX1_takeBack_17 rfl (lv_at hl 1 rfl) ?_
    refine lv_dup hx hb dX1_takeBack_18 rfl ?_
    refine va_get (D := E.1) (ci := 1) (v := .int wd) (C := RX1) (T := TX1) (N := 4) hx hb hts (fun _ h => List.mem_cons_of_mem _ (List.mem_append_right _ h)) hown hK.1 hP 0 rfl rfl 2 (by decide) (hts (.fieldLink RX1 19 "Quarrelboard$FactBook" "withdrawn" "I") (List.mem_of_getElem? (i := 1) rfl)) (fun _ h9 => h9) rfl dX1_takeBack_19 ?_
    refine lv_iconst (v := 1) hx hb dX1_takeBack_22 (by decide) ?_
    refine lv_iload_n hx hb dX1_takeBack_23 rfl (lv_at hl 2 rfl) ?_
    refine lv_ishl hx hb dX1_takeBack_24 ?_
    refine lv_topi (fun y9 ey9 => ?_)
    obtain rfl : y9 = m1 j := ey9.trans (rfl)
    refine lv_ior hx hb dX1_takeBack_25 ?_
    refine va_put (D := E.1) (ci := 1) (v := .int (wd ||| (m1 j))) (ty := .int) (C := RX1) (T := TX1) (N := 4) hx hb hts (fun _ h => List.mem_cons_of_mem _ (List.mem_append_right _ h)) tyX1 tyX1_ok nmX1 hown hK.1 hP hD hS 0 rfl rfl 2 (by decide) (hts (.fieldLink RX1 19 "Quarrelboard$FactBook" "withdrawn" "I") (List.mem_of_getElem? (i := 1) rfl)) (fun _ h9 => h9) rfl (by decide +kernel) rfl rfl (Nat.le_of_ble_eq_true rfl) dX1_takeBack_26 (fun H locs hP hD hS => ?_)
    have hP : va_P E.1 vwCl [(qK, .inr (1, [.ref qS, .int (nI nf), .int (wd ||| (m1 j)), .int fl])), (qS, .inl (E.2.1, 14, .inl (fun w9 => nI (src w9))))] H := hP
    have hD : va_D A [(qK, .inr (1, [.ref qS, .int (nI nf), .int (wd ||| (m1 j)), .int fl])), (qS, .inl (E.2.1, 14, .inl (fun w9 => nI (src w9))))] := hD
    refine lv_iload_n hx hb dX1_takeBack_29 rfl (lv_at hl 0 rfl) ?_
    have e9 : (0 : Int32) = zI (!bt wd j) := by rw [c_8]; rfl
    have hP9 : va_P E.1 vwCl [(qK, .inr (1, [.ref qS, .int (nI nf), .int (wd ||| m1 j), .int fl])), (qS, .inl (E.2.1, 14, .inl (fun w9 => nI (src w9))))] H := by exact hP
    have hD9 : va_D A [(qK, .inr (1, [.ref qS, .int (nI nf), .int (wd ||| m1 j), .int fl])), (qS, .inl (E.2.1, 14, .inl (fun w9 => nI (src w9))))] := by exact hD
    exact W.zret (v := 0) hx hb hr (rfl) (fun t ht hW => ⟨⟨_, (), rfl, e9, by rw [ht]; exact hP9, hD9⟩, hS.F ht⟩) hS.2.2 dX1_takeBack_30
  · have c_8 := zI_f c_8
    refine lv_iconst (v := 1) hx hb dX1_takeBack_11 (by decide) ?_
    refine lv_goto (tgt := 16) hx hb dX1_takeBack_12 (by decide) ?_
    refine lv_istore_n (lv' := [(2, .int 1), (0, .ref qK), (1, .int (nI j))]) hx hb dX1_takeBack_16 rfl hl (by decide) rfl (fun ls hl => ?_)
    refine lv_aload_n hx hb dX1_takeBack_17 rfl (lv_at hl 1 rfl) ?_
    refine lv_dup hx hb dX1_takeBack_18 rfl ?_
    refine va_get (D := E.1) (ci := 1) (v := .int wd) (C := RX1) (T := TX1) (N := 4) hx hb hts (fun _ h => List.mem_cons_of_mem _ (List.mem_append_right _ h)) hown hK.1 hP 0 rfl rfl 2 (by decide) (hts (.fieldLink RX1 19 "Quarrelboard$FactBook" "withdrawn" "I") (List.mem_of_getElem? (i := 1) rfl)) (fun _ h9 => h9) rfl dX1_takeBack_19 ?_
    refine lv_iconst (v := 1) hx hb dX1_takeBack_22 (by decide) ?_
    refine lv_iload_n hx hb dX1_takeBack_23 rfl (lv_at hl 2 rfl) ?_
    refine lv_ishl hx hb dX1_takeBack_24 ?_
    refine lv_topi (fun y9 ey9 => ?_)
    obtain rfl : y9 = m1 j := ey9.trans (rfl)
    refine lv_ior hx hb dX1_takeBack_25 ?_
    refine va_put (D := E.1) (ci := 1) (v := .int (wd ||| (m1 j))) (ty := .int) (C := RX1) (T := TX1) (N := 4) hx hb hts (fun _ h => List.mem_cons_of_mem _ (List.mem_append_right _ h)) tyX1 tyX1_ok nmX1 hown hK.1 hP hD hS 0 rfl rfl 2 (by decide) (hts (.fieldLink RX1 19 "Quarrelboard$FactBook" "withdrawn" "I") (List.mem_of_getElem? (i := 1) rfl)) (fun _ h9 => h9) rfl (by decide +kernel) rfl rfl (Nat.le_of_ble_eq_true rfl) dX1_takeBack_26 (fun H locs hP hD hS => ?_)
    have hP : va_P E.1 vwCl [(qK, .inr (1, [.ref qS, .int (nI nf), .int (wd ||| (m1 j)), .int fl])), (qS, .inl (E.2.1, 14, .inl (fun w9 => nI (src w9))))] H := hP
    have hD : va_D A [(qK, .inr (1, [.ref qS, .int (nI nf), .int (wd ||| (m1 j)), .int fl])), (qS, .inl (E.2.1, 14, .inl (fun w9 => nI (src w9))))] := hD
    refine lv_iload_n hx hb dX1_takeBack_29 rfl (lv_at hl 0 rfl) ?_
    have e9 : (1 : Int32) = zI (!bt wd j) := by rw [c_8]; rfl
    have hP9 : va_P E.1 vwCl [(qK, .inr (1, [.ref qS, .int (nI nf), .int (wd ||| m1 j), .int fl])), (qS, .inl (E.2.1, 14, .inl (fun w9 => nI (src w9))))] H := by exact hP
    have hD9 : va_D A [(qK, .inr (1, [.ref qS, .int (nI nf), .int (wd ||| m1 j), .int fl])), (qS, .inl (E.2.1, 14, .inl (fun w9 => nI (src w9))))] := by exact hD
    exact W.zret (v := 1) hx hb hr (rfl) (fun t ht hW => ⟨⟨_, (), rfl, e9, by rw [ht]; exact hP9, hD9⟩, hS.F ht⟩) hS.2.2 dX1_takeBack_30
set_option maxHeartbeats 4000000 in
set_option maxRecDepth 100000 in
theorem c_X1_standing (l : Launch) (E : gE) (qK : Nat) (qS : Nat) (nf : Nat) (wd : Int32) (fl : Int32) (src : Nat → Nat) (hn : nf ≤ 14) (hs : ∀ i, i < nf → src i < 32) : Met l yX1_standing wsX1_standing ({ frames := 1, cells := 0, slots := 0, locals := 21 }) (va_Pc [.ref qK] (pR E [(qK, .inr (1, [.ref qS, .int (nI nf), .int wd, .int fl])), (qS, .inl (E.2.1, 14, .inl (fun w9 => nI (src w9))))])) (vp_Si (fun r => r = stC src wd fl nf)) 0 0 (fun _ => False) := by
  refine Met.ofW (cc := cX1_standing) (maxL := 3) (ret := (some .int)) (by decide) rfl ?_
  intro p e s m args below meth c s₁ B hml hv
  obtain ⟨rfl, hP, hK⟩ := hv
  have hx := B.exec
  have hb := B.bytes
  have hr := B.returns
  have hts := atoms_spec (ws := wsX1_standing) B.pre
  have hown : s.vm.findClass RX1 = some m.cls := findClass_of_methodNamed B.named
  have hlocks := B.notSynchronized
  have hP : va_P E.1 vwCl [(qK, .inr (1, [.ref qS, .int (nI nf), .int wd, .int fl])), (qS, .inl (E.2.1, 14, .inl (fun w9 => nI (src w9))))] s.heap := hP
  have hl := lv_entry ([.ref qK]) (n := 3) (Nat.le_of_ble_eq_true rfl)
  rw [lg_entry_eq]
  generalize (lg_sl ([.ref qK]) ++ List.replicate (3 - (lg_sl ([.ref qK])).length) Slot.unset).toArray = ls at hl ⊢
  have hl : lv_has ls 3 [(0, .ref qK)] := hl
  refine lv_iconst (v := 0) hx hb dX1_standing_0 (by decide) ?_
  refine lv_istore_n (lv' := [(1, .int 0), (0, .ref qK)]) hx hb dX1_standing_1 rfl hl (by decide) rfl (fun ls hl => ?_)
  refine lv_iconst (v := 0) hx hb dX1_standing_2 (by decide) ?_
  refine lv_istore_n (lv' := [(2, .int 0), (1, .int 0), (0, .ref qK)]) hx hb dX1_standing_3 rfl hl (by decide) rfl (fun ls hl => ?_)
  have loop4 : ∀ (z4 k : Nat), k ≤ nf → nf + 1 ≤ k + z4 → ∀ (ls : Array Slot), lv_has ls 3 [(0, .ref qK), (1, .int (stC src wd fl k)), (2, .int (nI k))] → W p l e (headSpec wsX1_standing ({ frames := 1, cells := 0, slots := 0, locals := 21 })).room s m ([.ref qK] : List Value).toArray below meth c s.heap [] 0 0 (MQ below (vp_Si (fun r => r = stC src wd fl nf)) ([.ref qK] : List Value).toArray s 0 0 (fun _ => False)) (F0 m 4 ls []) := by
    intro z4
    induction z4 with
    | zero =>
      intro k hk4 hz4
      exact absurd hz4 (by omega)
    | succ z4 ih4 =>
      intro k hk4 hz4  ls hl
      refine lv_iload_n hx hb dX1_standing_4 rfl (lv_at hl 2 rfl) ?_
      refine lv_aload_n hx hb dX1_standing_5 rfl (lv_at hl 0 rfl) ?_
      refine va_get (D := E.1) (ci := 1) (v := .int (nI nf)) (C := RX1) (T := TX1) (N := 4) hx hb hts (fun _ h => List.mem_cons_of_mem _ (List.mem_append_right _ h)) hown hK.1 hP 0 rfl rfl 1 (by decide) (hts (.fieldLink RX1 15 "Quarrelboard$FactBook" "count" "I") (List.mem_of_getElem? (i := 1) rfl)) (fun _ h9 => h9) rfl dX1_standing_6 ?_
      refine lv_icmp_ge (tgt := 51) hx hb dX1_standing_9 (by decide) (fun c_9 => ?_) (fun c_9 => ?_)
      · have c_9 : nI nf ≤ nI k := c_9
        have c_9 := (nI_leI (a := nf) (b := k) (by omega) (by omega)).mp c_9
        refine lv_iload_n hx hb dX1_standing_51 rfl (lv_at hl 1 rfl) ?_
        have e9 : (stC src wd fl k : Int32) = stC src wd fl nf := by rw [show k = nf from by omega]
        exact W.iret (v := stC src wd fl k) hx hb hr (fun t ht hW => ⟨_, rfl, e9, ht⟩) (fun q h => absurd h List.not_mem_nil) dX1_standing_52
      · have c_9 : ¬ (nI nf ≤ nI k) := c_9
        have c_9 : ¬ (nf ≤ k) := fun h9 => c_9 ((nI_leI (a := nf) (b := k) (by omega) (by omega)).mpr h9)
        refine lv_aload_n hx hb dX1_standing_12 rfl (lv_at hl 0 rfl) ?_
        refine va_get (D := E.1) (ci := 1) (v := .int wd) (C := RX1) (T := TX1) (N := 4) hx hb hts (fun _ h => List.mem_cons_of_mem _ (List.mem_append_right _ h)) hown hK.1 hP 0 rfl rfl 2 (by decide) (hts (.fieldLink RX1 19 "Quarrelboard$FactBook" "withdrawn" "I") (List.mem_of_getElem? (i := 2) rfl)) (fun _ h9 => h9) rfl dX1_standing_13 ?_
        refine lv_iload_n hx hb dX1_standing_16 rfl (lv_at hl 2 rfl) ?_
        refine cl_SN (Wc := []) (As := [.int wd, .int (nI k)]) (rest := []) ⟨hx, hb, hml, hown, hts⟩ (c_X3_contains l E  wd k (by omega)) ⟨va_cnB 2 hts gX1_standing_X3_contains_n25 rfl rfl rfl hK.2.2.1 (hts (.initialized RX3) (List.mem_of_getElem? (i := 6) rfl)) (by decide +kernel) ⟨Nat.le_of_ble_eq_true rfl, Nat.le_of_ble_eq_true rfl⟩, hts (.static yX3_contains) (List.mem_of_getElem? (i := 5) rfl), trivial⟩ hK (hP.sub [] rfl) rfl hl.1 rfl (Nat.le_of_ble_eq_true rfl) dX1_standing_17 ⟨Nat.zero_le _, Nat.zero_le _⟩ ?_
        refine lv_if_ne (tgt := 45) hx hb dX1_standing_20 (by decide) (fun c_20 => ?_) (fun c_20 => ?_)
        · have c_20 := zI_t c_20
          refine lv_iinc (v := nI (k + 1)) (lv' := [(2, .int (nI (k + 1))), (0, .ref qK), (1, .int (stC src wd fl k))]) hx hb dX1_standing_45 hl (k := 2) rfl (nI_1 _) (by decide) rfl (fun ls hl => ?_)
          refine lv_goto (tgt := 4) hx hb dX1_standing_48 (by decide) ?_
          have hl : lv_has ls 3 [(0, .ref qK), (1, .int (stC src wd fl (k + 1))), (2, .int (nI (k + 1)))] := by rw [show stC src wd fl (k + 1) = stC src wd fl k from by simp [stC, c_20]]; exact lv_sub hl [1, 2, 0] rfl
          exact ih4 (k + 1) (by omega) (by omega)  ls hl
        · have c_20 := zI_f c_20
          refine lv_aload_n hx hb dX1_standing_23 rfl (lv_at hl 0 rfl) ?_
          refine va_get (D := E.1) (ci := 1) (v := .int fl) (C := RX1) (T := TX1) (N := 4) hx hb hts (fun _ h => List.mem_cons_of_mem _ (List.mem_append_right _ h)) hown hK.1 hP 0 rfl rfl 3 (by decide) (hts (.fieldLink RX1 22 "Quarrelboard$FactBook" "fallenSources" "I") (List.mem_of_getElem? (i := 3) rfl)) (fun _ h9 => h9) rfl dX1_standing_24 ?_
          refine lv_aload_n hx hb dX1_standing_27 rfl (lv_at hl 0 rfl) ?_
          refine va_get (D := E.1) (ci := 1) (v := .ref qS) (C := RX1) (T := TX1) (N := 4) hx hb hts (fun _ h => List.mem_cons_of_mem _ (List.mem_append_right _ h)) hown hK.1 hP 0 rfl rfl 0 (by decide) (hts (.fieldLink RX1 9 "Quarrelboard$FactBook" "sources" "[I") (List.mem_of_getElem? (i := 4) rfl)) (fun _ h9 => h9) rfl dX1_standing_28 ?_
          refine lv_iload_n hx hb dX1_standing_31 rfl (lv_at hl 2 rfl) ?_
          refine k_ialdN hx hb hK hP 1 (f := src) k rfl (by omega) (by decide) dX1_standing_32 ?_
          refine cl_SN (Wc := []) (As := [.int fl, .int (nI (src k))]) (rest := []) ⟨hx, hb, hml, hown, hts⟩ (c_X3_contains l E  fl (src k) (hs k (by omega))) ⟨va_cnB 2 hts gX1_standing_X3_contains_n25 rfl rfl rfl hK.2.2.1 (hts (.initialized RX3) (List.mem_of_getElem? (i := 6) rfl)) (by decide +kernel) ⟨Nat.le_of_ble_eq_true rfl, Nat.le_of_ble_eq_true rfl⟩, hts (.static yX3_contains) (List.mem_of_getElem? (i := 5) rfl), trivial⟩ hK (hP.sub [] rfl) rfl hl.1 rfl (Nat.le_of_ble_eq_true rfl) dX1_standing_33 ⟨Nat.zero_le _, Nat.zero_le _⟩ ?_
          refine lv_if_ne (tgt := 45) hx hb dX1_standing_36 (by decide) (fun c_36 => ?_) (fun c_36 => ?_)
          · have c_36 := zI_t c_36
            refine lv_iinc (v := nI (k + 1)) (lv' := [(2, .int (nI (k + 1))), (0, .ref qK), (1, .int (stC src wd fl k))]) hx hb dX1_standing_45 hl (k := 2) rfl (nI_1 _) (by decide) rfl (fun ls hl => ?_)
            refine lv_goto (tgt := 4) hx hb dX1_standing_48 (by decide) ?_
            have hl : lv_has ls 3 [(0, .ref qK), (1, .int (stC src wd fl (k + 1))), (2, .int (nI (k + 1)))] := by rw [show stC src wd fl (k + 1) = stC src wd fl k from by simp [stC, c_20, c_36]]; exact lv_sub hl [1, 2, 0] rfl
            exact ih4 (k + 1) (by omega) (by omega)  ls hl
          · have c_36 := zI_f c_36
            refine lv_iload_n hx hb dX1_standing_39 rfl (lv_at hl 1 rfl) ?_
            refine lv_iconst (v := 1) hx hb dX1_standing_40 (by decide) ?_
            refine lv_iload_n hx hb dX1_standing_41 rfl (lv_at hl 2 rfl) ?_
            refine lv_ishl hx hb dX1_standing_42 ?_
            refine lv_topi (fun y9 ey9 => ?_)
            obtain rfl : y9 = m1 k := ey9.trans (rfl)
            refine lv_ior hx hb dX1_standing_43 ?_
            refine lv_istore_n (lv' := [(1, .int ((stC src wd fl k) ||| (m1 k))), (0, .ref qK), (2, .int (nI k))]) hx hb dX1_standing_44 rfl hl (by decide) rfl (fun ls hl => ?_)
            refine lv_iinc (v := nI (k + 1)) (lv' := [(2, .int (nI (k + 1))), (1, .int ((stC src wd fl k) ||| (m1 k))), (0, .ref qK)]) hx hb dX1_standing_45 hl (k := 2) rfl (nI_1 _) (by decide) rfl (fun ls hl => ?_)
            refine lv_goto (tgt := 4) hx hb dX1_standing_48 (by decide) ?_
            have hl : lv_has ls 3 [(0, .ref qK), (1, .int (stC src wd fl (k + 1))), (2, .int (nI (k + 1)))] := by rw [show stC src wd fl (k + 1) = stC src wd fl k ||| m1 k from by simp [stC, c_20, c_36]]; exact lv_sub hl [2, 1, 0] rfl
            exact ih4 (k + 1) (by omega) (by omega)  ls hl
  have hl : lv_has ls 3 [(0, .ref qK), (1, .int (stC src wd fl 0)), (2, .int (nI 0))] := by exact lv_sub hl [2, 1, 0] rfl
  exact loop4 (nf + 1) 0 (by omega) (by omega)  ls hl
end
section
set_option maxHeartbeats 4000000 in
set_option maxRecDepth 100000 in
theorem c_X0_size (l : Launch) (E : gE) (qD : Nat) (qO : Nat) (qG : Nat) (qC : Nat) (qA : Nat) (qB : Nat) (n : Nat) (sp : Nat) (ow : Nat → Nat) (gf : Nat → Int32) (gc : Nat → Int32) (ak : Nat → Int32) (bk : Nat → Int32) : Met l yX0_size wsX0_size ({ frames := 0, cells := 0, slots := 0, locals := 0 }) (va_Pc [.ref qD] (pR E [(qD, .inr (0, [.ref qO, .ref qG, .ref qC, .ref qA, .ref qB, .int (nI n), .int (nI sp)])), (qO, .inl (E.2.1, 16, .inl (fun w9 => nI (ow w9)))), (qG, .inl (E.2.1, 16, .inl gf)), (qC, .inl (E.2.1, 16, .inl gc)), (qA, .inl (E.2.1, 16, .inl ak)), (qB, .inl (E.2.1, 3, .inl bk))])) (vp_Si (fun r => r = nI n)) 0 0 (fun _ => False) := by
  refine Met.ofW (cc := cX0_size) (maxL := 1) (ret := (some .int)) (by decide) rfl ?_
  intro p e s m args below meth c s₁ B hml hv
  obtain ⟨rfl, hP, hK⟩ := hv
  have hx := B.exec
  have hb := B.bytes
  have hr := B.returns
  have hts := atoms_spec (ws := wsX0_size) B.pre
  have hown : s.vm.findClass RX0 = some m.cls := findClass_of_methodNamed B.named
  have hlocks := B.notSynchronized
  have hP : va_P E.1 vwCl [(qD, .inr (0, [.ref qO, .ref qG, .ref qC, .ref qA, .ref qB, .int (nI n), .int (nI sp)])), (qO, .inl (E.2.1, 16, .inl (fun w9 => nI (ow w9)))), (qG, .inl (E.2.1, 16, .inl gf)), (qC, .inl (E.2.1, 16, .inl gc)), (qA, .inl (E.2.1, 16, .inl ak)), (qB, .inl (E.2.1, 3, .inl bk))] s.heap := hP
  have hl := lv_entry ([.ref qD]) (n := 1) (Nat.le_of_ble_eq_true rfl)
  rw [lg_entry_eq]
  generalize (lg_sl ([.ref qD]) ++ List.replicate (1 - (lg_sl ([.ref qD])).length) Slot.unset).toArray = ls at hl ⊢
  have hl : lv_has ls 1 [(0, .ref qD)] := hl
  refine lv_aload_n hx hb dX0_size_0 rfl (lv_at hl 0 rfl) ?_
  refine va_get (D := E.1) (ci := 0) (v := .int (nI n)) (C := RX0) (T := TX0) (N := 7) hx hb hts (fun _ h => List.mem_cons_of_mem _ (List.mem_append_right _ h)) hown hK.1 hP 0 rfl rfl 5 (by decide) (hts (.fieldLink RX0 33 "Quarrelboard$Debate" "count" "I") (List.mem_of_getElem? (i := 1) rfl)) (fun _ h9 => h9) rfl dX0_size_1 ?_
  have e9 : (nI n : Int32) = nI n := by rfl
  exact W.iret (v := nI n) hx hb hr (fun t ht hW => ⟨_, rfl, e9, ht⟩) (fun q h => absurd h List.not_mem_nil) dX0_size_4
set_option maxHeartbeats 4000000 in
set_option maxRecDepth 100000 in
theorem c_X0_speaker (l : Launch) (E : gE) (qD : Nat) (qO : Nat) (qG : Nat) (qC : Nat) (qA : Nat) (qB : Nat) (n : Nat) (sp : Nat) (ow : Nat → Nat) (gf : Nat → Int32) (gc : Nat → Int32) (ak : Nat → Int32) (bk : Nat → Int32) : Met l yX0_speaker wsX0_speaker ({ frames := 0, cells := 0, slots := 0, locals := 0 }) (va_Pc [.ref qD] (pR E [(qD, .inr (0, [.ref qO, .ref qG, .ref qC, .ref qA, .ref qB, .int (nI n), .int (nI sp)])), (qO, .inl (E.2.1, 16, .inl (fun w9 => nI (ow w9)))), (qG, .inl (E.2.1, 16, .inl gf)), (qC, .inl (E.2.1, 16, .inl gc)), (qA, .inl (E.2.1, 16, .inl ak)), (qB, .inl (E.2.1, 3, .inl bk))])) (vp_Si (fun r => r = nI sp)) 0 0 (fun _ => False) := by
  refine Met.ofW (cc := cX0_speaker) (maxL := 1) (ret := (some .int)) (by decide) rfl ?_
  intro p e s m args below meth c s₁ B hml hv
  obtain ⟨rfl, hP, hK⟩ := hv
  have hx := B.exec
  have hb := B.bytes
  have hr := B.returns
  have hts := atoms_spec (ws := wsX0_speaker) B.pre
  have hown : s.vm.findClass RX0 = some m.cls := findClass_of_methodNamed B.named
  have hlocks := B.notSynchronized
  have hP : va_P E.1 vwCl [(qD, .inr (0, [.ref qO, .ref qG, .ref qC, .ref qA, .ref qB, .int (nI n), .int (nI sp)])), (qO, .inl (E.2.1, 16, .inl (fun w9 => nI (ow w9)))), (qG, .inl (E.2.1, 16, .inl gf)), (qC, .inl (E.2.1, 16, .inl gc)), (qA, .inl (E.2.1, 16, .inl ak)), (qB, .inl (E.2.1, 3, .inl bk))] s.heap := hP
  have hl := lv_entry ([.ref qD]) (n := 1) (Nat.le_of_ble_eq_true rfl)
  rw [lg_entry_eq]
  generalize (lg_sl ([.ref qD]) ++ List.replicate (1 - (lg_sl ([.ref qD])).length) Slot.unset).toArray = ls at hl ⊢
  have hl : lv_has ls 1 [(0, .ref qD)] := hl
  refine lv_aload_n hx hb dX0_speaker_0 rfl (lv_at hl 0 rfl) ?_
  refine va_get (D := E.1) (ci := 0) (v := .int (nI sp)) (C := RX0) (T := TX0) (N := 7) hx hb hts (fun _ h => List.mem_cons_of_mem _ (List.mem_append_right _ h)) hown hK.1 hP 0 rfl rfl 6 (by decide) (hts (.fieldLink RX0 37 "Quarrelboard$Debate" "speaker" "I") (List.mem_of_getElem? (i := 1) rfl)) (fun _ h9 => h9) rfl dX0_speaker_1 ?_
  have e9 : (nI sp : Int32) = nI sp := by rfl
  exact W.iret (v := nI sp) hx hb hr (fun t ht hW => ⟨_, rfl, e9, ht⟩) (fun q h => absurd h List.not_mem_nil) dX0_speaker_4
set_option maxHeartbeats 4000000 in
set_option maxRecDepth 100000 in
theorem c_X0_secondsLeft (l : Launch) (E : gE) (qD : Nat) (qO : Nat) (qG : Nat) (qC : Nat) (qA : Nat) (qB : Nat) (n : Nat) (sp : Nat) (ow : Nat → Nat) (gf : Nat → Int32) (gc : Nat → Int32) (ak : Nat → Int32) (bk : Nat → Int32) (j : Nat) (hj : j < 3) : Met l yX0_secondsLeft wsX0_secondsLeft ({ frames := 0, cells := 0, slots := 0, locals := 0 }) (va_Pc [.ref qD, .int (nI j)] (pR E [(qD, .inr (0, [.ref qO, .ref qG, .ref qC, .ref qA, .ref qB, .int (nI n), .int (nI sp)])), (qO, .inl (E.2.1, 16, .inl (fun w9 => nI (ow w9)))), (qG, .inl (E.2.1, 16, .inl gf)), (qC, .inl (E.2.1, 16, .inl gc)), (qA, .inl (E.2.1, 16, .inl ak)), (qB, .inl (E.2.1, 3, .inl bk))])) (vp_Si (fun r => r = bk j)) 0 0 (fun _ => False) := by
  refine Met.ofW (cc := cX0_secondsLeft) (maxL := 2) (ret := (some .int)) (by decide) rfl ?_
  intro p e s m args below meth c s₁ B hml hv
  obtain ⟨rfl, hP, hK⟩ := hv
  have hx := B.exec
  have hb := B.bytes
  have hr := B.returns
  have hts := atoms_spec (ws := wsX0_secondsLeft) B.pre
  have hown : s.vm.findClass RX0 = some m.cls := findClass_of_methodNamed B.named
  have hlocks := B.notSynchronized
  have hP : va_P E.1 vwCl [(qD, .inr (0, [.ref qO, .ref qG, .ref qC, .ref qA, .ref qB, .int (nI n), .int (nI sp)])), (qO, .inl (E.2.1, 16, .inl (fun w9 => nI (ow w9)))), (qG, .inl (E.2.1, 16, .inl gf)), (qC, .inl (E.2.1, 16, .inl gc)), (qA, .inl (E.2.1, 16, .inl ak)), (qB, .inl (E.2.1, 3, .inl bk))] s.heap := hP
  have hl := lv_entry ([.ref qD, .int (nI j)]) (n := 2) (Nat.le_of_ble_eq_true rfl)
  rw [lg_entry_eq]
  generalize (lg_sl ([.ref qD, .int (nI j)]) ++ List.replicate (2 - (lg_sl ([.ref qD, .int (nI j)])).length) Slot.unset).toArray = ls at hl ⊢
  have hl : lv_has ls 2 [(0, .ref qD), (1, .int (nI j))] := hl
  refine lv_aload_n hx hb dX0_secondsLeft_0 rfl (lv_at hl 0 rfl) ?_
  refine va_get (D := E.1) (ci := 0) (v := .ref qB) (C := RX0) (T := TX0) (N := 7) hx hb hts (fun _ h => List.mem_cons_of_mem _ (List.mem_append_right _ h)) hown hK.1 hP 0 rfl rfl 4 (by decide) (hts (.fieldLink RX0 24 "Quarrelboard$Debate" "banks" "[I") (List.mem_of_getElem? (i := 1) rfl)) (fun _ h9 => h9) rfl dX0_secondsLeft_1 ?_
  refine lv_iload_n hx hb dX0_secondsLeft_4 rfl (lv_at hl 1 rfl) ?_
  refine k_iald hx hb hK hP 5 (f := bk) j rfl (by omega) (by decide) dX0_secondsLeft_5 ?_
  have e9 : (bk j : Int32) = bk j := by rfl
  exact W.iret (v := bk j) hx hb hr (fun t ht hW => ⟨_, rfl, e9, ht⟩) (fun q h => absurd h List.not_mem_nil) dX0_secondsLeft_6
set_option maxHeartbeats 4000000 in
set_option maxRecDepth 100000 in
theorem c_X0_ownerOf (l : Launch) (E : gE) (qD : Nat) (qO : Nat) (qG : Nat) (qC : Nat) (qA : Nat) (qB : Nat) (n : Nat) (sp : Nat) (ow : Nat → Nat) (gf : Nat → Int32) (gc : Nat → Int32) (ak : Nat → Int32) (bk : Nat → Int32) (j : Nat) (hj : j < 16) : Met l yX0_ownerOf wsX0_ownerOf ({ frames := 0, cells := 0, slots := 0, locals := 0 }) (va_Pc [.ref qD, .int (nI j)] (pR E [(qD, .inr (0, [.ref qO, .ref qG, .ref qC, .ref qA, .ref qB, .int (nI n), .int (nI sp)])), (qO, .inl (E.2.1, 16, .inl (fun w9 => nI (ow w9)))), (qG, .inl (E.2.1, 16, .inl gf)), (qC, .inl (E.2.1, 16, .inl gc)), (qA, .inl (E.2.1, 16, .inl ak)), (qB, .inl (E.2.1, 3, .inl bk))])) (vp_Si (fun r => r = nI (ow j))) 0 0 (fun _ => False) := by
  refine Met.ofW (cc := cX0_ownerOf) (maxL := 2) (ret := (some .int)) (by decide) rfl ?_
  intro p e s m args below meth c s₁ B hml hv
  obtain ⟨rfl, hP, hK⟩ := hv
  have hx := B.exec
  have hb := B.bytes
  have hr := B.returns
  have hts := atoms_spec (ws := wsX0_ownerOf) B.pre
  have hown : s.vm.findClass RX0 = some m.cls := findClass_of_methodNamed B.named
  have hlocks := B.notSynchronized
  have hP : va_P E.1 vwCl [(qD, .inr (0, [.ref qO, .ref qG, .ref qC, .ref qA, .ref qB, .int (nI n), .int (nI sp)])), (qO, .inl (E.2.1, 16, .inl (fun w9 => nI (ow w9)))), (qG, .inl (E.2.1, 16, .inl gf)), (qC, .inl (E.2.1, 16, .inl gc)), (qA, .inl (E.2.1, 16, .inl ak)), (qB, .inl (E.2.1, 3, .inl bk))] s.heap := hP
  have hl := lv_entry ([.ref qD, .int (nI j)]) (n := 2) (Nat.le_of_ble_eq_true rfl)
  rw [lg_entry_eq]
  generalize (lg_sl ([.ref qD, .int (nI j)]) ++ List.replicate (2 - (lg_sl ([.ref qD, .int (nI j)])).length) Slot.unset).toArray = ls at hl ⊢
  have hl : lv_has ls 2 [(0, .ref qD), (1, .int (nI j))] := hl
  refine lv_aload_n hx hb dX0_ownerOf_0 rfl (lv_at hl 0 rfl) ?_
  refine va_get (D := E.1) (ci := 0) (v := .ref qO) (C := RX0) (T := TX0) (N := 7) hx hb hts (fun _ h => List.mem_cons_of_mem _ (List.mem_append_right _ h)) hown hK.1 hP 0 rfl rfl 0 (by decide) (hts (.fieldLink RX0 9 "Quarrelboard$Debate" "owners" "[I") (List.mem_of_getElem? (i := 1) rfl)) (fun _ h9 => h9) rfl dX0_ownerOf_1 ?_
  refine lv_iload_n hx hb dX0_ownerOf_4 rfl (lv_at hl 1 rfl) ?_
  refine k_ialdN hx hb hK hP 1 (f := ow) j rfl (by omega) (by decide) dX0_ownerOf_5 ?_
  have e9 : (nI (ow j) : Int32) = nI (ow j) := by rfl
  exact W.iret (v := nI (ow j)) hx hb hr (fun t ht hW => ⟨_, rfl, e9, ht⟩) (fun q h => absurd h List.not_mem_nil) dX0_ownerOf_6
set_option maxHeartbeats 4000000 in
set_option maxRecDepth 100000 in
theorem c_X0_passTurn (l : Launch) (E : gE) (qD : Nat) (qO : Nat) (qG : Nat) (qC : Nat) (qA : Nat) (qB : Nat) (n : Nat) (sp : Nat) (ow : Nat → Nat) (gf : Nat → Int32) (gc : Nat → Int32) (ak : Nat → Int32) (bk : Nat → Int32) (sz : Nat) (hs : sp < 3) : Met l yX0_passTurn wsX0_passTurn ({ frames := 0, cells := 0, slots := 0, locals := 0 }) (va_Pc [.ref qD] (pW E [(qD, .inr (0, [.ref qO, .ref qG, .ref qC, .ref qA, .ref qB, .int (nI n), .int (nI sp)])), (qO, .inl (E.2.1, 16, .inl (fun w9 => nI (ow w9)))), (qG, .inl (E.2.1, 16, .inl gf)), (qC, .inl (E.2.1, 16, .inl gc)), (qA, .inl (E.2.1, 16, .inl ak)), (qB, .inl (E.2.1, 3, .inl bk))] sz)) (va_Qv (fun (_ : Unit) => True) (fun _ => eW E (va_A [(qD, .inr (0, [.ref qO, .ref qG, .ref qC, .ref qA, .ref qB, .int (nI n), .int (nI sp)])), (qO, .inl (E.2.1, 16, .inl (fun w9 => nI (ow w9)))), (qG, .inl (E.2.1, 16, .inl gf)), (qC, .inl (E.2.1, 16, .inl gc)), (qA, .inl (E.2.1, 16, .inl ak)), (qB, .inl (E.2.1, 3, .inl bk))] sz) [(qD, .inr (0, [.ref qO, .ref qG, .ref qC, .ref qA, .ref qB, .int (nI n), .int (nI (nx sp))])), (qO, .inl (E.2.1, 16, .inl (fun w9 => nI (ow w9)))), (qG, .inl (E.2.1, 16, .inl gf)), (qC, .inl (E.2.1, 16, .inl gc)), (qA, .inl (E.2.1, 16, .inl ak)), (qB, .inl (E.2.1, 3, .inl bk))]) (va_A [(qD, .inr (0, [.ref qO, .ref qG, .ref qC, .ref qA, .ref qB, .int (nI n), .int (nI sp)])), (qO, .inl (E.2.1, 16, .inl (fun w9 => nI (ow w9)))), (qG, .inl (E.2.1, 16, .inl gf)), (qC, .inl (E.2.1, 16, .inl gc)), (qA, .inl (E.2.1, 16, .inl ak)), (qB, .inl (E.2.1, 3, .inl bk))] sz)) 0 0 (va_A [(qD, .inr (0, [.ref qO, .ref qG, .ref qC, .ref qA, .ref qB, .int (nI n), .int (nI sp)])), (qO, .inl (E.2.1, 16, .inl (fun w9 => nI (ow w9)))), (qG, .inl (E.2.1, 16, .inl gf)), (qC, .inl (E.2.1, 16, .inl gc)), (qA, .inl (E.2.1, 16, .inl ak)), (qB, .inl (E.2.1, 3, .inl bk))] sz) := by
  refine Met.ofW (cc := cX0_passTurn) (maxL := 1) (ret := none) (by decide) rfl ?_
  intro p e s m args below meth c s₁ B hml hv
  obtain ⟨rfl, hsz, hP, hK, hD0⟩ := hv
  have hx := B.exec
  have hb := B.bytes
  have hr := B.returns
  have hts := atoms_spec (ws := wsX0_passTurn) B.pre
  have hown : s.vm.findClass RX0 = some m.cls := findClass_of_methodNamed B.named
  have hlocks := B.notSynchronized
  subst hsz
  have hD := hD0.self (sz := s.heap.size)
  generalize hAe : va_A [(qD, .inr (0, [.ref qO, .ref qG, .ref qC, .ref qA, .ref qB, .int (nI n), .int (nI sp)])), (qO, .inl (E.2.1, 16, .inl (fun w9 => nI (ow w9)))), (qG, .inl (E.2.1, 16, .inl gf)), (qC, .inl (E.2.1, 16, .inl gc)), (qA, .inl (E.2.1, 16, .inl ak)), (qB, .inl (E.2.1, 3, .inl bk))] s.heap.size = A at hD ⊢
  have hA : ∀ q : Nat, s.heap.size ≤ q → A q := fun q h => by rw [← hAe]; exact Or.inr h
  have hS : va_S A s.heap s.heap [] := va_S.rf
  have hl := lv_entry ([.ref qD]) (n := 1) (Nat.le_of_ble_eq_true rfl)
  rw [lg_entry_eq]
  generalize (lg_sl ([.ref qD]) ++ List.replicate (1 - (lg_sl ([.ref qD])).length) Slot.unset).toArray = ls at hl ⊢
  have hl : lv_has ls 1 [(0, .ref qD)] := hl
  refine lv_aload_n hx hb dX0_passTurn_0 rfl (lv_at hl 0 rfl) ?_
  refine lv_aload_n hx hb dX0_passTurn_1 rfl (lv_at hl 0 rfl) ?_
  refine va_get (D := E.1) (ci := 0) (v := .int (nI sp)) (C := RX0) (T := TX0) (N := 7) hx hb hts (fun _ h => List.mem_cons_of_mem _ (List.mem_append_right _ h)) hown hK.1 hP 0 rfl rfl 6 (by decide) (hts (.fieldLink RX0 37 "Quarrelboard$Debate" "speaker" "I") (List.mem_of_getElem? (i := 1) rfl)) (fun _ h9 => h9) rfl dX0_passTurn_2 ?_
  refine lv_iconst (v := 2) hx hb dX0_passTurn_5 (by decide) ?_
  refine lv_icmp_ge (tgt := 18) hx hb dX0_passTurn_6 (by decide) (fun c_6 => ?_) (fun c_6 => ?_)
  · have c_6 : nI 2 ≤ nI sp := c_6
    have c_6 := (nI_leI (a := 2) (b := sp) (by omega) (by omega)).mp c_6
    refine lv_iconst (v := 0) hx hb dX0_passTurn_18 (by decide) ?_
    refine va_put (D := E.1) (ci := 0) (v := .int 0) (ty := .int) (C := RX0) (T := TX0) (N := 7) hx hb hts (fun _ h => List.mem_cons_of_mem _ (List.mem_append_right _ h)) tyX0 tyX0_ok nmX0 hown hK.1 hP hD hS 0 rfl rfl 6 (by decide) (hts (.fieldLink RX0 37 "Quarrelboard$Debate" "speaker" "I") (List.mem_of_getElem? (i := 1) rfl)) (fun _ h9 => h9) rfl (by decide +kernel) rfl rfl (Nat.le_of_ble_eq_true rfl) dX0_passTurn_19 (fun H locs hP hD hS => ?_)
    have hP : va_P E.1 vwCl [(qD, .inr (0, [.ref qO, .ref qG, .ref qC, .ref qA, .ref qB, .int (nI n), .int (nI 0)])), (qO, .inl (E.2.1, 16, .inl (fun w9 => nI (ow w9)))), (qG, .inl (E.2.1, 16, .inl gf)), (qC, .inl (E.2.1, 16, .inl gc)), (qA, .inl (E.2.1, 16, .inl ak)), (qB, .inl (E.2.1, 3, .inl bk))] H := hP
    have hD : va_D A [(qD, .inr (0, [.ref qO, .ref qG, .ref qC, .ref qA, .ref qB, .int (nI n), .int (nI 0)])), (qO, .inl (E.2.1, 16, .inl (fun w9 => nI (ow w9)))), (qG, .inl (E.2.1, 16, .inl gf)), (qC, .inl (E.2.1, 16, .inl gc)), (qA, .inl (E.2.1, 16, .inl ak)), (qB, .inl (E.2.1, 3, .inl bk))] := hD
    have hP9 : va_P E.1 vwCl [(qD, .inr (0, [.ref qO, .ref qG, .ref qC, .ref qA, .ref qB, .int (nI n), .int (nI (nx sp))])), (qO, .inl (E.2.1, 16, .inl (fun w9 => nI (ow w9)))), (qG, .inl (E.2.1, 16, .inl gf)), (qC, .inl (E.2.1, 16, .inl gc)), (qA, .inl (E.2.1, 16, .inl ak)), (qB, .inl (E.2.1, 3, .inl bk))] H := by rw [show nx sp = 0 from by simp [nx]; omega]; exact hP
    have hD9 : va_D A [(qD, .inr (0, [.ref qO, .ref qG, .ref qC, .ref qA, .ref qB, .int (nI n), .int (nI (nx sp))])), (qO, .inl (E.2.1, 16, .inl (fun w9 => nI (ow w9)))), (qG, .inl (E.2.1, 16, .inl gf)), (qC, .inl (E.2.1, 16, .inl gc)), (qA, .inl (E.2.1, 16, .inl ak)), (qB, .inl (E.2.1, 3, .inl bk))] := by rw [show nx sp = 0 from by simp [nx]; omega]; exact hD
    exact W.vret hx hb hr (fun t ht hW => ⟨⟨(), rfl, trivial, by rw [ht]; exact hP9, hD9⟩, hS.F ht⟩) hS.2.2 dX0_passTurn_22
  · have c_6 : ¬ (nI 2 ≤ nI sp) := c_6
    have c_6 : ¬ (2 ≤ sp) := fun h9 => c_6 ((nI_leI (a := 2) (b := sp) (by omega) (by omega)).mpr h9)
    refine lv_aload_n hx hb dX0_passTurn_9 rfl (lv_at hl 0 rfl) ?_
    refine va_get (D := E.1) (ci := 0) (v := .int (nI sp)) (C := RX0) (T := TX0) (N := 7) hx hb hts (fun _ h => List.mem_cons_of_mem _ (List.mem_append_right _ h)) hown hK.1 hP 0 rfl rfl 6 (by decide) (hts (.fieldLink RX0 37 "Quarrelboard$Debate" "speaker" "I") (List.mem_of_getElem? (i := 1) rfl)) (fun _ h9 => h9) rfl dX0_passTurn_10 ?_
    refine lv_iconst (v := 1) hx hb dX0_passTurn_13 (by decide) ?_
    refine lv_iadd hx hb dX0_passTurn_14 ?_
    refine lv_topi (fun y9 ey9 => ?_)
    obtain rfl : y9 = nI (sp + 1) := ey9.trans (nI_1 _)
    refine lv_goto (tgt := 19) hx hb dX0_passTurn_15 (by decide) ?_
    refine va_put (D := E.1) (ci := 0) (v := .int (nI (sp + 1))) (ty := .int) (C := RX0) (T := TX0) (N := 7) hx hb hts (fun _ h => List.mem_cons_of_mem _ (List.mem_append_right _ h)) tyX0 tyX0_ok nmX0 hown hK.1 hP hD hS 0 rfl rfl 6 (by decide) (hts (.fieldLink RX0 37 "Quarrelboard$Debate" "speaker" "I") (List.mem_of_getElem? (i := 1) rfl)) (fun _ h9 => h9) rfl (by decide +kernel) rfl rfl (Nat.le_of_ble_eq_true rfl) dX0_passTurn_19 (fun H locs hP hD hS => ?_)
    have hP : va_P E.1 vwCl [(qD, .inr (0, [.ref qO, .ref qG, .ref qC, .ref qA, .ref qB, .int (nI n), .int (nI (sp + 1))])), (qO, .inl (E.2.1, 16, .inl (fun w9 => nI (ow w9)))), (qG, .inl (E.2.1, 16, .inl gf)), (qC, .inl (E.2.1, 16, .inl gc)), (qA, .inl (E.2.1, 16, .inl ak)), (qB, .inl (E.2.1, 3, .inl bk))] H := hP
    have hD : va_D A [(qD, .inr (0, [.ref qO, .ref qG, .ref qC, .ref qA, .ref qB, .int (nI n), .int (nI (sp + 1))])), (qO, .inl (E.2.1, 16, .inl (fun w9 => nI (ow w9)))), (qG, .inl (E.2.1, 16, .inl gf)), (qC, .inl (E.2.1, 16, .inl gc)), (qA, .inl (E.2.1, 16, .inl ak)), (qB, .inl (E.2.1, 3, .inl bk))] := hD
    have hP9 : va_P E.1 vwCl [(qD, .inr (0, [.ref qO, .ref qG, .ref qC, .ref qA, .ref qB, .int (nI n), .int (nI (nx sp))])), (qO, .inl (E.2.1, 16, .inl (fun w9 => nI (ow w9)))), (qG, .inl (E.2.1, 16, .inl gf)), (qC, .inl (E.2.1, 16, .inl gc)), (qA, .inl (E.2.1, 16, .inl ak)), (qB, .inl (E.2.1, 3, .inl bk))] H := by rw [show nx sp = sp + 1 from by simp [nx]; omega]; exact hP
    have hD9 : va_D A [(qD, .inr (0, [.ref qO, .ref qG, .ref qC, .ref qA, .ref qB, .int (nI n), .int (nI (nx sp))])), (qO, .inl (E.2.1, 16, .inl (fun w9 => nI (ow w9)))), (qG, .inl (E.2.1, 16, .inl gf)), (qC, .inl (E.2.1, 16, .inl gc)), (qA, .inl (E.2.1, 16, .inl ak)), (qB, .inl (E.2.1, 3, .inl bk))] := by rw [show nx sp = sp + 1 from by simp [nx]; omega]; exact hD
    exact W.vret hx hb hr (fun t ht hW => ⟨⟨(), rfl, trivial, by rw [ht]; exact hP9, hD9⟩, hS.F ht⟩) hS.2.2 dX0_passTurn_22
set_option maxHeartbeats 4000000 in
set_option maxRecDepth 100000 in
theorem c_X0_add_no (l : Launch) (E : gE) (qD : Nat) (qO : Nat) (qG : Nat) (qC : Nat) (qA : Nat) (qB : Nat) (n : Nat) (sp : Nat) (ow : Nat → Nat) (gf : Nat → Int32) (gc : Nat → Int32) (ak : Nat → Int32) (bk : Nat → Int32) (f : Int32) (se : Int32) (hn : n ≤ 16) (hs : sp < 3) (hbk : 16 ≤ n ∨ ¬ se ≤ bk sp) : Met l yX0_add wsX0_add ({ frames := 0, cells := 0, slots := 0, locals := 0 }) (va_Pc [.ref qD, .int f, .int se] (pR E [(qD, .inr (0, [.ref qO, .ref qG, .ref qC, .ref qA, .ref qB, .int (nI n), .int (nI sp)])), (qO, .inl (E.2.1, 16, .inl (fun w9 => nI (ow w9)))), (qG, .inl (E.2.1, 16, .inl gf)), (qC, .inl (E.2.1, 16, .inl gc)), (qA, .inl (E.2.1, 16, .inl ak)), (qB, .inl (E.2.1, 3, .inl bk))])) (vp_Si (fun r => r = (-1))) 0 0 (fun _ => False) := by
  refine Met.ofW (cc := cX0_add) (maxL := 4) (ret := (some .int)) (by decide) rfl ?_
  intro p e s m args below meth c s₁ B hml hv
  obtain ⟨rfl, hP, hK⟩ := hv
  have hx := B.exec
  have hb := B.bytes
  have hr := B.returns
  have hts := atoms_spec (ws := wsX0_add) B.pre
  have hown : s.vm.findClass RX0 = some m.cls := findClass_of_methodNamed B.named
  have hlocks := B.notSynchronized
  have hP : va_P E.1 vwCl [(qD, .inr (0, [.ref qO, .ref qG, .ref qC, .ref qA, .ref qB, .int (nI n), .int (nI sp)])), (qO, .inl (E.2.1, 16, .inl (fun w9 => nI (ow w9)))), (qG, .inl (E.2.1, 16, .inl gf)), (qC, .inl (E.2.1, 16, .inl gc)), (qA, .inl (E.2.1, 16, .inl ak)), (qB, .inl (E.2.1, 3, .inl bk))] s.heap := hP
  have hl := lv_entry ([.ref qD, .int f, .int se]) (n := 4) (Nat.le_of_ble_eq_true rfl)
  rw [lg_entry_eq]
  generalize (lg_sl ([.ref qD, .int f, .int se]) ++ List.replicate (4 - (lg_sl ([.ref qD, .int f, .int se])).length) Slot.unset).toArray = ls at hl ⊢
  have hl : lv_has ls 4 [(0, .ref qD), (1, .int f), (2, .int se)] := hl
  refine lv_aload_n hx hb dX0_add_0 rfl (lv_at hl 0 rfl) ?_
  refine va_get (D := E.1) (ci := 0) (v := .int (nI n)) (C := RX0) (T := TX0) (N := 7) hx hb hts (fun _ h => List.mem_cons_of_mem _ (List.mem_append_right _ h)) hown hK.1 hP 0 rfl rfl 5 (by decide) (hts (.fieldLink RX0 33 "Quarrelboard$Debate" "count" "I") (List.mem_of_getElem? (i := 1) rfl)) (fun _ h9 => h9) rfl dX0_add_1 ?_
  refine lv_bipush (v := 16) hx hb dX0_add_4 (by decide) ?_
  refine lv_icmp_ge (tgt := 22) hx hb dX0_add_6 (by decide) (fun c_6 => ?_) (fun c_6 => ?_)
  · have c_6 : nI 16 ≤ nI n := c_6
    have c_6 := (nI_leI (a := 16) (b := n) (by omega) (by omega)).mp c_6
    refine lv_iconst (v := (-1)) hx hb dX0_add_22 (by decide) ?_
    have e9 : ((-1) : Int32) = (-1) := by rfl
    exact W.iret (v := (-1)) hx hb hr (fun t ht hW => ⟨_, rfl, e9, ht⟩) (fun q h => absurd h List.not_mem_nil) dX0_add_23
  · have c_6 : ¬ (nI 16 ≤ nI n) := c_6
    have c_6 : ¬ (16 ≤ n) := fun h9 => c_6 ((nI_leI (a := 16) (b := n) (by omega) (by omega)).mpr h9)
    refine lv_aload_n hx hb dX0_add_9 rfl (lv_at hl 0 rfl) ?_
    refine va_get (D := E.1) (ci := 0) (v := .ref qB) (C := RX0) (T := TX0) (N := 7) hx hb hts (fun _ h => List.mem_cons_of_mem _ (List.mem_append_right _ h)) hown hK.1 hP 0 rfl rfl 4 (by decide) (hts (.fieldLink RX0 24 "Quarrelboard$Debate" "banks" "[I") (List.mem_of_getElem? (i := 2) rfl)) (fun _ h9 => h9) rfl dX0_add_10 ?_
    refine lv_aload_n hx hb dX0_add_13 rfl (lv_at hl 0 rfl) ?_
    refine va_get (D := E.1) (ci := 0) (v := .int (nI sp)) (C := RX0) (T := TX0) (N := 7) hx hb hts (fun _ h => List.mem_cons_of_mem _ (List.mem_append_right _ h)) hown hK.1 hP 0 rfl rfl 6 (by decide) (hts (.fieldLink RX0 37 "Quarrelboard$Debate" "speaker" "I") (List.mem_of_getElem? (i := 3) rfl)) (fun _ h9 => h9) rfl dX0_add_14 ?_
    refine k_iald hx hb hK hP 5 (f := bk) sp rfl (by omega) (by decide) dX0_add_17 ?_
    refine lv_iload_n hx hb dX0_add_18 rfl (lv_at hl 2 rfl) ?_
    refine lv_icmp_ge (tgt := 24) hx hb dX0_add_19 (by decide) (fun c_19 => ?_) (fun c_19 => ?_)
    · skip
      exact (hbk.elim (fun h => c_6 h) (fun h => h c_19)).elim
    · skip
      refine lv_iconst (v := (-1)) hx hb dX0_add_22 (by decide) ?_
      have e9 : ((-1) : Int32) = (-1) := by rfl
      exact W.iret (v := (-1)) hx hb hr (fun t ht hW => ⟨_, rfl, e9, ht⟩) (fun q h => absurd h List.not_mem_nil) dX0_add_23
set_option maxHeartbeats 4000000 in
set_option maxRecDepth 100000 in
theorem c_X0_add (l : Launch) (E : gE) (qD : Nat) (qO : Nat) (qG : Nat) (qC : Nat) (qA : Nat) (qB : Nat) (n : Nat) (sp : Nat) (ow : Nat → Nat) (gf : Nat → Int32) (gc : Nat → Int32) (ak : Nat → Int32) (bk : Nat → Int32) (sz : Nat) (f : Int32) (se : Int32) (hn : n < 16) (hs : sp < 3) (hbk : se ≤ bk sp) : Met l yX0_add wsX0_add ({ frames := 1, cells := 0, slots := 0, locals := 20 }) (va_Pc [.ref qD, .int f, .int se] (pW E [(qD, .inr (0, [.ref qO, .ref qG, .ref qC, .ref qA, .ref qB, .int (nI n), .int (nI sp)])), (qO, .inl (E.2.1, 16, .inl (fun w9 => nI (ow w9)))), (qG, .inl (E.2.1, 16, .inl gf)), (qC, .inl (E.2.1, 16, .inl gc)), (qA, .inl (E.2.1, 16, .inl ak)), (qB, .inl (E.2.1, 3, .inl bk))] sz)) (va_Qi (fun r (_ : Unit) => r = nI n) (fun _ => eW E (va_A [(qD, .inr (0, [.ref qO, .ref qG, .ref qC, .ref qA, .ref qB, .int (nI n), .int (nI sp)])), (qO, .inl (E.2.1, 16, .inl (fun w9 => nI (ow w9)))), (qG, .inl (E.2.1, 16, .inl gf)), (qC, .inl (E.2.1, 16, .inl gc)), (qA, .inl (E.2.1, 16, .inl ak)), (qB, .inl (E.2.1, 3, .inl bk))] sz) [(qD, .inr (0, [.ref qO, .ref qG, .ref qC, .ref qA, .ref qB, .int (nI (n + 1)), .int (nI (nx sp))])), (qO, .inl (E.2.1, 16, .inl (fun w9 => nI ((upN ow n sp) w9)))), (qG, .inl (E.2.1, 16, .inl (upd gf n f))), (qC, .inl (E.2.1, 16, .inl (upd gc n 0))), (qA, .inl (E.2.1, 16, .inl (upd ak n 0))), (qB, .inl (E.2.1, 3, .inl (upd bk sp (bk sp - se))))]) (va_A [(qD, .inr (0, [.ref qO, .ref qG, .ref qC, .ref qA, .ref qB, .int (nI n), .int (nI sp)])), (qO, .inl (E.2.1, 16, .inl (fun w9 => nI (ow w9)))), (qG, .inl (E.2.1, 16, .inl gf)), (qC, .inl (E.2.1, 16, .inl gc)), (qA, .inl (E.2.1, 16, .inl ak)), (qB, .inl (E.2.1, 3, .inl bk))] sz)) 0 0 (va_A [(qD, .inr (0, [.ref qO, .ref qG, .ref qC, .ref qA, .ref qB, .int (nI n), .int (nI sp)])), (qO, .inl (E.2.1, 16, .inl (fun w9 => nI (ow w9)))), (qG, .inl (E.2.1, 16, .inl gf)), (qC, .inl (E.2.1, 16, .inl gc)), (qA, .inl (E.2.1, 16, .inl ak)), (qB, .inl (E.2.1, 3, .inl bk))] sz) := by
  refine Met.ofW (cc := cX0_add) (maxL := 4) (ret := (some .int)) (by decide) rfl ?_
  intro p e s m args below meth c s₁ B hml hv
  obtain ⟨rfl, hsz, hP, hK, hD0⟩ := hv
  have hx := B.exec
  have hb := B.bytes
  have hr := B.returns
  have hts := atoms_spec (ws := wsX0_add) B.pre
  have hown : s.vm.findClass RX0 = some m.cls := findClass_of_methodNamed B.named
  have hlocks := B.notSynchronized
  subst hsz
  have hD := hD0.self (sz := s.heap.size)
  generalize hAe : va_A [(qD, .inr (0, [.ref qO, .ref qG, .ref qC, .ref qA, .ref qB, .int (nI n), .int (nI sp)])), (qO, .inl (E.2.1, 16, .inl (fun w9 => nI (ow w9)))), (qG, .inl (E.2.1, 16, .inl gf)), (qC, .inl (E.2.1, 16, .inl gc)), (qA, .inl (E.2.1, 16, .inl ak)), (qB, .inl (E.2.1, 3, .inl bk))] s.heap.size = A at hD ⊢
  have hA : ∀ q : Nat, s.heap.size ≤ q → A q := fun q h => by rw [← hAe]; exact Or.inr h
  have hS : va_S A s.heap s.heap [] := va_S.rf
  have hl := lv_entry ([.ref qD, .int f, .int se]) (n := 4) (Nat.le_of_ble_eq_true rfl)
  rw [lg_entry_eq]
  generalize (lg_sl ([.ref qD, .int f, .int se]) ++ List.replicate (4 - (lg_sl ([.ref qD, .int f, .int se])).length) Slot.unset).toArray = ls at hl ⊢
  have hl : lv_has ls 4 [(0, .ref qD), (1, .int f), (2, .int se)] := hl
  refine lv_aload_n hx hb dX0_add_0 rfl (lv_at hl 0 rfl) ?_
  refine va_get (D := E.1) (ci := 0) (v := .int (nI n)) (C := RX0) (T := TX0) (N := 7) hx hb hts (fun _ h => List.mem_cons_of_mem _ (List.mem_append_right _ h)) hown hK.1 hP 0 rfl rfl 5 (by decide) (hts (.fieldLink RX0 33 "Quarrelboard$Debate" "count" "I") (List.mem_of_getElem? (i := 1) rfl)) (fun _ h9 => h9) rfl dX0_add_1 ?_
  refine lv_bipush (v := 16) hx hb dX0_add_4 (by decide) ?_
  refine lv_icmp_ge (tgt := 22) hx hb dX0_add_6 (by decide) (fun c_6 => ?_) (fun c_6 => ?_)
  · have c_6 : nI 16 ≤ nI n := c_6
    have c_6 := (nI_leI (a := 16) (b := n) (by omega) (by omega)).mp c_6
    exact absurd c_6 (by omega)
  · have c_6 : ¬ (nI 16 ≤ nI n) := c_6
    have c_6 : ¬ (16 ≤ n) := fun h9 => c_6 ((nI_leI (a := 16) (b := n) (by omega) (by omega)).mpr h9)
    refine lv_aload_n hx hb dX0_add_9 rfl (lv_at hl 0 rfl) ?_
    refine va_get (D := E.1) (ci := 0) (v := .ref qB) (C := RX0) (T := TX0) (N := 7) hx hb hts (fun _ h => List.mem_cons_of_mem _ (List.mem_append_right _ h)) hown hK.1 hP 0 rfl rfl 4 (by decide) (hts (.fieldLink RX0 24 "Quarrelboard$Debate" "banks" "[I") (List.mem_of_getElem? (i := 2) rfl)) (fun _ h9 => h9) rfl dX0_add_10 ?_
    refine lv_aload_n hx hb dX0_add_13 rfl (lv_at hl 0 rfl) ?_
    refine va_get (D := E.1) (ci := 0) (v := .int (nI sp)) (C := RX0) (T := TX0) (N := 7) hx hb hts (fun _ h => List.mem_cons_of_mem _ (List.mem_append_right _ h)) hown hK.1 hP 0 rfl rfl 6 (by decide) (hts (.fieldLink RX0 37 "Quarrelboard$Debate" "speaker" "I") (List.mem_of_getElem? (i := 3) rfl)) (fun _ h9 => h9) rfl dX0_add_14 ?_
    refine k_iald hx hb hK hP 5 (f := bk) sp rfl (by omega) (by decide) dX0_add_17 ?_
    refine lv_iload_n hx hb dX0_add_18 rfl (lv_at hl 2 rfl) ?_
    refine lv_icmp_ge (tgt := 24) hx hb dX0_add_19 (by decide) (fun c_19 => ?_) (fun c_19 => ?_)
    · skip
      refine lv_aload_n hx hb dX0_add_24 rfl (lv_at hl 0 rfl) ?_
      refine va_get (D := E.1) (ci := 0) (v := .int (nI n)) (C := RX0) (T := TX0) (N := 7) hx hb hts (fun _ h => List.mem_cons_of_mem _ (List.mem_append_right _ h)) hown hK.1 hP 0 rfl rfl 5 (by decide) (hts (.fieldLink RX0 33 "Quarrelboard$Debate" "count" "I") (List.mem_of_getElem? (i := 1) rfl)) (fun _ h9 => h9) rfl dX0_add_25 ?_
      refine lv_istore_n (lv' := [(3, .int (nI n)), (0, .ref qD), (1, .int f), (2, .int se)]) hx hb dX0_add_28 rfl hl (by decide) rfl (fun ls hl => ?_)
      refine lv_aload_n hx hb dX0_add_29 rfl (lv_at hl 1 rfl) ?_
      refine va_get (D := E.1) (ci := 0) (v := .ref qO) (C := RX0) (T := TX0) (N := 7) hx hb hts (fun _ h => List.mem_cons_of_mem _ (List.mem_append_right _ h)) hown hK.1 hP 0 rfl rfl 0 (by decide) (hts (.fieldLink RX0 9 "Quarrelboard$Debate" "owners" "[I") (List.mem_of_getElem? (i := 4) rfl)) (fun _ h9 => h9) rfl dX0_add_30 ?_
      refine lv_iload_n hx hb dX0_add_33 rfl (lv_at hl 0 rfl) ?_
      refine lv_aload_n hx hb dX0_add_34 rfl (lv_at hl 1 rfl) ?_
      refine va_get (D := E.1) (ci := 0) (v := .int (nI sp)) (C := RX0) (T := TX0) (N := 7) hx hb hts (fun _ h => List.mem_cons_of_mem _ (List.mem_append_right _ h)) hown hK.1 hP 0 rfl rfl 6 (by decide) (hts (.fieldLink RX0 37 "Quarrelboard$Debate" "speaker" "I") (List.mem_of_getElem? (i := 3) rfl)) (fun _ h9 => h9) rfl dX0_add_35 ?_
      refine k_iastN hx hb hK hP hD hS 1 (f := ow) n sp rfl (by omega) (by decide) dX0_add_38 (fun H locs hP hD hS => ?_)
      have hP : va_P E.1 vwCl [(qD, .inr (0, [.ref qO, .ref qG, .ref qC, .ref qA, .ref qB, .int (nI n), .int (nI sp)])), (qO, .inl (E.2.1, 16, .inl (fun w9 => nI ((upN ow n sp) w9)))), (qG, .inl (E.2.1, 16, .inl gf)), (qC, .inl (E.2.1, 16, .inl gc)), (qA, .inl (E.2.1, 16, .inl ak)), (qB, .inl (E.2.1, 3, .inl bk))] H := hP
      have hD : va_D A [(qD, .inr (0, [.ref qO, .ref qG, .ref qC, .ref qA, .ref qB, .int (nI n), .int (nI sp)])), (qO, .inl (E.2.1, 16, .inl (fun w9 => nI ((upN ow n sp) w9)))), (qG, .inl (E.2.1, 16, .inl gf)), (qC, .inl (E.2.1, 16, .inl gc)), (qA, .inl (E.2.1, 16, .inl ak)), (qB, .inl (E.2.1, 3, .inl bk))] := hD
      refine lv_aload_n hx hb dX0_add_39 rfl (lv_at hl 1 rfl) ?_
      refine va_get (D := E.1) (ci := 0) (v := .ref qG) (C := RX0) (T := TX0) (N := 7) hx hb hts (fun _ h => List.mem_cons_of_mem _ (List.mem_append_right _ h)) hown hK.1 hP 0 rfl rfl 1 (by decide) (hts (.fieldLink RX0 15 "Quarrelboard$Debate" "groundFacts" "[I") (List.mem_of_getElem? (i := 5) rfl)) (fun _ h9 => h9) rfl dX0_add_40 ?_
      refine lv_iload_n hx hb dX0_add_43 rfl (lv_at hl 0 rfl) ?_
      refine lv_iload_n hx hb dX0_add_44 rfl (lv_at hl 2 rfl) ?_
      refine k_iast hx hb hK hP hD hS 2 (f := gf) n (x := f) rfl (by omega) (by decide) dX0_add_45 (fun H locs hP hD hS => ?_)
      have hP : va_P E.1 vwCl [(qD, .inr (0, [.ref qO, .ref qG, .ref qC, .ref qA, .ref qB, .int (nI n), .int (nI sp)])), (qO, .inl (E.2.1, 16, .inl (fun w9 => nI ((upN ow n sp) w9)))), (qG, .inl (E.2.1, 16, .inl (upd gf n f))), (qC, .inl (E.2.1, 16, .inl gc)), (qA, .inl (E.2.1, 16, .inl ak)), (qB, .inl (E.2.1, 3, .inl bk))] H := hP
      have hD : va_D A [(qD, .inr (0, [.ref qO, .ref qG, .ref qC, .ref qA, .ref qB, .int (nI n), .int (nI sp)])), (qO, .inl (E.2.1, 16, .inl (fun w9 => nI ((upN ow n sp) w9)))), (qG, .inl (E.2.1, 16, .inl (upd gf n f))), (qC, .inl (E.2.1, 16, .inl gc)), (qA, .inl (E.2.1, 16, .inl ak)), (qB, .inl (E.2.1, 3, .inl bk))] := hD
      refine lv_aload_n hx hb dX0_add_46 rfl (lv_at hl 1 rfl) ?_
      refine va_get (D := E.1) (ci := 0) (v := .ref qC) (C := RX0) (T := TX0) (N := 7) hx hb hts (fun _ h => List.mem_cons_of_mem _ (List.mem_append_right _ h)) hown hK.1 hP 0 rfl rfl 2 (by decide) (hts (.fieldLink RX0 18 "Quarrelboard$Debate" "groundClaims" "[I") (List.mem_of_getElem? (i := 6) rfl)) (fun _ h9 => h9) rfl dX0_add_47 ?_
      refine lv_iload_n hx hb dX0_add_50 rfl (lv_at hl 0 rfl) ?_
      refine lv_iconst (v := 0) hx hb dX0_add_51 (by decide) ?_
      refine k_iast hx hb hK hP hD hS 3 (f := gc) n (x := 0) rfl (by omega) (by decide) dX0_add_52 (fun H locs hP hD hS => ?_)
      have hP : va_P E.1 vwCl [(qD, .inr (0, [.ref qO, .ref qG, .ref qC, .ref qA, .ref qB, .int (nI n), .int (nI sp)])), (qO, .inl (E.2.1, 16, .inl (fun w9 => nI ((upN ow n sp) w9)))), (qG, .inl (E.2.1, 16, .inl (upd gf n f))), (qC, .inl (E.2.1, 16, .inl (upd gc n 0))), (qA, .inl (E.2.1, 16, .inl ak)), (qB, .inl (E.2.1, 3, .inl bk))] H := hP
      have hD : va_D A [(qD, .inr (0, [.ref qO, .ref qG, .ref qC, .ref qA, .ref qB, .int (nI n), .int (nI sp)])), (qO, .inl (E.2.1, 16, .inl (fun w9 => nI ((upN ow n sp) w9)))), (qG, .inl (E.2.1, 16, .inl (upd gf n f))), (qC, .inl (E.2.1, 16, .inl (upd gc n 0))), (qA, .inl (E.2.1, 16, .inl ak)), (qB, .inl (E.2.1, 3, .inl bk))] := hD
      refine lv_aload_n hx hb dX0_add_53 rfl (lv_at hl 1 rfl) ?_
      refine va_get (D := E.1) (ci := 0) (v := .ref qA) (C := RX0) (T := TX0) (N := 7) hx hb hts (fun _ h => List.mem_cons_of_mem _ (List.mem_append_right _ h)) hown hK.1 hP 0 rfl rfl 3 (by decide) (hts (.fieldLink RX0 21 "Quarrelboard$Debate" "attackers" "[I") (List.mem_of_getElem? (i := 7) rfl)) (fun _ h9 => h9) rfl dX0_add_54 ?_
      refine lv_iload_n hx hb dX0_add_57 rfl (lv_at hl 0 rfl) ?_
      refine lv_iconst (v := 0) hx hb dX0_add_58 (by decide) ?_
      refine k_iast hx hb hK hP hD hS 4 (f := ak) n (x := 0) rfl (by omega) (by decide) dX0_add_59 (fun H locs hP hD hS => ?_)
      have hP : va_P E.1 vwCl [(qD, .inr (0, [.ref qO, .ref qG, .ref qC, .ref qA, .ref qB, .int (nI n), .int (nI sp)])), (qO, .inl (E.2.1, 16, .inl (fun w9 => nI ((upN ow n sp) w9)))), (qG, .inl (E.2.1, 16, .inl (upd gf n f))), (qC, .inl (E.2.1, 16, .inl (upd gc n 0))), (qA, .inl (E.2.1, 16, .inl (upd ak n 0))), (qB, .inl (E.2.1, 3, .inl bk))] H := hP
      have hD : va_D A [(qD, .inr (0, [.ref qO, .ref qG, .ref qC, .ref qA, .ref qB, .int (nI n), .int (nI sp)])), (qO, .inl (E.2.1, 16, .inl (fun w9 => nI ((upN ow n sp) w9)))), (qG, .inl (E.2.1, 16, .inl (upd gf n f))), (qC, .inl (E.2.1, 16, .inl (upd gc n 0))), (qA, .inl (E.2.1, 16, .inl (upd ak n 0))), (qB, .inl (E.2.1, 3, .inl bk))] := hD
      refine lv_aload_n hx hb dX0_add_60 rfl (lv_at hl 1 rfl) ?_
      refine lv_dup hx hb dX0_add_61 rfl ?_
      refine va_get (D := E.1) (ci := 0) (v := .int (nI n)) (C := RX0) (T := TX0) (N := 7) hx hb hts (fun _ h => List.mem_cons_of_mem _ (List.mem_append_right _ h)) hown hK.1 hP 0 rfl rfl 5 (by decide) (hts (.fieldLink RX0 33 "Quarrelboard$Debate" "count" "I") (List.mem_of_getElem? (i := 1) rfl)) (fun _ h9 => h9) rfl dX0_add_62 ?_
      refine lv_iconst (v := 1) hx hb dX0_add_65 (by decide) ?_
      refine lv_iadd hx hb dX0_add_66 ?_
      refine lv_topi (fun y9 ey9 => ?_)
      obtain rfl : y9 = nI (n + 1) := ey9.trans (nI_1 _)
      refine va_put (D := E.1) (ci := 0) (v := .int (nI (n + 1))) (ty := .int) (C := RX0) (T := TX0) (N := 7) hx hb hts (fun _ h => List.mem_cons_of_mem _ (List.mem_append_right _ h)) tyX0 tyX0_ok nmX0 hown hK.1 hP hD hS 0 rfl rfl 5 (by decide) (hts (.fieldLink RX0 33 "Quarrelboard$Debate" "count" "I") (List.mem_of_getElem? (i := 1) rfl)) (fun _ h9 => h9) rfl (by decide +kernel) rfl rfl (Nat.le_of_ble_eq_true rfl) dX0_add_67 (fun H locs hP hD hS => ?_)
      have hP : va_P E.1 vwCl [(qD, .inr (0, [.ref qO, .ref qG, .ref qC, .ref qA, .ref qB, .int (nI (n + 1)), .int (nI sp)])), (qO, .inl (E.2.1, 16, .inl (fun w9 => nI ((upN ow n sp) w9)))), (qG, .inl (E.2.1, 16, .inl (upd gf n f))), (qC, .inl (E.2.1, 16, .inl (upd gc n 0))), (qA, .inl (E.2.1, 16, .inl (upd ak n 0))), (qB, .inl (E.2.1, 3, .inl bk))] H := hP
      have hD : va_D A [(qD, .inr (0, [.ref qO, .ref qG, .ref qC, .ref qA, .ref qB, .int (nI (n + 1)), .int (nI sp)])), (qO, .inl (E.2.1, 16, .inl (fun w9 => nI ((upN ow n sp) w9)))), (qG, .inl (E.2.1, 16, .inl (upd gf n f))), (qC, .inl (E.2.1, 16, .inl (upd gc n 0))), (qA, .inl (E.2.1, 16, .inl (upd ak n 0))), (qB, .inl (E.2.1, 3, .inl bk))] := hD
      refine lv_aload_n hx hb dX0_add_70 rfl (lv_at hl 1 rfl) ?_
      refine va_get (D := E.1) (ci := 0) (v := .ref qB) (C := RX0) (T := TX0) (N := 7) hx hb hts (fun _ h => List.mem_cons_of_mem _ (List.mem_append_right _ h)) hown hK.1 hP 0 rfl rfl 4 (by decide) (hts (.fieldLink RX0 24 "Quarrelboard$Debate" "banks" "[I") (List.mem_of_getElem? (i := 2) rfl)) (fun _ h9 => h9) rfl dX0_add_71 ?_
      refine lv_aload_n hx hb dX0_add_74 rfl (lv_at hl 1 rfl) ?_
      refine va_get (D := E.1) (ci := 0) (v := .int (nI sp)) (C := RX0) (T := TX0) (N := 7) hx hb hts (fun _ h => List.mem_cons_of_mem _ (List.mem_append_right _ h)) hown hK.1 hP 0 rfl rfl 6 (by decide) (hts (.fieldLink RX0 37 "Quarrelboard$Debate" "speaker" "I") (List.mem_of_getElem? (i := 3) rfl)) (fun _ h9 => h9) rfl dX0_add_75 ?_
      refine lv_dup2_11 hx hb dX0_add_78 rfl rfl ?_
      refine k_iald hx hb hK hP 5 (f := bk) sp rfl (by omega) (by decide) dX0_add_79 ?_
      refine lv_iload_n hx hb dX0_add_80 rfl (lv_at hl 3 rfl) ?_
      refine lv_isub hx hb dX0_add_81 ?_
      refine k_iast hx hb hK hP hD hS 5 (f := bk) sp (x := (bk sp) - se) rfl (by omega) (by decide) dX0_add_82 (fun H locs hP hD hS => ?_)
      have hP : va_P E.1 vwCl [(qD, .inr (0, [.ref qO, .ref qG, .ref qC, .ref qA, .ref qB, .int (nI (n + 1)), .int (nI sp)])), (qO, .inl (E.2.1, 16, .inl (fun w9 => nI ((upN ow n sp) w9)))), (qG, .inl (E.2.1, 16, .inl (upd gf n f))), (qC, .inl (E.2.1, 16, .inl (upd gc n 0))), (qA, .inl (E.2.1, 16, .inl (upd ak n 0))), (qB, .inl (E.2.1, 3, .inl (upd bk sp ((bk sp) - se))))] H := hP
      have hD : va_D A [(qD, .inr (0, [.ref qO, .ref qG, .ref qC, .ref qA, .ref qB, .int (nI (n + 1)), .int (nI sp)])), (qO, .inl (E.2.1, 16, .inl (fun w9 => nI ((upN ow n sp) w9)))), (qG, .inl (E.2.1, 16, .inl (upd gf n f))), (qC, .inl (E.2.1, 16, .inl (upd gc n 0))), (qA, .inl (E.2.1, 16, .inl (upd ak n 0))), (qB, .inl (E.2.1, 3, .inl (upd bk sp ((bk sp) - se))))] := hD
      refine lv_aload_n hx hb dX0_add_83 rfl (lv_at hl 1 rfl) ?_
      refine cl_Wv (Wl := [(qD, .inr (0, [.ref qO, .ref qG, .ref qC, .ref qA, .ref qB, .int (nI (n + 1)), .int (nI sp)])), (qO, .inl (E.2.1, 16, .inl (fun w9 => nI ((upN ow n sp) w9)))), (qG, .inl (E.2.1, 16, .inl (upd gf n f))), (qC, .inl (E.2.1, 16, .inl (upd gc n 0))), (qA, .inl (E.2.1, 16, .inl (upd ak n 0))), (qB, .inl (E.2.1, 3, .inl (upd bk sp ((bk sp) - se))))]) (Wc := [(qD, .inr (0, [.ref qO, .ref qG, .ref qC, .ref qA, .ref qB, .int (nI (n + 1)), .int (nI sp)])), (qO, .inl (E.2.1, 16, .inl (fun w9 => nI ((upN ow n sp) w9)))), (qG, .inl (E.2.1, 16, .inl (upd gf n f))), (qC, .inl (E.2.1, 16, .inl (upd gc n 0))), (qA, .inl (E.2.1, 16, .inl (upd ak n 0))), (qB, .inl (E.2.1, 3, .inl (upd bk sp ((bk sp) - se))))]) (Wr := []) (W1 := [(qD, .inr (0, [.ref qO, .ref qG, .ref qC, .ref qA, .ref qB, .int (nI (n + 1)), .int (nI (nx sp))])), (qO, .inl (E.2.1, 16, .inl (fun w9 => nI ((upN ow n sp) w9)))), (qG, .inl (E.2.1, 16, .inl (upd gf n f))), (qC, .inl (E.2.1, 16, .inl (upd gc n 0))), (qA, .inl (E.2.1, 16, .inl (upd ak n 0))), (qB, .inl (E.2.1, 3, .inl (upd bk sp ((bk sp) - se))))]) (W2 := [(qD, .inr (0, [.ref qO, .ref qG, .ref qC, .ref qA, .ref qB, .int (nI (n + 1)), .int (nI (nx sp))])), (qO, .inl (E.2.1, 16, .inl (fun w9 => nI ((upN ow n sp) w9)))), (qG, .inl (E.2.1, 16, .inl (upd gf n f))), (qC, .inl (E.2.1, 16, .inl (upd gc n 0))), (qA, .inl (E.2.1, 16, .inl (upd ak n 0))), (qB, .inl (E.2.1, 3, .inl (upd bk sp ((bk sp) - se))))]) (As := []) (rest := []) ⟨hx, hb, hml, hown, hts⟩ (c_X0_passTurn l E qD qO qG qC qA qB (n + 1) sp (upN ow n sp) (upd gf n f) (upd gc n 0) (upd ak n 0) (upd bk sp ((bk sp) - se)) H.size  (by omega)) (cwV 0 hts gX0_add_X0_passTurn rfl rfl rfl (by decide +kernel) ⟨Nat.le_of_ble_eq_true rfl, Nat.le_of_ble_eq_true rfl⟩) hK hP hD hS hA [0, 1, 2, 3, 4, 5] [] [0, 1, 2, 3, 4, 5] rfl rfl (by decide) rfl (by decide) (by decide) rfl (by decide) (va_recv hK.1 hP (ci := 0) (q0 := 0) rfl rfl) rfl hl.1 rfl (Nat.le_of_ble_eq_true rfl) dX0_add_84 ⟨Nat.zero_le _, Nat.zero_le _⟩ (fun H locs hP hD hS => ?_)
      refine lv_iload_n hx hb dX0_add_87 rfl (lv_at hl 0 rfl) ?_
      have e9 : (nI n : Int32) = nI n := by rfl
      have hP9 : va_P E.1 vwCl [(qD, .inr (0, [.ref qO, .ref qG, .ref qC, .ref qA, .ref qB, .int (nI (n + 1)), .int (nI (nx sp))])), (qO, .inl (E.2.1, 16, .inl (fun w9 => nI ((upN ow n sp) w9)))), (qG, .inl (E.2.1, 16, .inl (upd gf n f))), (qC, .inl (E.2.1, 16, .inl (upd gc n 0))), (qA, .inl (E.2.1, 16, .inl (upd ak n 0))), (qB, .inl (E.2.1, 3, .inl (upd bk sp (bk sp - se))))] H := by exact hP
      have hD9 : va_D A [(qD, .inr (0, [.ref qO, .ref qG, .ref qC, .ref qA, .ref qB, .int (nI (n + 1)), .int (nI (nx sp))])), (qO, .inl (E.2.1, 16, .inl (fun w9 => nI ((upN ow n sp) w9)))), (qG, .inl (E.2.1, 16, .inl (upd gf n f))), (qC, .inl (E.2.1, 16, .inl (upd gc n 0))), (qA, .inl (E.2.1, 16, .inl (upd ak n 0))), (qB, .inl (E.2.1, 3, .inl (upd bk sp (bk sp - se))))] := by exact hD
      exact W.iret (v := nI n) hx hb hr (fun t ht hW => ⟨⟨_, (), rfl, e9, by rw [ht]; exact hP9, hD9⟩, hS.F ht⟩) hS.2.2 dX0_add_88
    · skip
      exact absurd hbk c_19
set_option maxHeartbeats 4000000 in
set_option maxRecDepth 100000 in
theorem c_X0_flipRest (l : Launch) (E : gE) (qD : Nat) (qO : Nat) (qG : Nat) (qC : Nat) (qA : Nat) (qB : Nat) (n : Nat) (sp : Nat) (ow : Nat → Nat) (gf : Nat → Int32) (gc : Nat → Int32) (ak : Nat → Int32) (bk : Nat → Int32) (sz : Nat) (i : Nat) (j : Nat) (hi : i < 16) (hj : j < 32) : Met l yX0_flipRest wsX0_flipRest ({ frames := 1, cells := 0, slots := 0, locals := 21 }) (va_Pc [.ref qD, .int (nI i), .int (nI j)] (pW E [(qD, .inr (0, [.ref qO, .ref qG, .ref qC, .ref qA, .ref qB, .int (nI n), .int (nI sp)])), (qO, .inl (E.2.1, 16, .inl (fun w9 => nI (ow w9)))), (qG, .inl (E.2.1, 16, .inl gf)), (qC, .inl (E.2.1, 16, .inl gc)), (qA, .inl (E.2.1, 16, .inl ak)), (qB, .inl (E.2.1, 3, .inl bk))] sz)) (va_Qi (fun r (_ : Unit) => r = zI (bt (gc i ^^^ m1 j) j)) (fun _ => eW E (va_A [(qD, .inr (0, [.ref qO, .ref qG, .ref qC, .ref qA, .ref qB, .int (nI n), .int (nI sp)])), (qO, .inl (E.2.1, 16, .inl (fun w9 => nI (ow w9)))), (qG, .inl (E.2.1, 16, .inl gf)), (qC, .inl (E.2.1, 16, .inl gc)), (qA, .inl (E.2.1, 16, .inl ak)), (qB, .inl (E.2.1, 3, .inl bk))] sz) [(qD, .inr (0, [.ref qO, .ref qG, .ref qC, .ref qA, .ref qB, .int (nI n), .int (nI sp)])), (qO, .inl (E.2.1, 16, .inl (fun w9 => nI (ow w9)))), (qG, .inl (E.2.1, 16, .inl gf)), (qC, .inl (E.2.1, 16, .inl (upd gc i (gc i ^^^ m1 j)))), (qA, .inl (E.2.1, 16, .inl ak)), (qB, .inl (E.2.1, 3, .inl bk))]) (va_A [(qD, .inr (0, [.ref qO, .ref qG, .ref qC, .ref qA, .ref qB, .int (nI n), .int (nI sp)])), (qO, .inl (E.2.1, 16, .inl (fun w9 => nI (ow w9)))), (qG, .inl (E.2.1, 16, .inl gf)), (qC, .inl (E.2.1, 16, .inl gc)), (qA, .inl (E.2.1, 16, .inl ak)), (qB, .inl (E.2.1, 3, .inl bk))] sz)) 0 0 (va_A [(qD, .inr (0, [.ref qO, .ref qG, .ref qC, .ref qA, .ref qB, .int (nI n), .int (nI sp)])), (qO, .inl (E.2.1, 16, .inl (fun w9 => nI (ow w9)))), (qG, .inl (E.2.1, 16, .inl gf)), (qC, .inl (E.2.1, 16, .inl gc)), (qA, .inl (E.2.1, 16, .inl ak)), (qB, .inl (E.2.1, 3, .inl bk))] sz) := by
  refine Met.ofW (cc := cX0_flipRest) (maxL := 3) (ret := (some .boolean)) (by decide) rfl ?_
  intro p e s m args below meth c s₁ B hml hv
  obtain ⟨rfl, hsz, hP, hK, hD0⟩ := hv
  have hx := B.exec
  have hb := B.bytes
  have hr := B.returns
  have hts := atoms_spec (ws := wsX0_flipRest) B.pre
  have hown : s.vm.findClass RX0 = some m.cls := findClass_of_methodNamed B.named
  have hlocks := B.notSynchronized
  subst hsz
  have hD := hD0.self (sz := s.heap.size)
  generalize hAe : va_A [(qD, .inr (0, [.ref qO, .ref qG, .ref qC, .ref qA, .ref qB, .int (nI n), .int (nI sp)])), (qO, .inl (E.2.1, 16, .inl (fun w9 => nI (ow w9)))), (qG, .inl (E.2.1, 16, .inl gf)), (qC, .inl (E.2.1, 16, .inl gc)), (qA, .inl (E.2.1, 16, .inl ak)), (qB, .inl (E.2.1, 3, .inl bk))] s.heap.size = A at hD ⊢
  have hA : ∀ q : Nat, s.heap.size ≤ q → A q := fun q h => by rw [← hAe]; exact Or.inr h
  have hS : va_S A s.heap s.heap [] := va_S.rf
  have hl := lv_entry ([.ref qD, .int (nI i), .int (nI j)]) (n := 3) (Nat.le_of_ble_eq_true rfl)
  rw [lg_entry_eq]
  generalize (lg_sl ([.ref qD, .int (nI i), .int (nI j)]) ++ List.replicate (3 - (lg_sl ([.ref qD, .int (nI i), .int (nI j)])).length) Slot.unset).toArray = ls at hl ⊢
  have hl : lv_has ls 3 [(0, .ref qD), (1, .int (nI i)), (2, .int (nI j))] := hl
  refine lv_aload_n hx hb dX0_flipRest_0 rfl (lv_at hl 0 rfl) ?_
  refine va_get (D := E.1) (ci := 0) (v := .ref qC) (C := RX0) (T := TX0) (N := 7) hx hb hts (fun _ h => List.mem_cons_of_mem _ (List.mem_append_right _ h)) hown hK.1 hP 0 rfl rfl 2 (by decide) (hts (.fieldLink RX0 18 "Quarrelboard$Debate" "groundClaims" "[I") (List.mem_of_getElem? (i := 1) rfl)) (fun _ h9 => h9) rfl dX0_flipRest_1 ?_
  refine lv_iload_n hx hb dX0_flipRest_4 rfl (lv_at hl 1 rfl) ?_
  refine lv_dup2_11 hx hb dX0_flipRest_5 rfl rfl ?_
  refine k_iald hx hb hK hP 3 (f := gc) i rfl (by omega) (by decide) dX0_flipRest_6 ?_
  refine lv_iconst (v := 1) hx hb dX0_flipRest_7 (by decide) ?_
  refine lv_iload_n hx hb dX0_flipRest_8 rfl (lv_at hl 2 rfl) ?_
  refine lv_ishl hx hb dX0_flipRest_9 ?_
  refine lv_topi (fun y9 ey9 => ?_)
  obtain rfl : y9 = m1 j := ey9.trans (rfl)
  refine lv_ixor hx hb dX0_flipRest_10 ?_
  refine k_iast hx hb hK hP hD hS 3 (f := gc) i (x := (gc i) ^^^ (m1 j)) rfl (by omega) (by decide) dX0_flipRest_11 (fun H locs hP hD hS => ?_)
  have hP : va_P E.1 vwCl [(qD, .inr (0, [.ref qO, .ref qG, .ref qC, .ref qA, .ref qB, .int (nI n), .int (nI sp)])), (qO, .inl (E.2.1, 16, .inl (fun w9 => nI (ow w9)))), (qG, .inl (E.2.1, 16, .inl gf)), (qC, .inl (E.2.1, 16, .inl (upd gc i ((gc i) ^^^ (m1 j))))), (qA, .inl (E.2.1, 16, .inl ak)), (qB, .inl (E.2.1, 3, .inl bk))] H := hP
  have hD : va_D A [(qD, .inr (0, [.ref qO, .ref qG, .ref qC, .ref qA, .ref qB, .int (nI n), .int (nI sp)])), (qO, .inl (E.2.1, 16, .inl (fun w9 => nI (ow w9)))), (qG, .inl (E.2.1, 16, .inl gf)), (qC, .inl (E.2.1, 16, .inl (upd gc i ((gc i) ^^^ (m1 j))))), (qA, .inl (E.2.1, 16, .inl ak)), (qB, .inl (E.2.1, 3, .inl bk))] := hD
  refine lv_aload_n hx hb dX0_flipRest_12 rfl (lv_at hl 0 rfl) ?_
  refine va_get (D := E.1) (ci := 0) (v := .ref qC) (C := RX0) (T := TX0) (N := 7) hx hb hts (fun _ h => List.mem_cons_of_mem _ (List.mem_append_right _ h)) hown hK.1 hP 0 rfl rfl 2 (by decide) (hts (.fieldLink RX0 18 "Quarrelboard$Debate" "groundClaims" "[I") (List.mem_of_getElem? (i := 1) rfl)) (fun _ h9 => h9) rfl dX0_flipRest_13 ?_
  refine lv_iload_n hx hb dX0_flipRest_16 rfl (lv_at hl 1 rfl) ?_
  refine k_iald hx hb hK hP 3 (f := (upd gc i ((gc i) ^^^ (m1 j)))) i rfl (by omega) (by decide) dX0_flipRest_17 ?_
  refine lv_iload_n hx hb dX0_flipRest_18 rfl (lv_at hl 2 rfl) ?_
  refine cl_SN (Wc := []) (As := [.int ((upd gc i ((gc i) ^^^ (m1 j))) i), .int (nI j)]) (rest := []) ⟨hx, hb, hml, hown, hts⟩ (c_X3_contains l E  ((upd gc i ((gc i) ^^^ (m1 j))) i) j (by omega)) ⟨va_cnB 2 hts gX0_flipRest_X3_contains_n43 rfl rfl rfl hK.2.1 (hts (.initialized RX3) (List.mem_of_getElem? (i := 3) rfl)) (by decide +kernel) ⟨Nat.le_of_ble_eq_true rfl, Nat.le_of_ble_eq_true rfl⟩, hts (.static yX3_contains) (List.mem_of_getElem? (i := 2) rfl), trivial⟩ hK (hP.sub [] rfl) rfl hl.1 rfl (Nat.le_of_ble_eq_true rfl) dX0_flipRest_19 ⟨Nat.zero_le _, Nat.zero_le _⟩ ?_
  have e9 : (zI (bt ((upd gc i ((gc i) ^^^ (m1 j))) i) j) : Int32) = zI (bt (gc i ^^^ m1 j) j) := by simp [upd]
  have hP9 : va_P E.1 vwCl [(qD, .inr (0, [.ref qO, .ref qG, .ref qC, .ref qA, .ref qB, .int (nI n), .int (nI sp)])), (qO, .inl (E.2.1, 16, .inl (fun w9 => nI (ow w9)))), (qG, .inl (E.2.1, 16, .inl gf)), (qC, .inl (E.2.1, 16, .inl (upd gc i (gc i ^^^ m1 j)))), (qA, .inl (E.2.1, 16, .inl ak)), (qB, .inl (E.2.1, 3, .inl bk))] H := by exact hP
  have hD9 : va_D A [(qD, .inr (0, [.ref qO, .ref qG, .ref qC, .ref qA, .ref qB, .int (nI n), .int (nI sp)])), (qO, .inl (E.2.1, 16, .inl (fun w9 => nI (ow w9)))), (qG, .inl (E.2.1, 16, .inl gf)), (qC, .inl (E.2.1, 16, .inl (upd gc i (gc i ^^^ m1 j)))), (qA, .inl (E.2.1, 16, .inl ak)), (qB, .inl (E.2.1, 3, .inl bk))] := by exact hD
  exact W.zret (v := zI (bt ((upd gc i ((gc i) ^^^ (m1 j))) i) j)) hx hb hr (zI_nar (bt ((upd gc i ((gc i) ^^^ (m1 j))) i) j)) (fun t ht hW => ⟨⟨_, (), rfl, e9, by rw [ht]; exact hP9, hD9⟩, hS.F ht⟩) hS.2.2 dX0_flipRest_22
set_option maxHeartbeats 4000000 in
set_option maxRecDepth 100000 in
theorem c_X0_flipAttack (l : Launch) (E : gE) (qD : Nat) (qO : Nat) (qG : Nat) (qC : Nat) (qA : Nat) (qB : Nat) (n : Nat) (sp : Nat) (ow : Nat → Nat) (gf : Nat → Int32) (gc : Nat → Int32) (ak : Nat → Int32) (bk : Nat → Int32) (sz : Nat) (i : Nat) (j : Nat) (hi : i < 32) (hj : j < 16) : Met l yX0_flipAttack wsX0_flipAttack ({ frames := 1, cells := 0, slots := 0, locals := 21 }) (va_Pc [.ref qD, .int (nI i), .int (nI j)] (pW E [(qD, .inr (0, [.ref qO, .ref qG, .ref qC, .ref qA, .ref qB, .int (nI n), .int (nI sp)])), (qO, .inl (E.2.1, 16, .inl (fun w9 => nI (ow w9)))), (qG, .inl (E.2.1, 16, .inl gf)), (qC, .inl (E.2.1, 16, .inl gc)), (qA, .inl (E.2.1, 16, .inl ak)), (qB, .inl (E.2.1, 3, .inl bk))] sz)) (va_Qi (fun r (_ : Unit) => r = zI (bt (ak j ^^^ m1 i) i)) (fun _ => eW E (va_A [(qD, .inr (0, [.ref qO, .ref qG, .ref qC, .ref qA, .ref qB, .int (nI n), .int (nI sp)])), (qO, .inl (E.2.1, 16, .inl (fun w9 => nI (ow w9)))), (qG, .inl (E.2.1, 16, .inl gf)), (qC, .inl (E.2.1, 16, .inl gc)), (qA, .inl (E.2.1, 16, .inl ak)), (qB, .inl (E.2.1, 3, .inl bk))] sz) [(qD, .inr (0, [.ref qO, .ref qG, .ref qC, .ref qA, .ref qB, .int (nI n), .int (nI sp)])), (qO, .inl (E.2.1, 16, .inl (fun w9 => nI (ow w9)))), (qG, .inl (E.2.1, 16, .inl gf)), (qC, .inl (E.2.1, 16, .inl gc)), (qA, .inl (E.2.1, 16, .inl (upd ak j (ak j ^^^ m1 i)))), (qB, .inl (E.2.1, 3, .inl bk))]) (va_A [(qD, .inr (0, [.ref qO, .ref qG, .ref qC, .ref qA, .ref qB, .int (nI n), .int (nI sp)])), (qO, .inl (E.2.1, 16, .inl (fun w9 => nI (ow w9)))), (qG, .inl (E.2.1, 16, .inl gf)), (qC, .inl (E.2.1, 16, .inl gc)), (qA, .inl (E.2.1, 16, .inl ak)), (qB, .inl (E.2.1, 3, .inl bk))] sz)) 0 0 (va_A [(qD, .inr (0, [.ref qO, .ref qG, .ref qC, .ref qA, .ref qB, .int (nI n), .int (nI sp)])), (qO, .inl (E.2.1, 16, .inl (fun w9 => nI (ow w9)))), (qG, .inl (E.2.1, 16, .inl gf)), (qC, .inl (E.2.1, 16, .inl gc)), (qA, .inl (E.2.1, 16, .inl ak)), (qB, .inl (E.2.1, 3, .inl bk))] sz) := by
  refine Met.ofW (cc := cX0_flipAttack) (maxL := 3) (ret := (some .boolean)) (by decide) rfl ?_
  intro p e s m args below meth c s₁ B hml hv
  obtain ⟨rfl, hsz, hP, hK, hD0⟩ := hv
  have hx := B.exec
  have hb := B.bytes
  have hr := B.returns
  have hts := atoms_spec (ws := wsX0_flipAttack) B.pre
  have hown : s.vm.findClass RX0 = some m.cls := findClass_of_methodNamed B.named
  have hlocks := B.notSynchronized
  subst hsz
  have hD := hD0.self (sz := s.heap.size)
  generalize hAe : va_A [(qD, .inr (0, [.ref qO, .ref qG, .ref qC, .ref qA, .ref qB, .int (nI n), .int (nI sp)])), (qO, .inl (E.2.1, 16, .inl (fun w9 => nI (ow w9)))), (qG, .inl (E.2.1, 16, .inl gf)), (qC, .inl (E.2.1, 16, .inl gc)), (qA, .inl (E.2.1, 16, .inl ak)), (qB, .inl (E.2.1, 3, .inl bk))] s.heap.size = A at hD ⊢
  have hA : ∀ q : Nat, s.heap.size ≤ q → A q := fun q h => by rw [← hAe]; exact Or.inr h
  have hS : va_S A s.heap s.heap [] := va_S.rf
  have hl := lv_entry ([.ref qD, .int (nI i), .int (nI j)]) (n := 3) (Nat.le_of_ble_eq_true rfl)
  rw [lg_entry_eq]
  generalize (lg_sl ([.ref qD, .int (nI i), .int (nI j)]) ++ List.replicate (3 - (lg_sl ([.ref qD, .int (nI i), .int (nI j)])).length) Slot.unset).toArray = ls at hl ⊢
  have hl : lv_has ls 3 [(0, .ref qD), (1, .int (nI i)), (2, .int (nI j))] := hl
  refine lv_aload_n hx hb dX0_flipAttack_0 rfl (lv_at hl 0 rfl) ?_
  refine va_get (D := E.1) (ci := 0) (v := .ref qA) (C := RX0) (T := TX0) (N := 7) hx hb hts (fun _ h => List.mem_cons_of_mem _ (List.mem_append_right _ h)) hown hK.1 hP 0 rfl rfl 3 (by decide) (hts (.fieldLink RX0 21 "Quarrelboard$Debate" "attackers" "[I") (List.mem_of_getElem? (i := 1) rfl)) (fun _ h9 => h9) rfl dX0_flipAttack_1 ?_
  refine lv_iload_n hx hb dX0_flipAttack_4 rfl (lv_at hl 2 rfl) ?_
  refine lv_dup2_11 hx hb dX0_flipAttack_5 rfl rfl ?_
  refine k_iald hx hb hK hP 4 (f := ak) j rfl (by omega) (by decide) dX0_flipAttack_6 ?_
  refine lv_iconst (v := 1) hx hb dX0_flipAttack_7 (by decide) ?_
  refine lv_iload_n hx hb dX0_flipAttack_8 rfl (lv_at hl 1 rfl) ?_
  refine lv_ishl hx hb dX0_flipAttack_9 ?_
  refine lv_topi (fun y9 ey9 => ?_)
  obtain rfl : y9 = m1 i := ey9.trans (rfl)
  refine lv_ixor hx hb dX0_flipAttack_10 ?_
  refine k_iast hx hb hK hP hD hS 4 (f := ak) j (x := (ak j) ^^^ (m1 i)) rfl (by omega) (by decide) dX0_flipAttack_11 (fun H locs hP hD hS => ?_)
  have hP : va_P E.1 vwCl [(qD, .inr (0, [.ref qO, .ref qG, .ref qC, .ref qA, .ref qB, .int (nI n), .int (nI sp)])), (qO, .inl (E.2.1, 16, .inl (fun w9 => nI (ow w9)))), (qG, .inl (E.2.1, 16, .inl gf)), (qC, .inl (E.2.1, 16, .inl gc)), (qA, .inl (E.2.1, 16, .inl (upd ak j ((ak j) ^^^ (m1 i))))), (qB, .inl (E.2.1, 3, .inl bk))] H := hP
  have hD : va_D A [(qD, .inr (0, [.ref qO, .ref qG, .ref qC, .ref qA, .ref qB, .int (nI n), .int (nI sp)])), (qO, .inl (E.2.1, 16, .inl (fun w9 => nI (ow w9)))), (qG, .inl (E.2.1, 16, .inl gf)), (qC, .inl (E.2.1, 16, .inl gc)), (qA, .inl (E.2.1, 16, .inl (upd ak j ((ak j) ^^^ (m1 i))))), (qB, .inl (E.2.1, 3, .inl bk))] := hD
  refine lv_aload_n hx hb dX0_flipAttack_12 rfl (lv_at hl 0 rfl) ?_
  refine va_get (D := E.1) (ci := 0) (v := .ref qA) (C := RX0) (T := TX0) (N := 7) hx hb hts (fun _ h => List.mem_cons_of_mem _ (List.mem_append_right _ h)) hown hK.1 hP 0 rfl rfl 3 (by decide) (hts (.fieldLink RX0 21 "Quarrelboard$Debate" "attackers" "[I") (List.mem_of_getElem? (i := 1) rfl)) (fun _ h9 => h9) rfl dX0_flipAttack_13 ?_
  refine lv_iload_n hx hb dX0_flipAttack_16 rfl (lv_at hl 2 rfl) ?_
  refine k_iald hx hb hK hP 4 (f := (upd ak j ((ak j) ^^^ (m1 i)))) j rfl (by omega) (by decide) dX0_flipAttack_17 ?_
  refine lv_iload_n hx hb dX0_flipAttack_18 rfl (lv_at hl 1 rfl) ?_
  refine cl_SN (Wc := []) (As := [.int ((upd ak j ((ak j) ^^^ (m1 i))) j), .int (nI i)]) (rest := []) ⟨hx, hb, hml, hown, hts⟩ (c_X3_contains l E  ((upd ak j ((ak j) ^^^ (m1 i))) j) i (by omega)) ⟨va_cnB 2 hts gX0_flipAttack_X3_contains_n43 rfl rfl rfl hK.2.1 (hts (.initialized RX3) (List.mem_of_getElem? (i := 3) rfl)) (by decide +kernel) ⟨Nat.le_of_ble_eq_true rfl, Nat.le_of_ble_eq_true rfl⟩, hts (.static yX3_contains) (List.mem_of_getElem? (i := 2) rfl), trivial⟩ hK (hP.sub [] rfl) rfl hl.1 rfl (Nat.le_of_ble_eq_true rfl) dX0_flipAttack_19 ⟨Nat.zero_le _, Nat.zero_le _⟩ ?_
  have e9 : (zI (bt ((upd ak j ((ak j) ^^^ (m1 i))) j) i) : Int32) = zI (bt (ak j ^^^ m1 i) i) := by simp [upd]
  have hP9 : va_P E.1 vwCl [(qD, .inr (0, [.ref qO, .ref qG, .ref qC, .ref qA, .ref qB, .int (nI n), .int (nI sp)])), (qO, .inl (E.2.1, 16, .inl (fun w9 => nI (ow w9)))), (qG, .inl (E.2.1, 16, .inl gf)), (qC, .inl (E.2.1, 16, .inl gc)), (qA, .inl (E.2.1, 16, .inl (upd ak j (ak j ^^^ m1 i)))), (qB, .inl (E.2.1, 3, .inl bk))] H := by exact hP
  have hD9 : va_D A [(qD, .inr (0, [.ref qO, .ref qG, .ref qC, .ref qA, .ref qB, .int (nI n), .int (nI sp)])), (qO, .inl (E.2.1, 16, .inl (fun w9 => nI (ow w9)))), (qG, .inl (E.2.1, 16, .inl gf)), (qC, .inl (E.2.1, 16, .inl gc)), (qA, .inl (E.2.1, 16, .inl (upd ak j (ak j ^^^ m1 i)))), (qB, .inl (E.2.1, 3, .inl bk))] := by exact hD
  exact W.zret (v := zI (bt ((upd ak j ((ak j) ^^^ (m1 i))) j) i)) hx hb hr (zI_nar (bt ((upd ak j ((ak j) ^^^ (m1 i))) j) i)) (fun t ht hW => ⟨⟨_, (), rfl, e9, by rw [ht]; exact hP9, hD9⟩, hS.F ht⟩) hS.2.2 dX0_flipAttack_22
set_option maxHeartbeats 4000000 in
set_option maxRecDepth 100000 in
theorem c_X0_holds (l : Launch) (E : gE) (qD : Nat) (qO : Nat) (qG : Nat) (qC : Nat) (qA : Nat) (qB : Nat) (n : Nat) (sp : Nat) (ow : Nat → Nat) (gf : Nat → Int32) (gc : Nat → Int32) (ak : Nat → Int32) (bk : Nat → Int32) (i : Nat) (x : Int32) (y : Int32) (z : Int32) (hi : i < 16) : Met l yX0_holds wsX0_holds ({ frames := 0, cells := 0, slots := 0, locals := 0 }) (va_Pc [.ref qD, .int (nI i), .int x, .int y, .int z] (pR E [(qD, .inr (0, [.ref qO, .ref qG, .ref qC, .ref qA, .ref qB, .int (nI n), .int (nI sp)])), (qO, .inl (E.2.1, 16, .inl (fun w9 => nI (ow w9)))), (qG, .inl (E.2.1, 16, .inl gf)), (qC, .inl (E.2.1, 16, .inl gc)), (qA, .inl (E.2.1, 16, .inl ak)), (qB, .inl (E.2.1, 3, .inl bk))])) (vp_Si (fun r => r = zI (hO gf gc ak i x y z))) 0 0 (fun _ => False) := by
  refine Met.ofW (cc := cX0_holds) (maxL := 5) (ret := (some .boolean)) (by decide) rfl ?_
  intro p e s m args below meth c s₁ B hml hv
  obtain ⟨rfl, hP, hK⟩ := hv
  have hx := B.exec
  have hb := B.bytes
  have hr := B.returns
  have hts := atoms_spec (ws := wsX0_holds) B.pre
  have hown : s.vm.findClass RX0 = some m.cls := findClass_of_methodNamed B.named
  have hlocks := B.notSynchronized
  have hP : va_P E.1 vwCl [(qD, .inr (0, [.ref qO, .ref qG, .ref qC, .ref qA, .ref qB, .int (nI n), .int (nI sp)])), (qO, .inl (E.2.1, 16, .inl (fun w9 => nI (ow w9)))), (qG, .inl (E.2.1, 16, .inl gf)), (qC, .inl (E.2.1, 16, .inl gc)), (qA, .inl (E.2.1, 16, .inl ak)), (qB, .inl (E.2.1, 3, .inl bk))] s.heap := hP
  have hl := lv_entry ([.ref qD, .int (nI i), .int x, .int y, .int z]) (n := 5) (Nat.le_of_ble_eq_true rfl)
  rw [lg_entry_eq]
  generalize (lg_sl ([.ref qD, .int (nI i), .int x, .int y, .int z]) ++ List.replicate (5 - (lg_sl ([.ref qD, .int (nI i), .int x, .int y, .int z])).length) Slot.unset).toArray = ls at hl ⊢
  have hl : lv_has ls 5 [(0, .ref qD), (1, .int (nI i)), (2, .int x), (3, .int y), (4, .int z)] := hl
  refine lv_aload_n hx hb dX0_holds_0 rfl (lv_at hl 0 rfl) ?_
  refine va_get (D := E.1) (ci := 0) (v := .ref qG) (C := RX0) (T := TX0) (N := 7) hx hb hts (fun _ h => List.mem_cons_of_mem _ (List.mem_append_right _ h)) hown hK.1 hP 0 rfl rfl 1 (by decide) (hts (.fieldLink RX0 15 "Quarrelboard$Debate" "groundFacts" "[I") (List.mem_of_getElem? (i := 1) rfl)) (fun _ h9 => h9) rfl dX0_holds_1 ?_
  refine lv_iload_n hx hb dX0_holds_4 rfl (lv_at hl 1 rfl) ?_
  refine k_iald hx hb hK hP 2 (f := gf) i rfl (by omega) (by decide) dX0_holds_5 ?_
  refine lv_iload_n hx hb dX0_holds_6 rfl (lv_at hl 2 rfl) ?_
  refine lv_iconst (v := (-1)) hx hb dX0_holds_7 (by decide) ?_
  refine lv_ixor hx hb dX0_holds_8 ?_
  refine lv_iand hx hb dX0_holds_9 ?_
  refine lv_if_ne (tgt := 44) hx hb dX0_holds_10 (by decide) (fun c_10 => ?_) (fun c_10 => ?_)
  · skip
    refine lv_iconst (v := 0) hx hb dX0_holds_44 (by decide) ?_
    have e9 : (0 : Int32) = zI (hO gf gc ak i x y z) := by simp only [zI, hO, c_10, decide_true, decide_false, Bool.and_true, Bool.false_and, Bool.true_and, Bool.and_false, Bool.not_true, Bool.not_false, Bool.or_true, Bool.true_or, Bool.false_or, Bool.or_false, if_true, if_false, Bool.false_eq_true]
    exact W.zret (v := 0) hx hb hr (rfl) (fun t ht hW => ⟨_, rfl, e9, ht⟩) (fun q h => absurd h List.not_mem_nil) dX0_holds_45
  · skip
    refine lv_aload_n hx hb dX0_holds_13 rfl (lv_at hl 0 rfl) ?_
    refine va_get (D := E.1) (ci := 0) (v := .ref qC) (C := RX0) (T := TX0) (N := 7) hx hb hts (fun _ h => List.mem_cons_of_mem _ (List.mem_append_right _ h)) hown hK.1 hP 0 rfl rfl 2 (by decide) (hts (.fieldLink RX0 18 "Quarrelboard$Debate" "groundClaims" "[I") (List.mem_of_getElem? (i := 2) rfl)) (fun _ h9 => h9) rfl dX0_holds_14 ?_
    refine lv_iload_n hx hb dX0_holds_17 rfl (lv_at hl 1 rfl) ?_
    refine k_iald hx hb hK hP 3 (f := gc) i rfl (by omega) (by decide) dX0_holds_18 ?_
    refine lv_iload_n hx hb dX0_holds_19 rfl (lv_at hl 3 rfl) ?_
    refine lv_iconst (v := (-1)) hx hb dX0_holds_20 (by decide) ?_
    refine lv_ixor hx hb dX0_holds_21 ?_
    refine lv_iand hx hb dX0_holds_22 ?_
    refine lv_if_ne (tgt := 44) hx hb dX0_holds_23 (by decide) (fun c_23 => ?_) (fun c_23 => ?_)
    · skip
      refine lv_iconst (v := 0) hx hb dX0_holds_44 (by decide) ?_
      have e9 : (0 : Int32) = zI (hO gf gc ak i x y z) := by simp only [zI, hO, c_10, c_23, decide_true, decide_false, Bool.and_true, Bool.false_and, Bool.true_and, Bool.and_false, Bool.not_true, Bool.not_false, Bool.or_true, Bool.true_or, Bool.false_or, Bool.or_false, if_true, if_false, Bool.false_eq_true]
      exact W.zret (v := 0) hx hb hr (rfl) (fun t ht hW => ⟨_, rfl, e9, ht⟩) (fun q h => absurd h List.not_mem_nil) dX0_holds_45
    · skip
      refine lv_aload_n hx hb dX0_holds_26 rfl (lv_at hl 0 rfl) ?_
      refine va_get (D := E.1) (ci := 0) (v := .ref qA) (C := RX0) (T := TX0) (N := 7) hx hb hts (fun _ h => List.mem_cons_of_mem _ (List.mem_append_right _ h)) hown hK.1 hP 0 rfl rfl 3 (by decide) (hts (.fieldLink RX0 21 "Quarrelboard$Debate" "attackers" "[I") (List.mem_of_getElem? (i := 3) rfl)) (fun _ h9 => h9) rfl dX0_holds_27 ?_
      refine lv_iload_n hx hb dX0_holds_30 rfl (lv_at hl 1 rfl) ?_
      refine k_iald hx hb hK hP 4 (f := ak) i rfl (by omega) (by decide) dX0_holds_31 ?_
      refine lv_iload hx hb dX0_holds_32 (lv_at hl 4 rfl) ?_
      refine lv_iconst (v := (-1)) hx hb dX0_holds_34 (by decide) ?_
      refine lv_ixor hx hb dX0_holds_35 ?_
      refine lv_iand hx hb dX0_holds_36 ?_
      refine lv_if_ne (tgt := 44) hx hb dX0_holds_37 (by decide) (fun c_37 => ?_) (fun c_37 => ?_)
      · skip
        refine lv_iconst (v := 0) hx hb dX0_holds_44 (by decide) ?_
        have e9 : (0 : Int32) = zI (hO gf gc ak i x y z) := by simp only [zI, hO, c_10, c_23, c_37, decide_true, decide_false, Bool.and_true, Bool.false_and, Bool.true_and, Bool.and_false, Bool.not_true, Bool.not_false, Bool.or_true, Bool.true_or, Bool.false_or, Bool.or_false, if_true, if_false, Bool.false_eq_true]
        exact W.zret (v := 0) hx hb hr (rfl) (fun t ht hW => ⟨_, rfl, e9, ht⟩) (fun q h => absurd h List.not_mem_nil) dX0_holds_45
      · skip
        refine lv_iconst (v := 1) hx hb dX0_holds_40 (by decide) ?_
        refine lv_goto (tgt := 45) hx hb dX0_holds_41 (by decide) ?_
        have e9 : (1 : Int32) = zI (hO gf gc ak i x y z) := by simp only [zI, hO, c_10, c_23, c_37, decide_true, decide_false, Bool.and_true, Bool.false_and, Bool.true_and, Bool.and_false, Bool.not_true, Bool.not_false, Bool.or_true, Bool.true_or, Bool.false_or, Bool.or_false, if_true, if_false, Bool.false_eq_true]
        exact W.zret (v := 1) hx hb hr (rfl) (fun t ht hW => ⟨_, rfl, e9, ht⟩) (fun q h => absurd h List.not_mem_nil) dX0_holds_45
set_option maxHeartbeats 4000000 in
set_option maxRecDepth 100000 in
theorem c_X0_fails (l : Launch) (E : gE) (qD : Nat) (qO : Nat) (qG : Nat) (qC : Nat) (qA : Nat) (qB : Nat) (n : Nat) (sp : Nat) (ow : Nat → Nat) (gf : Nat → Int32) (gc : Nat → Int32) (ak : Nat → Int32) (bk : Nat → Int32) (i : Nat) (x : Int32) (y : Int32) (z : Int32) (hi : i < 16) : Met l yX0_fails wsX0_fails ({ frames := 0, cells := 0, slots := 0, locals := 0 }) (va_Pc [.ref qD, .int (nI i), .int x, .int y, .int z] (pR E [(qD, .inr (0, [.ref qO, .ref qG, .ref qC, .ref qA, .ref qB, .int (nI n), .int (nI sp)])), (qO, .inl (E.2.1, 16, .inl (fun w9 => nI (ow w9)))), (qG, .inl (E.2.1, 16, .inl gf)), (qC, .inl (E.2.1, 16, .inl gc)), (qA, .inl (E.2.1, 16, .inl ak)), (qB, .inl (E.2.1, 3, .inl bk))])) (vp_Si (fun r => r = zI (fA gf gc ak i x y z))) 0 0 (fun _ => False) := by
  refine Met.ofW (cc := cX0_fails) (maxL := 5) (ret := (some .boolean)) (by decide) rfl ?_
  intro p e s m args below meth c s₁ B hml hv
  obtain ⟨rfl, hP, hK⟩ := hv
  have hx := B.exec
  have hb := B.bytes
  have hr := B.returns
  have hts := atoms_spec (ws := wsX0_fails) B.pre
  have hown : s.vm.findClass RX0 = some m.cls := findClass_of_methodNamed B.named
  have hlocks := B.notSynchronized
  have hP : va_P E.1 vwCl [(qD, .inr (0, [.ref qO, .ref qG, .ref qC, .ref qA, .ref qB, .int (nI n), .int (nI sp)])), (qO, .inl (E.2.1, 16, .inl (fun w9 => nI (ow w9)))), (qG, .inl (E.2.1, 16, .inl gf)), (qC, .inl (E.2.1, 16, .inl gc)), (qA, .inl (E.2.1, 16, .inl ak)), (qB, .inl (E.2.1, 3, .inl bk))] s.heap := hP
  have hl := lv_entry ([.ref qD, .int (nI i), .int x, .int y, .int z]) (n := 5) (Nat.le_of_ble_eq_true rfl)
  rw [lg_entry_eq]
  generalize (lg_sl ([.ref qD, .int (nI i), .int x, .int y, .int z]) ++ List.replicate (5 - (lg_sl ([.ref qD, .int (nI i), .int x, .int y, .int z])).length) Slot.unset).toArray = ls at hl ⊢
  have hl : lv_has ls 5 [(0, .ref qD), (1, .int (nI i)), (2, .int x), (3, .int y), (4, .int z)] := hl
  refine lv_aload_n hx hb dX0_fails_0 rfl (lv_at hl 0 rfl) ?_
  refine va_get (D := E.1) (ci := 0) (v := .ref qG) (C := RX0) (T := TX0) (N := 7) hx hb hts (fun _ h => List.mem_cons_of_mem _ (List.mem_append_right _ h)) hown hK.1 hP 0 rfl rfl 1 (by decide) (hts (.fieldLink RX0 15 "Quarrelboard$Debate" "groundFacts" "[I") (List.mem_of_getElem? (i := 1) rfl)) (fun _ h9 => h9) rfl dX0_fails_1 ?_
  refine lv_iload_n hx hb dX0_fails_4 rfl (lv_at hl 1 rfl) ?_
  refine k_iald hx hb hK hP 2 (f := gf) i rfl (by omega) (by decide) dX0_fails_5 ?_
  refine lv_iload_n hx hb dX0_fails_6 rfl (lv_at hl 2 rfl) ?_
  refine lv_iconst (v := (-1)) hx hb dX0_fails_7 (by decide) ?_
  refine lv_ixor hx hb dX0_fails_8 ?_
  refine lv_iand hx hb dX0_fails_9 ?_
  refine lv_if_ne (tgt := 36) hx hb dX0_fails_10 (by decide) (fun c_10 => ?_) (fun c_10 => ?_)
  · skip
    refine lv_iconst (v := 1) hx hb dX0_fails_36 (by decide) ?_
    refine lv_goto (tgt := 41) hx hb dX0_fails_37 (by decide) ?_
    have e9 : (1 : Int32) = zI (fA gf gc ak i x y z) := by simp only [zI, fA, c_10, decide_true, decide_false, Bool.and_true, Bool.false_and, Bool.true_and, Bool.and_false, Bool.not_true, Bool.not_false, Bool.or_true, Bool.true_or, Bool.false_or, Bool.or_false, if_true, if_false, Bool.false_eq_true]
    exact W.zret (v := 1) hx hb hr (rfl) (fun t ht hW => ⟨_, rfl, e9, ht⟩) (fun q h => absurd h List.not_mem_nil) dX0_fails_41
  · skip
    refine lv_aload_n hx hb dX0_fails_13 rfl (lv_at hl 0 rfl) ?_
    refine va_get (D := E.1) (ci := 0) (v := .ref qC) (C := RX0) (T := TX0) (N := 7) hx hb hts (fun _ h => List.mem_cons_of_mem _ (List.mem_append_right _ h)) hown hK.1 hP 0 rfl rfl 2 (by decide) (hts (.fieldLink RX0 18 "Quarrelboard$Debate" "groundClaims" "[I") (List.mem_of_getElem? (i := 2) rfl)) (fun _ h9 => h9) rfl dX0_fails_14 ?_
    refine lv_iload_n hx hb dX0_fails_17 rfl (lv_at hl 1 rfl) ?_
    refine k_iald hx hb hK hP 3 (f := gc) i rfl (by omega) (by decide) dX0_fails_18 ?_
    refine lv_iload hx hb dX0_fails_19 (lv_at hl 4 rfl) ?_
    refine lv_iand hx hb dX0_fails_21 ?_
    refine lv_if_ne (tgt := 36) hx hb dX0_fails_22 (by decide) (fun c_22 => ?_) (fun c_22 => ?_)
    · skip
      refine lv_iconst (v := 1) hx hb dX0_fails_36 (by decide) ?_
      refine lv_goto (tgt := 41) hx hb dX0_fails_37 (by decide) ?_
      have e9 : (1 : Int32) = zI (fA gf gc ak i x y z) := by simp only [zI, fA, c_10, c_22, decide_true, decide_false, Bool.and_true, Bool.false_and, Bool.true_and, Bool.and_false, Bool.not_true, Bool.not_false, Bool.or_true, Bool.true_or, Bool.false_or, Bool.or_false, if_true, if_false, Bool.false_eq_true]
      exact W.zret (v := 1) hx hb hr (rfl) (fun t ht hW => ⟨_, rfl, e9, ht⟩) (fun q h => absurd h List.not_mem_nil) dX0_fails_41
    · skip
      refine lv_aload_n hx hb dX0_fails_25 rfl (lv_at hl 0 rfl) ?_
      refine va_get (D := E.1) (ci := 0) (v := .ref qA) (C := RX0) (T := TX0) (N := 7) hx hb hts (fun _ h => List.mem_cons_of_mem _ (List.mem_append_right _ h)) hown hK.1 hP 0 rfl rfl 3 (by decide) (hts (.fieldLink RX0 21 "Quarrelboard$Debate" "attackers" "[I") (List.mem_of_getElem? (i := 3) rfl)) (fun _ h9 => h9) rfl dX0_fails_26 ?_
      refine lv_iload_n hx hb dX0_fails_29 rfl (lv_at hl 1 rfl) ?_
      refine k_iald hx hb hK hP 4 (f := ak) i rfl (by omega) (by decide) dX0_fails_30 ?_
      refine lv_iload_n hx hb dX0_fails_31 rfl (lv_at hl 3 rfl) ?_
      refine lv_iand hx hb dX0_fails_32 ?_
      refine lv_if_eq (tgt := 40) hx hb dX0_fails_33 (by decide) (fun c_33 => ?_) (fun c_33 => ?_)
      · skip
        refine lv_iconst (v := 0) hx hb dX0_fails_40 (by decide) ?_
        have e9 : (0 : Int32) = zI (fA gf gc ak i x y z) := by simp only [zI, fA, c_10, c_22, c_33, decide_true, decide_false, Bool.and_true, Bool.false_and, Bool.true_and, Bool.and_false, Bool.not_true, Bool.not_false, Bool.or_true, Bool.true_or, Bool.false_or, Bool.or_false, if_true, if_false, Bool.false_eq_true]
        exact W.zret (v := 0) hx hb hr (rfl) (fun t ht hW => ⟨_, rfl, e9, ht⟩) (fun q h => absurd h List.not_mem_nil) dX0_fails_41
      · skip
        refine lv_iconst (v := 1) hx hb dX0_fails_36 (by decide) ?_
        refine lv_goto (tgt := 41) hx hb dX0_fails_37 (by decide) ?_
        have e9 : (1 : Int32) = zI (fA gf gc ak i x y z) := by simp only [zI, fA, c_10, c_22, c_33, decide_true, decide_false, Bool.and_true, Bool.false_and, Bool.true_and, Bool.and_false, Bool.not_true, Bool.not_false, Bool.or_true, Bool.true_or, Bool.false_or, Bool.or_false, if_true, if_false, Bool.false_eq_true]
        exact W.zret (v := 1) hx hb hr (rfl) (fun t ht hW => ⟨_, rfl, e9, ht⟩) (fun q h => absurd h List.not_mem_nil) dX0_fails_41
set_option maxHeartbeats 4000000 in
set_option maxRecDepth 100000 in
theorem c_X0_matters (l : Launch) (E : gE) (qD : Nat) (qO : Nat) (qG : Nat) (qC : Nat) (qA : Nat) (qB : Nat) (n : Nat) (sp : Nat) (ow : Nat → Nat) (gf : Nat → Int32) (gc : Nat → Int32) (ak : Nat → Int32) (bk : Nat → Int32) (i : Nat) (j : Nat) (hi : i < 16) (hj : j < 32) : Met l yX0_matters wsX0_matters ({ frames := 1, cells := 0, slots := 0, locals := 21 }) (va_Pc [.ref qD, .int (nI i), .int (nI j)] (pR E [(qD, .inr (0, [.ref qO, .ref qG, .ref qC, .ref qA, .ref qB, .int (nI n), .int (nI sp)])), (qO, .inl (E.2.1, 16, .inl (fun w9 => nI (ow w9)))), (qG, .inl (E.2.1, 16, .inl gf)), (qC, .inl (E.2.1, 16, .inl gc)), (qA, .inl (E.2.1, 16, .inl ak)), (qB, .inl (E.2.1, 3, .inl bk))])) (vp_Si (fun r => r = zI (bt (gc i ||| ak i) j))) 0 0 (fun _ => False) := by
  refine Met.ofW (cc := cX0_matters) (maxL := 3) (ret := (some .boolean)) (by decide) rfl ?_
  intro p e s m args below meth c s₁ B hml hv
  obtain ⟨rfl, hP, hK⟩ := hv
  have hx := B.exec
  have hb := B.bytes
  have hr := B.returns
  have hts := atoms_spec (ws := wsX0_matters) B.pre
  have hown : s.vm.findClass RX0 = some m.cls := findClass_of_methodNamed B.named
  have hlocks := B.notSynchronized
  have hP : va_P E.1 vwCl [(qD, .inr (0, [.ref qO, .ref qG, .ref qC, .ref qA, .ref qB, .int (nI n), .int (nI sp)])), (qO, .inl (E.2.1, 16, .inl (fun w9 => nI (ow w9)))), (qG, .inl (E.2.1, 16, .inl gf)), (qC, .inl (E.2.1, 16, .inl gc)), (qA, .inl (E.2.1, 16, .inl ak)), (qB, .inl (E.2.1, 3, .inl bk))] s.heap := hP
  have hl := lv_entry ([.ref qD, .int (nI i), .int (nI j)]) (n := 3) (Nat.le_of_ble_eq_true rfl)
  rw [lg_entry_eq]
  generalize (lg_sl ([.ref qD, .int (nI i), .int (nI j)]) ++ List.replicate (3 - (lg_sl ([.ref qD, .int (nI i), .int (nI j)])).length) Slot.unset).toArray = ls at hl ⊢
  have hl : lv_has ls 3 [(0, .ref qD), (1, .int (nI i)), (2, .int (nI j))] := hl
  refine lv_aload_n hx hb dX0_matters_0 rfl (lv_at hl 0 rfl) ?_
  refine va_get (D := E.1) (ci := 0) (v := .ref qC) (C := RX0) (T := TX0) (N := 7) hx hb hts (fun _ h => List.mem_cons_of_mem _ (List.mem_append_right _ h)) hown hK.1 hP 0 rfl rfl 2 (by decide) (hts (.fieldLink RX0 18 "Quarrelboard$Debate" "groundClaims" "[I") (List.mem_of_getElem? (i := 1) rfl)) (fun _ h9 => h9) rfl dX0_matters_1 ?_
  refine lv_iload_n hx hb dX0_matters_4 rfl (lv_at hl 1 rfl) ?_
  refine k_iald hx hb hK hP 3 (f := gc) i rfl (by omega) (by decide) dX0_matters_5 ?_
  refine lv_aload_n hx hb dX0_matters_6 rfl (lv_at hl 0 rfl) ?_
  refine va_get (D := E.1) (ci := 0) (v := .ref qA) (C := RX0) (T := TX0) (N := 7) hx hb hts (fun _ h => List.mem_cons_of_mem _ (List.mem_append_right _ h)) hown hK.1 hP 0 rfl rfl 3 (by decide) (hts (.fieldLink RX0 21 "Quarrelboard$Debate" "attackers" "[I") (List.mem_of_getElem? (i := 2) rfl)) (fun _ h9 => h9) rfl dX0_matters_7 ?_
  refine lv_iload_n hx hb dX0_matters_10 rfl (lv_at hl 1 rfl) ?_
  refine k_iald hx hb hK hP 4 (f := ak) i rfl (by omega) (by decide) dX0_matters_11 ?_
  refine lv_ior hx hb dX0_matters_12 ?_
  refine lv_iload_n hx hb dX0_matters_13 rfl (lv_at hl 2 rfl) ?_
  refine cl_SN (Wc := []) (As := [.int ((gc i) ||| (ak i)), .int (nI j)]) (rest := []) ⟨hx, hb, hml, hown, hts⟩ (c_X3_contains l E  ((gc i) ||| (ak i)) j (by omega)) ⟨va_cnB 2 hts gX0_matters_X3_contains_n43 rfl rfl rfl hK.2.1 (hts (.initialized RX3) (List.mem_of_getElem? (i := 4) rfl)) (by decide +kernel) ⟨Nat.le_of_ble_eq_true rfl, Nat.le_of_ble_eq_true rfl⟩, hts (.static yX3_contains) (List.mem_of_getElem? (i := 3) rfl), trivial⟩ hK (hP.sub [] rfl) rfl hl.1 rfl (Nat.le_of_ble_eq_true rfl) dX0_matters_14 ⟨Nat.zero_le _, Nat.zero_le _⟩ ?_
  have e9 : (zI (bt ((gc i) ||| (ak i)) j) : Int32) = zI (bt (gc i ||| ak i) j) := by rfl
  exact W.zret (v := zI (bt ((gc i) ||| (ak i)) j)) hx hb hr (zI_nar (bt ((gc i) ||| (ak i)) j)) (fun t ht hW => ⟨_, rfl, e9, ht⟩) (fun q h => absurd h List.not_mem_nil) dX0_matters_17
set_option maxHeartbeats 4000000 in
set_option maxRecDepth 100000 in
theorem c_X0_illFounded (l : Launch) (E : gE) (qD : Nat) (qO : Nat) (qG : Nat) (qC : Nat) (qA : Nat) (qB : Nat) (n : Nat) (sp : Nat) (ow : Nat → Nat) (gf : Nat → Int32) (gc : Nat → Int32) (ak : Nat → Int32) (bk : Nat → Int32) (x : Int32) (hn : n ≤ 16) : Met l yX0_illFounded wsX0_illFounded ({ frames := 0, cells := 0, slots := 0, locals := 0 }) (va_Pc [.ref qD, .int x] (pR E [(qD, .inr (0, [.ref qO, .ref qG, .ref qC, .ref qA, .ref qB, .int (nI n), .int (nI sp)])), (qO, .inl (E.2.1, 16, .inl (fun w9 => nI (ow w9)))), (qG, .inl (E.2.1, 16, .inl gf)), (qC, .inl (E.2.1, 16, .inl gc)), (qA, .inl (E.2.1, 16, .inl ak)), (qB, .inl (E.2.1, 3, .inl bk))])) (vp_Si (fun r => r = ilF gf x n)) 0 0 (fun _ => False) := by
  refine Met.ofW (cc := cX0_illFounded) (maxL := 4) (ret := (some .int)) (by decide) rfl ?_
  intro p e s m args below meth c s₁ B hml hv
  obtain ⟨rfl, hP, hK⟩ := hv
  have hx := B.exec
  have hb := B.bytes
  have hr := B.returns
  have hts := atoms_spec (ws := wsX0_illFounded) B.pre
  have hown : s.vm.findClass RX0 = some m.cls := findClass_of_methodNamed B.named
  have hlocks := B.notSynchronized
  have hP : va_P E.1 vwCl [(qD, .inr (0, [.ref qO, .ref qG, .ref qC, .ref qA, .ref qB, .int (nI n), .int (nI sp)])), (qO, .inl (E.2.1, 16, .inl (fun w9 => nI (ow w9)))), (qG, .inl (E.2.1, 16, .inl gf)), (qC, .inl (E.2.1, 16, .inl gc)), (qA, .inl (E.2.1, 16, .inl ak)), (qB, .inl (E.2.1, 3, .inl bk))] s.heap := hP
  have hl := lv_entry ([.ref qD, .int x]) (n := 4) (Nat.le_of_ble_eq_true rfl)
  rw [lg_entry_eq]
  generalize (lg_sl ([.ref qD, .int x]) ++ List.replicate (4 - (lg_sl ([.ref qD, .int x])).length) Slot.unset).toArray = ls at hl ⊢
  have hl : lv_has ls 4 [(0, .ref qD), (1, .int x)] := hl
  refine lv_iconst (v := 0) hx hb dX0_illFounded_0 (by decide) ?_
  refine lv_istore_n (lv' := [(2, .int 0), (0, .ref qD), (1, .int x)]) hx hb dX0_illFounded_1 rfl hl (by decide) rfl (fun ls hl => ?_)
  refine lv_iconst (v := 0) hx hb dX0_illFounded_2 (by decide) ?_
  refine lv_istore_n (lv' := [(3, .int 0), (2, .int 0), (0, .ref qD), (1, .int x)]) hx hb dX0_illFounded_3 rfl hl (by decide) rfl (fun ls hl => ?_)
  have loop4 : ∀ (z4 k : Nat), k ≤ n → n + 1 ≤ k + z4 → ∀ (ls : Array Slot), lv_has ls 4 [(0, .ref qD), (1, .int x), (2, .int (ilF gf x k)), (3, .int (nI k))] → W p l e (headSpec wsX0_illFounded ({ frames := 0, cells := 0, slots := 0, locals := 0 })).room s m ([.ref qD, .int x] : List Value).toArray below meth c s.heap [] 0 0 (MQ below (vp_Si (fun r => r = ilF gf x n)) ([.ref qD, .int x] : List Value).toArray s 0 0 (fun _ => False)) (F0 m 4 ls []) := by
    intro z4
    induction z4 with
    | zero =>
      intro k hk4 hz4
      exact absurd hz4 (by omega)
    | succ z4 ih4 =>
      intro k hk4 hz4  ls hl
      refine lv_iload_n hx hb dX0_illFounded_4 rfl (lv_at hl 3 rfl) ?_
      refine lv_aload_n hx hb dX0_illFounded_5 rfl (lv_at hl 0 rfl) ?_
      refine va_get (D := E.1) (ci := 0) (v := .int (nI n)) (C := RX0) (T := TX0) (N := 7) hx hb hts (fun _ h => List.mem_cons_of_mem _ (List.mem_append_right _ h)) hown hK.1 hP 0 rfl rfl 5 (by decide) (hts (.fieldLink RX0 33 "Quarrelboard$Debate" "count" "I") (List.mem_of_getElem? (i := 1) rfl)) (fun _ h9 => h9) rfl dX0_illFounded_6 ?_
      refine lv_icmp_ge (tgt := 37) hx hb dX0_illFounded_9 (by decide) (fun c_9 => ?_) (fun c_9 => ?_)
      · have c_9 : nI n ≤ nI k := c_9
        have c_9 := (nI_leI (a := n) (b := k) (by omega) (by omega)).mp c_9
        refine lv_iload_n hx hb dX0_illFounded_37 rfl (lv_at hl 2 rfl) ?_
        have e9 : (ilF gf x k : Int32) = ilF gf x n := by rw [show k = n from by omega]
        exact W.iret (v := ilF gf x k) hx hb hr (fun t ht hW => ⟨_, rfl, e9, ht⟩) (fun q h => absurd h List.not_mem_nil) dX0_illFounded_38
      · have c_9 : ¬ (nI n ≤ nI k) := c_9
        have c_9 : ¬ (n ≤ k) := fun h9 => c_9 ((nI_leI (a := n) (b := k) (by omega) (by omega)).mpr h9)
        refine lv_aload_n hx hb dX0_illFounded_12 rfl (lv_at hl 0 rfl) ?_
        refine va_get (D := E.1) (ci := 0) (v := .ref qG) (C := RX0) (T := TX0) (N := 7) hx hb hts (fun _ h => List.mem_cons_of_mem _ (List.mem_append_right _ h)) hown hK.1 hP 0 rfl rfl 1 (by decide) (hts (.fieldLink RX0 15 "Quarrelboard$Debate" "groundFacts" "[I") (List.mem_of_getElem? (i := 2) rfl)) (fun _ h9 => h9) rfl dX0_illFounded_13 ?_
        refine lv_iload_n hx hb dX0_illFounded_16 rfl (lv_at hl 3 rfl) ?_
        refine k_iald hx hb hK hP 2 (f := gf) k rfl (by omega) (by decide) dX0_illFounded_17 ?_
        refine lv_iload_n hx hb dX0_illFounded_18 rfl (lv_at hl 1 rfl) ?_
        refine lv_iconst (v := (-1)) hx hb dX0_illFounded_19 (by decide) ?_
        refine lv_ixor hx hb dX0_illFounded_20 ?_
        refine lv_iand hx hb dX0_illFounded_21 ?_
        refine lv_if_eq (tgt := 31) hx hb dX0_illFounded_22 (by decide) (fun c_22 => ?_) (fun c_22 => ?_)
        · skip
          refine lv_iinc (v := nI (k + 1)) (lv' := [(3, .int (nI (k + 1))), (0, .ref qD), (1, .int x), (2, .int (ilF gf x k))]) hx hb dX0_illFounded_31 hl (k := 3) rfl (nI_1 _) (by decide) rfl (fun ls hl => ?_)
          refine lv_goto (tgt := 4) hx hb dX0_illFounded_34 (by decide) ?_
          have hl : lv_has ls 4 [(0, .ref qD), (1, .int x), (2, .int (ilF gf x (k + 1))), (3, .int (nI (k + 1)))] := by rw [show ilF gf x (k + 1) = ilF gf x k from if_pos c_22]; exact lv_sub hl [1, 2, 3, 0] rfl
          exact ih4 (k + 1) (by omega) (by omega)  ls hl
        · skip
          refine lv_iload_n hx hb dX0_illFounded_25 rfl (lv_at hl 2 rfl) ?_
          refine lv_iconst (v := 1) hx hb dX0_illFounded_26 (by decide) ?_
          refine lv_iload_n hx hb dX0_illFounded_27 rfl (lv_at hl 3 rfl) ?_
          refine lv_ishl hx hb dX0_illFounded_28 ?_
          refine lv_topi (fun y9 ey9 => ?_)
          obtain rfl : y9 = m1 k := ey9.trans (rfl)
          refine lv_ior hx hb dX0_illFounded_29 ?_
          refine lv_istore_n (lv' := [(2, .int ((ilF gf x k) ||| (m1 k))), (0, .ref qD), (1, .int x), (3, .int (nI k))]) hx hb dX0_illFounded_30 rfl hl (by decide) rfl (fun ls hl => ?_)
          refine lv_iinc (v := nI (k + 1)) (lv' := [(3, .int (nI (k + 1))), (2, .int ((ilF gf x k) ||| (m1 k))), (0, .ref qD), (1, .int x)]) hx hb dX0_illFounded_31 hl (k := 3) rfl (nI_1 _) (by decide) rfl (fun ls hl => ?_)
          refine lv_goto (tgt := 4) hx hb dX0_illFounded_34 (by decide) ?_
          have hl : lv_has ls 4 [(0, .ref qD), (1, .int x), (2, .int (ilF gf x (k + 1))), (3, .int (nI (k + 1)))] := by rw [show ilF gf x (k + 1) = ilF gf x k ||| m1 k from if_neg c_22]; exact lv_sub hl [2, 3, 1, 0] rfl
          exact ih4 (k + 1) (by omega) (by omega)  ls hl
  have hl : lv_has ls 4 [(0, .ref qD), (1, .int x), (2, .int (ilF gf x 0)), (3, .int (nI 0))] := by exact lv_sub hl [2, 3, 1, 0] rfl
  exact loop4 (n + 1) 0 (by omega) (by omega)  ls hl
set_option maxHeartbeats 4000000 in
set_option maxRecDepth 100000 in
theorem c_X0_countOf (l : Launch) (E : gE) (qD : Nat) (qO : Nat) (qG : Nat) (qC : Nat) (qA : Nat) (qB : Nat) (n : Nat) (sp : Nat) (ow : Nat → Nat) (gf : Nat → Int32) (gc : Nat → Int32) (ak : Nat → Int32) (bk : Nat → Int32) (q : Nat) (x : Int32) (hn : n ≤ 16) (hq : q < 3) (ho : ∀ i, i < n → ow i < 3) : Met l yX0_countOf wsX0_countOf ({ frames := 1, cells := 0, slots := 0, locals := 21 }) (va_Pc [.ref qD, .int (nI q), .int x] (pR E [(qD, .inr (0, [.ref qO, .ref qG, .ref qC, .ref qA, .ref qB, .int (nI n), .int (nI sp)])), (qO, .inl (E.2.1, 16, .inl (fun w9 => nI (ow w9)))), (qG, .inl (E.2.1, 16, .inl gf)), (qC, .inl (E.2.1, 16, .inl gc)), (qA, .inl (E.2.1, 16, .inl ak)), (qB, .inl (E.2.1, 3, .inl bk))])) (vp_Si (fun r => r = nI (cnF ow q x n))) 0 0 (fun _ => False) := by
  refine Met.ofW (cc := cX0_countOf) (maxL := 5) (ret := (some .int)) (by decide) rfl ?_
  intro p e s m args below meth c s₁ B hml hv
  obtain ⟨rfl, hP, hK⟩ := hv
  have hx := B.exec
  have hb := B.bytes
  have hr := B.returns
  have hts := atoms_spec (ws := wsX0_countOf) B.pre
  have hown : s.vm.findClass RX0 = some m.cls := findClass_of_methodNamed B.named
  have hlocks := B.notSynchronized
  have hP : va_P E.1 vwCl [(qD, .inr (0, [.ref qO, .ref qG, .ref qC, .ref qA, .ref qB, .int (nI n), .int (nI sp)])), (qO, .inl (E.2.1, 16, .inl (fun w9 => nI (ow w9)))), (qG, .inl (E.2.1, 16, .inl gf)), (qC, .inl (E.2.1, 16, .inl gc)), (qA, .inl (E.2.1, 16, .inl ak)), (qB, .inl (E.2.1, 3, .inl bk))] s.heap := hP
  have hl := lv_entry ([.ref qD, .int (nI q), .int x]) (n := 5) (Nat.le_of_ble_eq_true rfl)
  rw [lg_entry_eq]
  generalize (lg_sl ([.ref qD, .int (nI q), .int x]) ++ List.replicate (5 - (lg_sl ([.ref qD, .int (nI q), .int x])).length) Slot.unset).toArray = ls at hl ⊢
  have hl : lv_has ls 5 [(0, .ref qD), (1, .int (nI q)), (2, .int x)] := hl
  refine lv_iconst (v := 0) hx hb dX0_countOf_0 (by decide) ?_
  refine lv_istore_n (lv' := [(3, .int 0), (0, .ref qD), (1, .int (nI q)), (2, .int x)]) hx hb dX0_countOf_1 rfl hl (by decide) rfl (fun ls hl => ?_)
  refine lv_iconst (v := 0) hx hb dX0_countOf_2 (by decide) ?_
  refine lv_istore (lv' := [(4, .int 0), (3, .int 0), (0, .ref qD), (1, .int (nI q)), (2, .int x)]) hx hb dX0_countOf_3 hl (by decide) rfl (fun ls hl => ?_)
  have loop5 : ∀ (z5 k : Nat), k ≤ n → n + 1 ≤ k + z5 → ∀ (ls : Array Slot), lv_has ls 5 [(0, .ref qD), (1, .int (nI q)), (2, .int x), (3, .int (nI (cnF ow q x k))), (4, .int (nI k))] → W p l e (headSpec wsX0_countOf ({ frames := 1, cells := 0, slots := 0, locals := 21 })).room s m ([.ref qD, .int (nI q), .int x] : List Value).toArray below meth c s.heap [] 0 0 (MQ below (vp_Si (fun r => r = nI (cnF ow q x n))) ([.ref qD, .int (nI q), .int x] : List Value).toArray s 0 0 (fun _ => False)) (F0 m 5 ls []) := by
    intro z5
    induction z5 with
    | zero =>
      intro k hk5 hz5
      exact absurd hz5 (by omega)
    | succ z5 ih5 =>
      intro k hk5 hz5  ls hl
      refine lv_iload hx hb dX0_countOf_5 (lv_at hl 4 rfl) ?_
      refine lv_aload_n hx hb dX0_countOf_7 rfl (lv_at hl 0 rfl) ?_
      refine va_get (D := E.1) (ci := 0) (v := .int (nI n)) (C := RX0) (T := TX0) (N := 7) hx hb hts (fun _ h => List.mem_cons_of_mem _ (List.mem_append_right _ h)) hown hK.1 hP 0 rfl rfl 5 (by decide) (hts (.fieldLink RX0 33 "Quarrelboard$Debate" "count" "I") (List.mem_of_getElem? (i := 1) rfl)) (fun _ h9 => h9) rfl dX0_countOf_8 ?_
      refine lv_icmp_ge (tgt := 43) hx hb dX0_countOf_11 (by decide) (fun c_11 => ?_) (fun c_11 => ?_)
      · have c_11 : nI n ≤ nI k := c_11
        have c_11 := (nI_leI (a := n) (b := k) (by omega) (by omega)).mp c_11
        refine lv_iload_n hx hb dX0_countOf_43 rfl (lv_at hl 3 rfl) ?_
        have e9 : (nI (cnF ow q x k) : Int32) = nI (cnF ow q x n) := by rw [show k = n from by omega]
        exact W.iret (v := nI (cnF ow q x k)) hx hb hr (fun t ht hW => ⟨_, rfl, e9, ht⟩) (fun q h => absurd h List.not_mem_nil) dX0_countOf_44
      · have c_11 : ¬ (nI n ≤ nI k) := c_11
        have c_11 : ¬ (n ≤ k) := fun h9 => c_11 ((nI_leI (a := n) (b := k) (by omega) (by omega)).mpr h9)
        refine lv_aload_n hx hb dX0_countOf_14 rfl (lv_at hl 0 rfl) ?_
        refine va_get (D := E.1) (ci := 0) (v := .ref qO) (C := RX0) (T := TX0) (N := 7) hx hb hts (fun _ h => List.mem_cons_of_mem _ (List.mem_append_right _ h)) hown hK.1 hP 0 rfl rfl 0 (by decide) (hts (.fieldLink RX0 9 "Quarrelboard$Debate" "owners" "[I") (List.mem_of_getElem? (i := 2) rfl)) (fun _ h9 => h9) rfl dX0_countOf_15 ?_
        refine lv_iload hx hb dX0_countOf_18 (lv_at hl 4 rfl) ?_
        refine k_ialdN hx hb hK hP 1 (f := ow) k rfl (by omega) (by decide) dX0_countOf_20 ?_
        refine lv_iload_n hx hb dX0_countOf_21 rfl (lv_at hl 1 rfl) ?_
        have ho9 := ho k (by omega)
        refine lv_icmp_ne (tgt := 37) hx hb dX0_countOf_22 (by decide) (fun c_22 => ?_) (fun c_22 => ?_)
        · have c_22 : ¬ (nI (ow k) = nI q) := c_22
          have c_22 : ¬ ((ow k) = q) := fun h9 => c_22 ((nI_eq (a := (ow k)) (b := q) (by omega) (by omega)).mpr h9)
          refine lv_iinc (v := nI (k + 1)) (lv' := [(4, .int (nI (k + 1))), (0, .ref qD), (1, .int (nI q)), (2, .int x), (3, .int (nI (cnF ow q x k)))]) hx hb dX0_countOf_37 hl (k := 4) rfl (nI_1 _) (by decide) rfl (fun ls hl => ?_)
          refine lv_goto (tgt := 5) hx hb dX0_countOf_40 (by decide) ?_
          have hl : lv_has ls 5 [(0, .ref qD), (1, .int (nI q)), (2, .int x), (3, .int (nI (cnF ow q x (k + 1)))), (4, .int (nI (k + 1)))] := by rw [show cnF ow q x (k + 1) = cnF ow q x k from by simp [cnF, c_22]]; exact lv_sub hl [1, 2, 3, 4, 0] rfl
          exact ih5 (k + 1) (by omega) (by omega)  ls hl
        · have c_22 : nI (ow k) = nI q := c_22
          have c_22 := (nI_eq (a := (ow k)) (b := q) (by omega) (by omega)).mp c_22
          refine lv_iload_n hx hb dX0_countOf_25 rfl (lv_at hl 2 rfl) ?_
          refine lv_iload hx hb dX0_countOf_26 (lv_at hl 4 rfl) ?_
          refine cl_SN (Wc := []) (As := [.int x, .int (nI k)]) (rest := []) ⟨hx, hb, hml, hown, hts⟩ (c_X3_contains l E  x k (by omega)) ⟨va_cnB 2 hts gX0_countOf_X3_contains_n43 rfl rfl rfl hK.2.1 (hts (.initialized RX3) (List.mem_of_getElem? (i := 4) rfl)) (by decide +kernel) ⟨Nat.le_of_ble_eq_true rfl, Nat.le_of_ble_eq_true rfl⟩, hts (.static yX3_contains) (List.mem_of_getElem? (i := 3) rfl), trivial⟩ hK (hP.sub [] rfl) rfl hl.1 rfl (Nat.le_of_ble_eq_true rfl) dX0_countOf_28 ⟨Nat.zero_le _, Nat.zero_le _⟩ ?_
          refine lv_if_eq (tgt := 37) hx hb dX0_countOf_31 (by decide) (fun c_31 => ?_) (fun c_31 => ?_)
          · have c_31 := zI_f c_31
            refine lv_iinc (v := nI (k + 1)) (lv' := [(4, .int (nI (k + 1))), (0, .ref qD), (1, .int (nI q)), (2, .int x), (3, .int (nI (cnF ow q x k)))]) hx hb dX0_countOf_37 hl (k := 4) rfl (nI_1 _) (by decide) rfl (fun ls hl => ?_)
            refine lv_goto (tgt := 5) hx hb dX0_countOf_40 (by decide) ?_
            have hl : lv_has ls 5 [(0, .ref qD), (1, .int (nI q)), (2, .int x), (3, .int (nI (cnF ow q x (k + 1)))), (4, .int (nI (k + 1)))] := by rw [show cnF ow q x (k + 1) = cnF ow q x k from by simp [cnF, c_22, c_31]]; exact lv_sub hl [1, 2, 3, 4, 0] rfl
            exact ih5 (k + 1) (by omega) (by omega)  ls hl
          · have c_31 := zI_t c_31
            refine lv_iinc (v := nI ((cnF ow q x k) + 1)) (lv' := [(3, .int (nI ((cnF ow q x k) + 1))), (0, .ref qD), (1, .int (nI q)), (2, .int x), (4, .int (nI k))]) hx hb dX0_countOf_34 hl (k := 3) rfl (nI_1 _) (by decide) rfl (fun ls hl => ?_)
            refine lv_iinc (v := nI (k + 1)) (lv' := [(4, .int (nI (k + 1))), (3, .int (nI ((cnF ow q x k) + 1))), (0, .ref qD), (1, .int (nI q)), (2, .int x)]) hx hb dX0_countOf_37 hl (k := 4) rfl (nI_1 _) (by decide) rfl (fun ls hl => ?_)
            refine lv_goto (tgt := 5) hx hb dX0_countOf_40 (by decide) ?_
            have hl : lv_has ls 5 [(0, .ref qD), (1, .int (nI q)), (2, .int x), (3, .int (nI (cnF ow q x (k + 1)))), (4, .int (nI (k + 1)))] := by rw [show cnF ow q x (k + 1) = cnF ow q x k + 1 from by simp [cnF, c_22, c_31]]; exact lv_sub hl [2, 3, 4, 1, 0] rfl
            exact ih5 (k + 1) (by omega) (by omega)  ls hl
  have hl : lv_has ls 5 [(0, .ref qD), (1, .int (nI q)), (2, .int x), (3, .int (nI (cnF ow q x 0))), (4, .int (nI 0))] := by exact lv_sub hl [2, 3, 4, 1, 0] rfl
  exact loop5 (n + 1) 0 (by omega) (by omega)  ls hl
end
section
set_option maxHeartbeats 4000000 in
set_option maxRecDepth 100000 in
theorem c_X2_claimsIn (l : Launch) (E : gE) (qJ : Nat) (qD : Nat) (qQ : Nat) (qn : Nat) (sf : Int32) (jI : Int32) (jO : Int32) (qu : Nat → Nat) (qO : Nat) (qG : Nat) (qC : Nat) (qA : Nat) (qB : Nat) (n : Nat) (sp : Nat) (ow : Nat → Nat) (gf : Nat → Int32) (gc : Nat → Int32) (ak : Nat → Int32) (bk : Nat → Int32) : Met l yX2_claimsIn wsX2_claimsIn ({ frames := 0, cells := 0, slots := 0, locals := 0 }) (va_Pc [.ref qJ] (pR E [(qJ, .inr (2, [.ref qD, .ref qQ, .int (nI qn), .int sf, .int jI, .int jO])), (qQ, .inl (E.2.1, 16, .inl (fun w9 => nI (qu w9)))), (qD, .inr (0, [.ref qO, .ref qG, .ref qC, .ref qA, .ref qB, .int (nI n), .int (nI sp)])), (qO, .inl (E.2.1, 16, .inl (fun w9 => nI (ow w9)))), (qG, .inl (E.2.1, 16, .inl gf)), (qC, .inl (E.2.1, 16, .inl gc)), (qA, .inl (E.2.1, 16, .inl ak)), (qB, .inl (E.2.1, 3, .inl bk))])) (vp_Si (fun r => r = jI)) 0 0 (fun _ => False) := by
  refine Met.ofW (cc := cX2_claimsIn) (maxL := 1) (ret := (some .int)) (by decide) rfl ?_
  intro p e s m args below meth c s₁ B hml hv
  obtain ⟨rfl, hP, hK⟩ := hv
  have hx := B.exec
  have hb := B.bytes
  have hr := B.returns
  have hts := atoms_spec (ws := wsX2_claimsIn) B.pre
  have hown : s.vm.findClass RX2 = some m.cls := findClass_of_methodNamed B.named
  have hlocks := B.notSynchronized
  have hP : va_P E.1 vwCl [(qJ, .inr (2, [.ref qD, .ref qQ, .int (nI qn), .int sf, .int jI, .int jO])), (qQ, .inl (E.2.1, 16, .inl (fun w9 => nI (qu w9)))), (qD, .inr (0, [.ref qO, .ref qG, .ref qC, .ref qA, .ref qB, .int (nI n), .int (nI sp)])), (qO, .inl (E.2.1, 16, .inl (fun w9 => nI (ow w9)))), (qG, .inl (E.2.1, 16, .inl gf)), (qC, .inl (E.2.1, 16, .inl gc)), (qA, .inl (E.2.1, 16, .inl ak)), (qB, .inl (E.2.1, 3, .inl bk))] s.heap := hP
  have hl := lv_entry ([.ref qJ]) (n := 1) (Nat.le_of_ble_eq_true rfl)
  rw [lg_entry_eq]
  generalize (lg_sl ([.ref qJ]) ++ List.replicate (1 - (lg_sl ([.ref qJ])).length) Slot.unset).toArray = ls at hl ⊢
  have hl : lv_has ls 1 [(0, .ref qJ)] := hl
  refine lv_aload_n hx hb dX2_claimsIn_0 rfl (lv_at hl 0 rfl) ?_
  refine va_get (D := E.1) (ci := 2) (v := .int jI) (C := RX2) (T := TX2) (N := 6) hx hb hts (fun _ h => List.mem_cons_of_mem _ (List.mem_append_right _ h)) hown hK.1 hP 0 rfl rfl 4 (by decide) (hts (.fieldLink RX2 26 "Quarrelboard$Judge" "claimsIn" "I") (List.mem_of_getElem? (i := 1) rfl)) (fun _ h9 => h9) rfl dX2_claimsIn_1 ?_
  have e9 : (jI : Int32) = jI := by rfl
  exact W.iret (v := jI) hx hb hr (fun t ht hW => ⟨_, rfl, e9, ht⟩) (fun q h => absurd h List.not_mem_nil) dX2_claimsIn_4
set_option maxHeartbeats 4000000 in
set_option maxRecDepth 100000 in
theorem c_X2_decisionOn (l : Launch) (E : gE) (qJ : Nat) (qD : Nat) (qQ : Nat) (qn : Nat) (sf : Int32) (jI : Int32) (jO : Int32) (qu : Nat → Nat) (qO : Nat) (qG : Nat) (qC : Nat) (qA : Nat) (qB : Nat) (n : Nat) (sp : Nat) (ow : Nat → Nat) (gf : Nat → Int32) (gc : Nat → Int32) (ak : Nat → Int32) (bk : Nat → Int32) (i : Nat) (hi : i < 32) : Met l yX2_decisionOn wsX2_decisionOn ({ frames := 1, cells := 0, slots := 0, locals := 21 }) (va_Pc [.ref qJ, .int (nI i)] (pR E [(qJ, .inr (2, [.ref qD, .ref qQ, .int (nI qn), .int sf, .int jI, .int jO])), (qQ, .inl (E.2.1, 16, .inl (fun w9 => nI (qu w9)))), (qD, .inr (0, [.ref qO, .ref qG, .ref qC, .ref qA, .ref qB, .int (nI n), .int (nI sp)])), (qO, .inl (E.2.1, 16, .inl (fun w9 => nI (ow w9)))), (qG, .inl (E.2.1, 16, .inl gf)), (qC, .inl (E.2.1, 16, .inl gc)), (qA, .inl (E.2.1, 16, .inl ak)), (qB, .inl (E.2.1, 3, .inl bk))])) (vp_Si (fun r => r = if bt jI i = true then 1 else if bt jO i = true then 2 else 0)) 0 0 (fun _ => False) := by
  refine Met.ofW (cc := cX2_decisionOn) (maxL := 2) (ret := (some .int)) (by decide) rfl ?_
  intro p e s m args below meth c s₁ B hml hv
  obtain ⟨rfl, hP, hK⟩ := hv
  have hx := B.exec
  have hb := B.bytes
  have hr := B.returns
  have hts := atoms_spec (ws := wsX2_decisionOn) B.pre
  have hown : s.vm.findClass RX2 = some m.cls := findClass_of_methodNamed B.named
  have hlocks := B.notSynchronized
  have hP : va_P E.1 vwCl [(qJ, .inr (2, [.ref qD, .ref qQ, .int (nI qn), .int sf, .int jI, .int jO])), (qQ, .inl (E.2.1, 16, .inl (fun w9 => nI (qu w9)))), (qD, .inr (0, [.ref qO, .ref qG, .ref qC, .ref qA, .ref qB, .int (nI n), .int (nI sp)])), (qO, .inl (E.2.1, 16, .inl (fun w9 => nI (ow w9)))), (qG, .inl (E.2.1, 16, .inl gf)), (qC, .inl (E.2.1, 16, .inl gc)), (qA, .inl (E.2.1, 16, .inl ak)), (qB, .inl (E.2.1, 3, .inl bk))] s.heap := hP
  have hl := lv_entry ([.ref qJ, .int (nI i)]) (n := 2) (Nat.le_of_ble_eq_true rfl)
  rw [lg_entry_eq]
  generalize (lg_sl ([.ref qJ, .int (nI i)]) ++ List.replicate (2 - (lg_sl ([.ref qJ, .int (nI i)])).length) Slot.unset).toArray = ls at hl ⊢
  have hl : lv_has ls 2 [(0, .ref qJ), (1, .int (nI i))] := hl
  refine lv_aload_n hx hb dX2_decisionOn_0 rfl (lv_at hl 0 rfl) ?_
  refine va_get (D := E.1) (ci := 2) (v := .int jI) (C := RX2) (T := TX2) (N := 6) hx hb hts (fun _ h => List.mem_cons_of_mem _ (List.mem_append_right _ h)) hown hK.1 hP 0 rfl rfl 4 (by decide) (hts (.fieldLink RX2 26 "Quarrelboard$Judge" "claimsIn" "I") (List.mem_of_getElem? (i := 1) rfl)) (fun _ h9 => h9) rfl dX2_decisionOn_1 ?_
  refine lv_iload_n hx hb dX2_decisionOn_4 rfl (lv_at hl 1 rfl) ?_
  refine cl_SN (Wc := []) (As := [.int jI, .int (nI i)]) (rest := []) ⟨hx, hb, hml, hown, hts⟩ (c_X3_contains l E  jI i (by omega)) ⟨va_cnB 2 hts gX2_decisionOn_X3_contains_n32 rfl rfl rfl hK.2.2.2 (hts (.initialized RX3) (List.mem_of_getElem? (i := 4) rfl)) (by decide +kernel) ⟨Nat.le_of_ble_eq_true rfl, Nat.le_of_ble_eq_true rfl⟩, hts (.static yX3_contains) (List.mem_of_getElem? (i := 3) rfl), trivial⟩ hK (hP.sub [] rfl) rfl hl.1 rfl (Nat.le_of_ble_eq_true rfl) dX2_decisionOn_5 ⟨Nat.zero_le _, Nat.zero_le _⟩ ?_
  refine lv_if_eq (tgt := 13) hx hb dX2_decisionOn_8 (by decide) (fun c_8 => ?_) (fun c_8 => ?_)
  · have c_8 := zI_f c_8
    refine lv_aload_n hx hb dX2_decisionOn_13 rfl (lv_at hl 0 rfl) ?_
    refine va_get (D := E.1) (ci := 2) (v := .int jO) (C := RX2) (T := TX2) (N := 6) hx hb hts (fun _ h => List.mem_cons_of_mem _ (List.mem_append_right _ h)) hown hK.1 hP 0 rfl rfl 5 (by decide) (hts (.fieldLink RX2 29 "Quarrelboard$Judge" "claimsOut" "I") (List.mem_of_getElem? (i := 2) rfl)) (fun _ h9 => h9) rfl dX2_decisionOn_14 ?_
    refine lv_iload_n hx hb dX2_decisionOn_17 rfl (lv_at hl 1 rfl) ?_
    refine cl_SN (Wc := []) (As := [.int jO, .int (nI i)]) (rest := []) ⟨hx, hb, hml, hown, hts⟩ (c_X3_contains l E  jO i (by omega)) ⟨va_cnB 2 hts gX2_decisionOn_X3_contains_n32 rfl rfl rfl hK.2.2.2 (hts (.initialized RX3) (List.mem_of_getElem? (i := 4) rfl)) (by decide +kernel) ⟨Nat.le_of_ble_eq_true rfl, Nat.le_of_ble_eq_true rfl⟩, hts (.static yX3_contains) (List.mem_of_getElem? (i := 3) rfl), trivial⟩ hK (hP.sub [] rfl) rfl hl.1 rfl (Nat.le_of_ble_eq_true rfl) dX2_decisionOn_18 ⟨Nat.zero_le _, Nat.zero_le _⟩ ?_
    refine lv_if_eq (tgt := 28) hx hb dX2_decisionOn_21 (by decide) (fun c_21 => ?_) (fun c_21 => ?_)
    · have c_21 := zI_f c_21
      refine lv_iconst (v := 0) hx hb dX2_decisionOn_28 (by decide) ?_
      have e9 : (0 : Int32) = if bt jI i = true then 1 else if bt jO i = true then 2 else 0 := by simp only [zI, c_8, c_21, decide_true, decide_false, Bool.and_true, Bool.false_and, Bool.true_and, Bool.and_false, Bool.not_true, Bool.not_false, Bool.or_true, Bool.true_or, Bool.false_or, Bool.or_false, if_true, if_false, Bool.false_eq_true]
      exact W.iret (v := 0) hx hb hr (fun t ht hW => ⟨_, rfl, e9, ht⟩) (fun q h => absurd h List.not_mem_nil) dX2_decisionOn_29
    · have c_21 := zI_t c_21
      refine lv_iconst (v := 2) hx hb dX2_decisionOn_24 (by decide) ?_
      refine lv_goto (tgt := 29) hx hb dX2_decisionOn_25 (by decide) ?_
      have e9 : (2 : Int32) = if bt jI i = true then 1 else if bt jO i = true then 2 else 0 := by simp only [zI, c_8, c_21, decide_true, decide_false, Bool.and_true, Bool.false_and, Bool.true_and, Bool.and_false, Bool.not_true, Bool.not_false, Bool.or_true, Bool.true_or, Bool.false_or, Bool.or_false, if_true, if_false, Bool.false_eq_true]
      exact W.iret (v := 2) hx hb hr (fun t ht hW => ⟨_, rfl, e9, ht⟩) (fun q h => absurd h List.not_mem_nil) dX2_decisionOn_29
  · have c_8 := zI_t c_8
    refine lv_iconst (v := 1) hx hb dX2_decisionOn_11 (by decide) ?_
    have e9 : (1 : Int32) = if bt jI i = true then 1 else if bt jO i = true then 2 else 0 := by simp only [zI, c_8, decide_true, decide_false, Bool.and_true, Bool.false_and, Bool.true_and, Bool.and_false, Bool.not_true, Bool.not_false, Bool.or_true, Bool.true_or, Bool.false_or, Bool.or_false, if_true, if_false, Bool.false_eq_true]
    exact W.iret (v := 1) hx hb hr (fun t ht hW => ⟨_, rfl, e9, ht⟩) (fun q h => absurd h List.not_mem_nil) dX2_decisionOn_12
set_option maxHeartbeats 4000000 in
set_option maxRecDepth 100000 in
theorem c_X2_openAll (l : Launch) (E : gE) (qJ : Nat) (qD : Nat) (qQ : Nat) (qn : Nat) (sf : Int32) (jI : Int32) (jO : Int32) (qu : Nat → Nat) (qO : Nat) (qG : Nat) (qC : Nat) (qA : Nat) (qB : Nat) (n : Nat) (sp : Nat) (ow : Nat → Nat) (gf : Nat → Int32) (gc : Nat → Int32) (ak : Nat → Int32) (bk : Nat → Int32) (sz : Nat) (f : Int32) : Met l yX2_openAll wsX2_openAll ({ frames := 0, cells := 0, slots := 0, locals := 0 }) (va_Pc [.ref qJ, .int f] (pW E [(qJ, .inr (2, [.ref qD, .ref qQ, .int (nI qn), .int sf, .int jI, .int jO])), (qQ, .inl (E.2.1, 16, .inl (fun w9 => nI (qu w9)))), (qD, .inr (0, [.ref qO, .ref qG, .ref qC, .ref qA, .ref qB, .int (nI n), .int (nI sp)])), (qO, .inl (E.2.1, 16, .inl (fun w9 => nI (ow w9)))), (qG, .inl (E.2.1, 16, .inl gf)), (qC, .inl (E.2.1, 16, .inl gc)), (qA, .inl (E.2.1, 16, .inl ak)), (qB, .inl (E.2.1, 3, .inl bk))] sz)) (va_Qv (fun (_ : Unit) => True) (fun _ => eW E (va_A [(qJ, .inr (2, [.ref qD, .ref qQ, .int (nI qn), .int sf, .int jI, .int jO])), (qQ, .inl (E.2.1, 16, .inl (fun w9 => nI (qu w9)))), (qD, .inr (0, [.ref qO, .ref qG, .ref qC, .ref qA, .ref qB, .int (nI n), .int (nI sp)])), (qO, .inl (E.2.1, 16, .inl (fun w9 => nI (ow w9)))), (qG, .inl (E.2.1, 16, .inl gf)), (qC, .inl (E.2.1, 16, .inl gc)), (qA, .inl (E.2.1, 16, .inl ak)), (qB, .inl (E.2.1, 3, .inl bk))] sz) [(qJ, .inr (2, [.ref qD, .ref qQ, .int (nI 0), .int f, .int 0, .int 0])), (qQ, .inl (E.2.1, 16, .inl (fun w9 => nI (qu w9)))), (qD, .inr (0, [.ref qO, .ref qG, .ref qC, .ref qA, .ref qB, .int (nI n), .int (nI sp)])), (qO, .inl (E.2.1, 16, .inl (fun w9 => nI (ow w9)))), (qG, .inl (E.2.1, 16, .inl gf)), (qC, .inl (E.2.1, 16, .inl gc)), (qA, .inl (E.2.1, 16, .inl ak)), (qB, .inl (E.2.1, 3, .inl bk))]) (va_A [(qJ, .inr (2, [.ref qD, .ref qQ, .int (nI qn), .int sf, .int jI, .int jO])), (qQ, .inl (E.2.1, 16, .inl (fun w9 => nI (qu w9)))), (qD, .inr (0, [.ref qO, .ref qG, .ref qC, .ref qA, .ref qB, .int (nI n), .int (nI sp)])), (qO, .inl (E.2.1, 16, .inl (fun w9 => nI (ow w9)))), (qG, .inl (E.2.1, 16, .inl gf)), (qC, .inl (E.2.1, 16, .inl gc)), (qA, .inl (E.2.1, 16, .inl ak)), (qB, .inl (E.2.1, 3, .inl bk))] sz)) 0 0 (va_A [(qJ, .inr (2, [.ref qD, .ref qQ, .int (nI qn), .int sf, .int jI, .int jO])), (qQ, .inl (E.2.1, 16, .inl (fun w9 => nI (qu w9)))), (qD, .inr (0, [.ref qO, .ref qG, .ref qC, .ref qA, .ref qB, .int (nI n), .int (nI sp)])), (qO, .inl (E.2.1, 16, .inl (fun w9 => nI (ow w9)))), (qG, .inl (E.2.1, 16, .inl gf)), (qC, .inl (E.2.1, 16, .inl gc)), (qA, .inl (E.2.1, 16, .inl ak)), (qB, .inl (E.2.1, 3, .inl bk))] sz) := by
  refine Met.ofW (cc := cX2_openAll) (maxL := 2) (ret := none) (by decide) rfl ?_
  intro p e s m args below meth c s₁ B hml hv
  obtain ⟨rfl, hsz, hP, hK, hD0⟩ := hv
  have hx := B.exec
  have hb := B.bytes
  have hr := B.returns
  have hts := atoms_spec (ws := wsX2_openAll) B.pre
  have hown : s.vm.findClass RX2 = some m.cls := findClass_of_methodNamed B.named
  have hlocks := B.notSynchronized
  subst hsz
  have hD := hD0.self (sz := s.heap.size)
  generalize hAe : va_A [(qJ, .inr (2, [.ref qD, .ref qQ, .int (nI qn), .int sf, .int jI, .int jO])), (qQ, .inl (E.2.1, 16, .inl (fun w9 => nI (qu w9)))), (qD, .inr (0, [.ref qO, .ref qG, .ref qC, .ref qA, .ref qB, .int (nI n), .int (nI sp)])), (qO, .inl (E.2.1, 16, .inl (fun w9 => nI (ow w9)))), (qG, .inl (E.2.1, 16, .inl gf)), (qC, .inl (E.2.1, 16, .inl gc)), (qA, .inl (E.2.1, 16, .inl ak)), (qB, .inl (E.2.1, 3, .inl bk))] s.heap.size = A at hD ⊢
  have hA : ∀ q : Nat, s.heap.size ≤ q → A q := fun q h => by rw [← hAe]; exact Or.inr h
  have hS : va_S A s.heap s.heap [] := va_S.rf
  have hl := lv_entry ([.ref qJ, .int f]) (n := 2) (Nat.le_of_ble_eq_true rfl)
  rw [lg_entry_eq]
  generalize (lg_sl ([.ref qJ, .int f]) ++ List.replicate (2 - (lg_sl ([.ref qJ, .int f])).length) Slot.unset).toArray = ls at hl ⊢
  have hl : lv_has ls 2 [(0, .ref qJ), (1, .int f)] := hl
  refine lv_aload_n hx hb dX2_openAll_0 rfl (lv_at hl 0 rfl) ?_
  refine lv_iconst (v := 0) hx hb dX2_openAll_1 (by decide) ?_
  refine va_put (D := E.1) (ci := 2) (v := .int 0) (ty := .int) (C := RX2) (T := TX2) (N := 6) hx hb hts (fun _ h => List.mem_cons_of_mem _ (List.mem_append_right _ h)) tyX2 tyX2_ok nmX2 hown hK.1 hP hD hS 0 rfl rfl 2 (by decide) (hts (.fieldLink RX2 19 "Quarrelboard$Judge" "queued" "I") (List.mem_of_getElem? (i := 1) rfl)) (fun _ h9 => h9) rfl (by decide +kernel) rfl rfl (Nat.le_of_ble_eq_true rfl) dX2_openAll_2 (fun H locs hP hD hS => ?_)
  have hP : va_P E.1 vwCl [(qJ, .inr (2, [.ref qD, .ref qQ, .int (nI 0), .int sf, .int jI, .int jO])), (qQ, .inl (E.2.1, 16, .inl (fun w9 => nI (qu w9)))), (qD, .inr (0, [.ref qO, .ref qG, .ref qC, .ref qA, .ref qB, .int (nI n), .int (nI sp)])), (qO, .inl (E.2.1, 16, .inl (fun w9 => nI (ow w9)))), (qG, .inl (E.2.1, 16, .inl gf)), (qC, .inl (E.2.1, 16, .inl gc)), (qA, .inl (E.2.1, 16, .inl ak)), (qB, .inl (E.2.1, 3, .inl bk))] H := hP
  have hD : va_D A [(qJ, .inr (2, [.ref qD, .ref qQ, .int (nI 0), .int sf, .int jI, .int jO])), (qQ, .inl (E.2.1, 16, .inl (fun w9 => nI (qu w9)))), (qD, .inr (0, [.ref qO, .ref qG, .ref qC, .ref qA, .ref qB, .int (nI n), .int (nI sp)])), (qO, .inl (E.2.1, 16, .inl (fun w9 => nI (ow w9)))), (qG, .inl (E.2.1, 16, .inl gf)), (qC, .inl (E.2.1, 16, .inl gc)), (qA, .inl (E.2.1, 16, .inl ak)), (qB, .inl (E.2.1, 3, .inl bk))] := hD
  refine lv_aload_n hx hb dX2_openAll_5 rfl (lv_at hl 0 rfl) ?_
  refine lv_iload_n hx hb dX2_openAll_6 rfl (lv_at hl 1 rfl) ?_
  refine va_put (D := E.1) (ci := 2) (v := .int f) (ty := .int) (C := RX2) (T := TX2) (N := 6) hx hb hts (fun _ h => List.mem_cons_of_mem _ (List.mem_append_right _ h)) tyX2 tyX2_ok nmX2 hown hK.1 hP hD hS 0 rfl rfl 3 (by decide) (hts (.fieldLink RX2 23 "Quarrelboard$Judge" "standingFacts" "I") (List.mem_of_getElem? (i := 2) rfl)) (fun _ h9 => h9) rfl (by decide +kernel) rfl rfl (Nat.le_of_ble_eq_true rfl) dX2_openAll_7 (fun H locs hP hD hS => ?_)
  have hP : va_P E.1 vwCl [(qJ, .inr (2, [.ref qD, .ref qQ, .int (nI 0), .int f, .int jI, .int jO])), (qQ, .inl (E.2.1, 16, .inl (fun w9 => nI (qu w9)))), (qD, .inr (0, [.ref qO, .ref qG, .ref qC, .ref qA, .ref qB, .int (nI n), .int (nI sp)])), (qO, .inl (E.2.1, 16, .inl (fun w9 => nI (ow w9)))), (qG, .inl (E.2.1, 16, .inl gf)), (qC, .inl (E.2.1, 16, .inl gc)), (qA, .inl (E.2.1, 16, .inl ak)), (qB, .inl (E.2.1, 3, .inl bk))] H := hP
  have hD : va_D A [(qJ, .inr (2, [.ref qD, .ref qQ, .int (nI 0), .int f, .int jI, .int jO])), (qQ, .inl (E.2.1, 16, .inl (fun w9 => nI (qu w9)))), (qD, .inr (0, [.ref qO, .ref qG, .ref qC, .ref qA, .ref qB, .int (nI n), .int (nI sp)])), (qO, .inl (E.2.1, 16, .inl (fun w9 => nI (ow w9)))), (qG, .inl (E.2.1, 16, .inl gf)), (qC, .inl (E.2.1, 16, .inl gc)), (qA, .inl (E.2.1, 16, .inl ak)), (qB, .inl (E.2.1, 3, .inl bk))] := hD
  refine lv_aload_n hx hb dX2_openAll_10 rfl (lv_at hl 0 rfl) ?_
  refine lv_iconst (v := 0) hx hb dX2_openAll_11 (by decide) ?_
  refine va_put (D := E.1) (ci := 2) (v := .int 0) (ty := .int) (C := RX2) (T := TX2) (N := 6) hx hb hts (fun _ h => List.mem_cons_of_mem _ (List.mem_append_right _ h)) tyX2 tyX2_ok nmX2 hown hK.1 hP hD hS 0 rfl rfl 4 (by decide) (hts (.fieldLink RX2 26 "Quarrelboard$Judge" "claimsIn" "I") (List.mem_of_getElem? (i := 3) rfl)) (fun _ h9 => h9) rfl (by decide +kernel) rfl rfl (Nat.le_of_ble_eq_true rfl) dX2_openAll_12 (fun H locs hP hD hS => ?_)
  have hP : va_P E.1 vwCl [(qJ, .inr (2, [.ref qD, .ref qQ, .int (nI 0), .int f, .int 0, .int jO])), (qQ, .inl (E.2.1, 16, .inl (fun w9 => nI (qu w9)))), (qD, .inr (0, [.ref qO, .ref qG, .ref qC, .ref qA, .ref qB, .int (nI n), .int (nI sp)])), (qO, .inl (E.2.1, 16, .inl (fun w9 => nI (ow w9)))), (qG, .inl (E.2.1, 16, .inl gf)), (qC, .inl (E.2.1, 16, .inl gc)), (qA, .inl (E.2.1, 16, .inl ak)), (qB, .inl (E.2.1, 3, .inl bk))] H := hP
  have hD : va_D A [(qJ, .inr (2, [.ref qD, .ref qQ, .int (nI 0), .int f, .int 0, .int jO])), (qQ, .inl (E.2.1, 16, .inl (fun w9 => nI (qu w9)))), (qD, .inr (0, [.ref qO, .ref qG, .ref qC, .ref qA, .ref qB, .int (nI n), .int (nI sp)])), (qO, .inl (E.2.1, 16, .inl (fun w9 => nI (ow w9)))), (qG, .inl (E.2.1, 16, .inl gf)), (qC, .inl (E.2.1, 16, .inl gc)), (qA, .inl (E.2.1, 16, .inl ak)), (qB, .inl (E.2.1, 3, .inl bk))] := hD
  refine lv_aload_n hx hb dX2_openAll_15 rfl (lv_at hl 0 rfl) ?_
  refine lv_iconst (v := 0) hx hb dX2_openAll_16 (by decide) ?_
  refine va_put (D := E.1) (ci := 2) (v := .int 0) (ty := .int) (C := RX2) (T := TX2) (N := 6) hx hb hts (fun _ h => List.mem_cons_of_mem _ (List.mem_append_right _ h)) tyX2 tyX2_ok nmX2 hown hK.1 hP hD hS 0 rfl rfl 5 (by decide) (hts (.fieldLink RX2 29 "Quarrelboard$Judge" "claimsOut" "I") (List.mem_of_getElem? (i := 4) rfl)) (fun _ h9 => h9) rfl (by decide +kernel) rfl rfl (Nat.le_of_ble_eq_true rfl) dX2_openAll_17 (fun H locs hP hD hS => ?_)
  have hP : va_P E.1 vwCl [(qJ, .inr (2, [.ref qD, .ref qQ, .int (nI 0), .int f, .int 0, .int 0])), (qQ, .inl (E.2.1, 16, .inl (fun w9 => nI (qu w9)))), (qD, .inr (0, [.ref qO, .ref qG, .ref qC, .ref qA, .ref qB, .int (nI n), .int (nI sp)])), (qO, .inl (E.2.1, 16, .inl (fun w9 => nI (ow w9)))), (qG, .inl (E.2.1, 16, .inl gf)), (qC, .inl (E.2.1, 16, .inl gc)), (qA, .inl (E.2.1, 16, .inl ak)), (qB, .inl (E.2.1, 3, .inl bk))] H := hP
  have hD : va_D A [(qJ, .inr (2, [.ref qD, .ref qQ, .int (nI 0), .int f, .int 0, .int 0])), (qQ, .inl (E.2.1, 16, .inl (fun w9 => nI (qu w9)))), (qD, .inr (0, [.ref qO, .ref qG, .ref qC, .ref qA, .ref qB, .int (nI n), .int (nI sp)])), (qO, .inl (E.2.1, 16, .inl (fun w9 => nI (ow w9)))), (qG, .inl (E.2.1, 16, .inl gf)), (qC, .inl (E.2.1, 16, .inl gc)), (qA, .inl (E.2.1, 16, .inl ak)), (qB, .inl (E.2.1, 3, .inl bk))] := hD
  have hP9 : va_P E.1 vwCl [(qJ, .inr (2, [.ref qD, .ref qQ, .int (nI 0), .int f, .int 0, .int 0])), (qQ, .inl (E.2.1, 16, .inl (fun w9 => nI (qu w9)))), (qD, .inr (0, [.ref qO, .ref qG, .ref qC, .ref qA, .ref qB, .int (nI n), .int (nI sp)])), (qO, .inl (E.2.1, 16, .inl (fun w9 => nI (ow w9)))), (qG, .inl (E.2.1, 16, .inl gf)), (qC, .inl (E.2.1, 16, .inl gc)), (qA, .inl (E.2.1, 16, .inl ak)), (qB, .inl (E.2.1, 3, .inl bk))] H := by exact hP
  have hD9 : va_D A [(qJ, .inr (2, [.ref qD, .ref qQ, .int (nI 0), .int f, .int 0, .int 0])), (qQ, .inl (E.2.1, 16, .inl (fun w9 => nI (qu w9)))), (qD, .inr (0, [.ref qO, .ref qG, .ref qC, .ref qA, .ref qB, .int (nI n), .int (nI sp)])), (qO, .inl (E.2.1, 16, .inl (fun w9 => nI (ow w9)))), (qG, .inl (E.2.1, 16, .inl gf)), (qC, .inl (E.2.1, 16, .inl gc)), (qA, .inl (E.2.1, 16, .inl ak)), (qB, .inl (E.2.1, 3, .inl bk))] := by exact hD
  exact W.vret hx hb hr (fun t ht hW => ⟨⟨(), rfl, trivial, by rw [ht]; exact hP9, hD9⟩, hS.F ht⟩) hS.2.2 dX2_openAll_20
set_option maxHeartbeats 4000000 in
set_option maxRecDepth 100000 in
theorem c_X2_decide (l : Launch) (E : gE) (qJ : Nat) (qD : Nat) (qQ : Nat) (qn : Nat) (sf : Int32) (jI : Int32) (jO : Int32) (qu : Nat → Nat) (qO : Nat) (qG : Nat) (qC : Nat) (qA : Nat) (qB : Nat) (n : Nat) (sp : Nat) (ow : Nat → Nat) (gf : Nat → Int32) (gc : Nat → Int32) (ak : Nat → Int32) (bk : Nat → Int32) (sz : Nat) (i : Nat) (hi : i < 16) : Met l yX2_decide wsX2_decide ({ frames := 1, cells := 0, slots := 0, locals := 24 }) (va_Pc [.ref qJ, .int (nI i)] (pW E [(qJ, .inr (2, [.ref qD, .ref qQ, .int (nI qn), .int sf, .int jI, .int jO])), (qQ, .inl (E.2.1, 16, .inl (fun w9 => nI (qu w9)))), (qD, .inr (0, [.ref qO, .ref qG, .ref qC, .ref qA, .ref qB, .int (nI n), .int (nI sp)])), (qO, .inl (E.2.1, 16, .inl (fun w9 => nI (ow w9)))), (qG, .inl (E.2.1, 16, .inl gf)), (qC, .inl (E.2.1, 16, .inl gc)), (qA, .inl (E.2.1, 16, .inl ak)), (qB, .inl (E.2.1, 3, .inl bk))] sz)) (va_Qi (fun r (_ : Unit) => r = zI ((dR gf gc ak sf i jI jO).1)) (fun _ => eW E (va_A [(qJ, .inr (2, [.ref qD, .ref qQ, .int (nI qn), .int sf, .int jI, .int jO])), (qQ, .inl (E.2.1, 16, .inl (fun w9 => nI (qu w9)))), (qD, .inr (0, [.ref qO, .ref qG, .ref qC, .ref qA, .ref qB, .int (nI n), .int (nI sp)])), (qO, .inl (E.2.1, 16, .inl (fun w9 => nI (ow w9)))), (qG, .inl (E.2.1, 16, .inl gf)), (qC, .inl (E.2.1, 16, .inl gc)), (qA, .inl (E.2.1, 16, .inl ak)), (qB, .inl (E.2.1, 3, .inl bk))] sz) [(qJ, .inr (2, [.ref qD, .ref qQ, .int (nI qn), .int sf, .int ((dR gf gc ak sf i jI jO).2.1), .int ((dR gf gc ak sf i jI jO).2.2)])), (qQ, .inl (E.2.1, 16, .inl (fun w9 => nI (qu w9)))), (qD, .inr (0, [.ref qO, .ref qG, .ref qC, .ref qA, .ref qB, .int (nI n), .int (nI sp)])), (qO, .inl (E.2.1, 16, .inl (fun w9 => nI (ow w9)))), (qG, .inl (E.2.1, 16, .inl gf)), (qC, .inl (E.2.1, 16, .inl gc)), (qA, .inl (E.2.1, 16, .inl ak)), (qB, .inl (E.2.1, 3, .inl bk))]) (va_A [(qJ, .inr (2, [.ref qD, .ref qQ, .int (nI qn), .int sf, .int jI, .int jO])), (qQ, .inl (E.2.1, 16, .inl (fun w9 => nI (qu w9)))), (qD, .inr (0, [.ref qO, .ref qG, .ref qC, .ref qA, .ref qB, .int (nI n), .int (nI sp)])), (qO, .inl (E.2.1, 16, .inl (fun w9 => nI (ow w9)))), (qG, .inl (E.2.1, 16, .inl gf)), (qC, .inl (E.2.1, 16, .inl gc)), (qA, .inl (E.2.1, 16, .inl ak)), (qB, .inl (E.2.1, 3, .inl bk))] sz)) 0 0 (va_A [(qJ, .inr (2, [.ref qD, .ref qQ, .int (nI qn), .int sf, .int jI, .int jO])), (qQ, .inl (E.2.1, 16, .inl (fun w9 => nI (qu w9)))), (qD, .inr (0, [.ref qO, .ref qG, .ref qC, .ref qA, .ref qB, .int (nI n), .int (nI sp)])), (qO, .inl (E.2.1, 16, .inl (fun w9 => nI (ow w9)))), (qG, .inl (E.2.1, 16, .inl gf)), (qC, .inl (E.2.1, 16, .inl gc)), (qA, .inl (E.2.1, 16, .inl ak)), (qB, .inl (E.2.1, 3, .inl bk))] sz) := by
  refine Met.ofW (cc := cX2_decide) (maxL := 2) (ret := (some .boolean)) (by decide) rfl ?_
  intro p e s m args below meth c s₁ B hml hv
  obtain ⟨rfl, hsz, hP, hK, hD0⟩ := hv
  have hx := B.exec
  have hb := B.bytes
  have hr := B.returns
  have hts := atoms_spec (ws := wsX2_decide) B.pre
  have hown : s.vm.findClass RX2 = some m.cls := findClass_of_methodNamed B.named
  have hlocks := B.notSynchronized
  subst hsz
  have hD := hD0.self (sz := s.heap.size)
  generalize hAe : va_A [(qJ, .inr (2, [.ref qD, .ref qQ, .int (nI qn), .int sf, .int jI, .int jO])), (qQ, .inl (E.2.1, 16, .inl (fun w9 => nI (qu w9)))), (qD, .inr (0, [.ref qO, .ref qG, .ref qC, .ref qA, .ref qB, .int (nI n), .int (nI sp)])), (qO, .inl (E.2.1, 16, .inl (fun w9 => nI (ow w9)))), (qG, .inl (E.2.1, 16, .inl gf)), (qC, .inl (E.2.1, 16, .inl gc)), (qA, .inl (E.2.1, 16, .inl ak)), (qB, .inl (E.2.1, 3, .inl bk))] s.heap.size = A at hD ⊢
  have hA : ∀ q : Nat, s.heap.size ≤ q → A q := fun q h => by rw [← hAe]; exact Or.inr h
  have hS : va_S A s.heap s.heap [] := va_S.rf
  have hl := lv_entry ([.ref qJ, .int (nI i)]) (n := 2) (Nat.le_of_ble_eq_true rfl)
  rw [lg_entry_eq]
  generalize (lg_sl ([.ref qJ, .int (nI i)]) ++ List.replicate (2 - (lg_sl ([.ref qJ, .int (nI i)])).length) Slot.unset).toArray = ls at hl ⊢
  have hl : lv_has ls 2 [(0, .ref qJ), (1, .int (nI i))] := hl
  refine lv_aload_n hx hb dX2_decide_0 rfl (lv_at hl 0 rfl) ?_
  refine va_get (D := E.1) (ci := 2) (v := .int jI) (C := RX2) (T := TX2) (N := 6) hx hb hts (fun _ h => List.mem_cons_of_mem _ (List.mem_append_left _ (List.mem_append_right _ h))) hown hK.1 hP 0 rfl rfl 4 (by decide) (hts (.fieldLink RX2 26 "Quarrelboard$Judge" "claimsIn" "I") (List.mem_of_getElem? (i := 1) rfl)) (fun _ h9 => h9) rfl dX2_decide_1 ?_
  refine lv_aload_n hx hb dX2_decide_4 rfl (lv_at hl 0 rfl) ?_
  refine va_get (D := E.1) (ci := 2) (v := .int jO) (C := RX2) (T := TX2) (N := 6) hx hb hts (fun _ h => List.mem_cons_of_mem _ (List.mem_append_left _ (List.mem_append_right _ h))) hown hK.1 hP 0 rfl rfl 5 (by decide) (hts (.fieldLink RX2 29 "Quarrelboard$Judge" "claimsOut" "I") (List.mem_of_getElem? (i := 2) rfl)) (fun _ h9 => h9) rfl dX2_decide_5 ?_
  refine lv_ior hx hb dX2_decide_8 ?_
  refine lv_iload_n hx hb dX2_decide_9 rfl (lv_at hl 1 rfl) ?_
  refine cl_SN (Wc := []) (As := [.int (jI ||| jO), .int (nI i)]) (rest := []) ⟨hx, hb, hml, hown, hts⟩ (c_X3_contains l E  (jI ||| jO) i (by omega)) ⟨va_cnB 2 hts gX2_decide_X3_contains_n32 rfl rfl rfl hK.2.2.2 (hts (.initialized RX3) (List.mem_of_getElem? (i := 6) rfl)) (by decide +kernel) ⟨Nat.le_of_ble_eq_true rfl, Nat.le_of_ble_eq_true rfl⟩, hts (.static yX3_contains) (List.mem_of_getElem? (i := 5) rfl), trivial⟩ hK (hP.sub [] rfl) rfl hl.1 rfl (Nat.le_of_ble_eq_true rfl) dX2_decide_10 ⟨Nat.zero_le _, Nat.zero_le _⟩ ?_
  refine lv_if_eq (tgt := 18) hx hb dX2_decide_13 (by decide) (fun c_13 => ?_) (fun c_13 => ?_)
  · have c_13 := zI_f c_13
    refine lv_aload_n hx hb dX2_decide_18 rfl (lv_at hl 0 rfl) ?_
    refine va_get (D := E.1) (ci := 2) (v := .ref qD) (C := RX2) (T := TX2) (N := 6) hx hb hts (fun _ h => List.mem_cons_of_mem _ (List.mem_append_left _ (List.mem_append_right _ h))) hown hK.1 hP 0 rfl rfl 0 (by decide) (hts (.fieldLink RX2 9 "Quarrelboard$Judge" "debate" "LQuarrelboard$Debate;") (List.mem_of_getElem? (i := 3) rfl)) (fun _ h9 => h9) rfl dX2_decide_19 ?_
    refine lv_iload_n hx hb dX2_decide_22 rfl (lv_at hl 1 rfl) ?_
    refine lv_aload_n hx hb dX2_decide_23 rfl (lv_at hl 0 rfl) ?_
    refine va_get (D := E.1) (ci := 2) (v := .int sf) (C := RX2) (T := TX2) (N := 6) hx hb hts (fun _ h => List.mem_cons_of_mem _ (List.mem_append_left _ (List.mem_append_right _ h))) hown hK.1 hP 0 rfl rfl 3 (by decide) (hts (.fieldLink RX2 23 "Quarrelboard$Judge" "standingFacts" "I") (List.mem_of_getElem? (i := 4) rfl)) (fun _ h9 => h9) rfl dX2_decide_24 ?_
    refine lv_aload_n hx hb dX2_decide_27 rfl (lv_at hl 0 rfl) ?_
    refine va_get (D := E.1) (ci := 2) (v := .int jI) (C := RX2) (T := TX2) (N := 6) hx hb hts (fun _ h => List.mem_cons_of_mem _ (List.mem_append_left _ (List.mem_append_right _ h))) hown hK.1 hP 0 rfl rfl 4 (by decide) (hts (.fieldLink RX2 26 "Quarrelboard$Judge" "claimsIn" "I") (List.mem_of_getElem? (i := 1) rfl)) (fun _ h9 => h9) rfl dX2_decide_28 ?_
    refine lv_aload_n hx hb dX2_decide_31 rfl (lv_at hl 0 rfl) ?_
    refine va_get (D := E.1) (ci := 2) (v := .int jO) (C := RX2) (T := TX2) (N := 6) hx hb hts (fun _ h => List.mem_cons_of_mem _ (List.mem_append_left _ (List.mem_append_right _ h))) hown hK.1 hP 0 rfl rfl 5 (by decide) (hts (.fieldLink RX2 29 "Quarrelboard$Judge" "claimsOut" "I") (List.mem_of_getElem? (i := 2) rfl)) (fun _ h9 => h9) rfl dX2_decide_32 ?_
    refine cl_S (Wc := [(qD, .inr (0, [.ref qO, .ref qG, .ref qC, .ref qA, .ref qB, .int (nI n), .int (nI sp)])), (qO, .inl (E.2.1, 16, .inl (fun w9 => nI (ow w9)))), (qG, .inl (E.2.1, 16, .inl gf)), (qC, .inl (E.2.1, 16, .inl gc)), (qA, .inl (E.2.1, 16, .inl ak)), (qB, .inl (E.2.1, 3, .inl bk))]) (As := [.int (nI i), .int sf, .int jI, .int jO]) (rest := []) ⟨hx, hb, hml, hown, hts⟩ (c_X0_fails l E qD qO qG qC qA qB n sp ow gf gc ak bk i sf jI jO (by omega)) (cwV 4 hts gX2_decide_X0_fails rfl rfl rfl (by decide +kernel) ⟨Nat.le_of_ble_eq_true rfl, Nat.le_of_ble_eq_true rfl⟩) hK (hP.sub [2, 3, 4, 5, 6, 7] rfl) (va_recv hK.1 hP (ci := 0) (q0 := 2) rfl rfl) rfl hl.1 rfl (Nat.le_of_ble_eq_true rfl) dX2_decide_35 ⟨Nat.zero_le _, Nat.zero_le _⟩ ?_
    refine lv_if_eq (tgt := 55) hx hb dX2_decide_38 (by decide) (fun c_38 => ?_) (fun c_38 => ?_)
    · have c_38 := zI_f c_38
      refine lv_aload_n hx hb dX2_decide_55 rfl (lv_at hl 0 rfl) ?_
      refine va_get (D := E.1) (ci := 2) (v := .ref qD) (C := RX2) (T := TX2) (N := 6) hx hb hts (fun _ h => List.mem_cons_of_mem _ (List.mem_append_left _ (List.mem_append_right _ h))) hown hK.1 hP 0 rfl rfl 0 (by decide) (hts (.fieldLink RX2 9 "Quarrelboard$Judge" "debate" "LQuarrelboard$Debate;") (List.mem_of_getElem? (i := 3) rfl)) (fun _ h9 => h9) rfl dX2_decide_56 ?_
      refine lv_iload_n hx hb dX2_decide_59 rfl (lv_at hl 1 rfl) ?_
      refine lv_aload_n hx hb dX2_decide_60 rfl (lv_at hl 0 rfl) ?_
      refine va_get (D := E.1) (ci := 2) (v := .int sf) (C := RX2) (T := TX2) (N := 6) hx hb hts (fun _ h => List.mem_cons_of_mem _ (List.mem_append_left _ (List.mem_append_right _ h))) hown hK.1 hP 0 rfl rfl 3 (by decide) (hts (.fieldLink RX2 23 "Quarrelboard$Judge" "standingFacts" "I") (List.mem_of_getElem? (i := 4) rfl)) (fun _ h9 => h9) rfl dX2_decide_61 ?_
      refine lv_aload_n hx hb dX2_decide_64 rfl (lv_at hl 0 rfl) ?_
      refine va_get (D := E.1) (ci := 2) (v := .int jI) (C := RX2) (T := TX2) (N := 6) hx hb hts (fun _ h => List.mem_cons_of_mem _ (List.mem_append_left _ (List.mem_append_right _ h))) hown hK.1 hP 0 rfl rfl 4 (by decide) (hts (.fieldLink RX2 26 "Quarrelboard$Judge" "claimsIn" "I") (List.mem_of_getElem? (i := 1) rfl)) (fun _ h9 => h9) rfl dX2_decide_65 ?_
      refine lv_aload_n hx hb dX2_decide_68 rfl (lv_at hl 0 rfl) ?_
      refine va_get (D := E.1) (ci := 2) (v := .int jO) (C := RX2) (T := TX2) (N := 6) hx hb hts (fun _ h => List.mem_cons_of_mem _ (List.mem_append_left _ (List.mem_append_right _ h))) hown hK.1 hP 0 rfl rfl 5 (by decide) (hts (.fieldLink RX2 29 "Quarrelboard$Judge" "claimsOut" "I") (List.mem_of_getElem? (i := 2) rfl)) (fun _ h9 => h9) rfl dX2_decide_69 ?_
      refine cl_S (Wc := [(qD, .inr (0, [.ref qO, .ref qG, .ref qC, .ref qA, .ref qB, .int (nI n), .int (nI sp)])), (qO, .inl (E.2.1, 16, .inl (fun w9 => nI (ow w9)))), (qG, .inl (E.2.1, 16, .inl gf)), (qC, .inl (E.2.1, 16, .inl gc)), (qA, .inl (E.2.1, 16, .inl ak)), (qB, .inl (E.2.1, 3, .inl bk))]) (As := [.int (nI i), .int sf, .int jI, .int jO]) (rest := []) ⟨hx, hb, hml, hown, hts⟩ (c_X0_holds l E qD qO qG qC qA qB n sp ow gf gc ak bk i sf jI jO (by omega)) (cwV 4 hts gX2_decide_X0_holds rfl rfl rfl (by decide +kernel) ⟨Nat.le_of_ble_eq_true rfl, Nat.le_of_ble_eq_true rfl⟩) hK (hP.sub [2, 3, 4, 5, 6, 7] rfl) (va_recv hK.1 hP (ci := 0) (q0 := 2) rfl rfl) rfl hl.1 rfl (Nat.le_of_ble_eq_true rfl) dX2_decide_72 ⟨Nat.zero_le _, Nat.zero_le _⟩ ?_
      refine lv_if_eq (tgt := 92) hx hb dX2_decide_75 (by decide) (fun c_75 => ?_) (fun c_75 => ?_)
      · have c_75 := zI_f c_75
        refine lv_iconst (v := 0) hx hb dX2_decide_92 (by decide) ?_
        have e9 : (0 : Int32) = zI ((dR gf gc ak sf i jI jO).1) := by rw [dR_d c_13 c_38 c_75]; rfl
        have hP9 : va_P E.1 vwCl [(qJ, .inr (2, [.ref qD, .ref qQ, .int (nI qn), .int sf, .int ((dR gf gc ak sf i jI jO).2.1), .int ((dR gf gc ak sf i jI jO).2.2)])), (qQ, .inl (E.2.1, 16, .inl (fun w9 => nI (qu w9)))), (qD, .inr (0, [.ref qO, .ref qG, .ref qC, .ref qA, .ref qB, .int (nI n), .int (nI sp)])), (qO, .inl (E.2.1, 16, .inl (fun w9 => nI (ow w9)))), (qG, .inl (E.2.1, 16, .inl gf)), (qC, .inl (E.2.1, 16, .inl gc)), (qA, .inl (E.2.1, 16, .inl ak)), (qB, .inl (E.2.1, 3, .inl bk))] s.heap := by rw [dR_d c_13 c_38 c_75]; exact hP
        have hD9 : va_D A [(qJ, .inr (2, [.ref qD, .ref qQ, .int (nI qn), .int sf, .int ((dR gf gc ak sf i jI jO).2.1), .int ((dR gf gc ak sf i jI jO).2.2)])), (qQ, .inl (E.2.1, 16, .inl (fun w9 => nI (qu w9)))), (qD, .inr (0, [.ref qO, .ref qG, .ref qC, .ref qA, .ref qB, .int (nI n), .int (nI sp)])), (qO, .inl (E.2.1, 16, .inl (fun w9 => nI (ow w9)))), (qG, .inl (E.2.1, 16, .inl gf)), (qC, .inl (E.2.1, 16, .inl gc)), (qA, .inl (E.2.1, 16, .inl ak)), (qB, .inl (E.2.1, 3, .inl bk))] := by rw [dR_d c_13 c_38 c_75]; exact hD
        exact W.zret (v := 0) hx hb hr (rfl) (fun t ht hW => ⟨⟨_, (), rfl, e9, by rw [ht]; exact hP9, hD9⟩, hS.F ht⟩) hS.2.2 dX2_decide_93
      · have c_75 := zI_t c_75
        refine lv_aload_n hx hb dX2_decide_78 rfl (lv_at hl 0 rfl) ?_
        refine lv_dup hx hb dX2_decide_79 rfl ?_
        refine va_get (D := E.1) (ci := 2) (v := .int jI) (C := RX2) (T := TX2) (N := 6) hx hb hts (fun _ h => List.mem_cons_of_mem _ (List.mem_append_left _ (List.mem_append_right _ h))) hown hK.1 hP 0 rfl rfl 4 (by decide) (hts (.fieldLink RX2 26 "Quarrelboard$Judge" "claimsIn" "I") (List.mem_of_getElem? (i := 1) rfl)) (fun _ h9 => h9) rfl dX2_decide_80 ?_
        refine lv_iconst (v := 1) hx hb dX2_decide_83 (by decide) ?_
        refine lv_iload_n hx hb dX2_decide_84 rfl (lv_at hl 1 rfl) ?_
        refine lv_ishl hx hb dX2_decide_85 ?_
        refine lv_topi (fun y9 ey9 => ?_)
        obtain rfl : y9 = m1 i := ey9.trans (rfl)
        refine lv_ior hx hb dX2_decide_86 ?_
        refine va_put (D := E.1) (ci := 2) (v := .int (jI ||| (m1 i))) (ty := .int) (C := RX2) (T := TX2) (N := 6) hx hb hts (fun _ h => List.mem_cons_of_mem _ (List.mem_append_left _ (List.mem_append_right _ h))) tyX2 tyX2_ok nmX2 hown hK.1 hP hD hS 0 rfl rfl 4 (by decide) (hts (.fieldLink RX2 26 "Quarrelboard$Judge" "claimsIn" "I") (List.mem_of_getElem? (i := 1) rfl)) (fun _ h9 => h9) rfl (by decide +kernel) rfl rfl (Nat.le_of_ble_eq_true rfl) dX2_decide_87 (fun H locs hP hD hS => ?_)
        have hP : va_P E.1 vwCl [(qJ, .inr (2, [.ref qD, .ref qQ, .int (nI qn), .int sf, .int (jI ||| (m1 i)), .int jO])), (qQ, .inl (E.2.1, 16, .inl (fun w9 => nI (qu w9)))), (qD, .inr (0, [.ref qO, .ref qG, .ref qC, .ref qA, .ref qB, .int (nI n), .int (nI sp)])), (qO, .inl (E.2.1, 16, .inl (fun w9 => nI (ow w9)))), (qG, .inl (E.2.1, 16, .inl gf)), (qC, .inl (E.2.1, 16, .inl gc)), (qA, .inl (E.2.1, 16, .inl ak)), (qB, .inl (E.2.1, 3, .inl bk))] H := hP
        have hD : va_D A [(qJ, .inr (2, [.ref qD, .ref qQ, .int (nI qn), .int sf, .int (jI ||| (m1 i)), .int jO])), (qQ, .inl (E.2.1, 16, .inl (fun w9 => nI (qu w9)))), (qD, .inr (0, [.ref qO, .ref qG, .ref qC, .ref qA, .ref qB, .int (nI n), .int (nI sp)])), (qO, .inl (E.2.1, 16, .inl (fun w9 => nI (ow w9)))), (qG, .inl (E.2.1, 16, .inl gf)), (qC, .inl (E.2.1, 16, .inl gc)), (qA, .inl (E.2.1, 16, .inl ak)), (qB, .inl (E.2.1, 3, .inl bk))] := hD
        refine lv_iconst (v := 1) hx hb dX2_decide_90 (by decide) ?_
        have e9 : (1 : Int32) = zI ((dR gf gc ak sf i jI jO).1) := by rw [dR_c c_13 c_38 c_75]; rfl
        have hP9 : va_P E.1 vwCl [(qJ, .inr (2, [.ref qD, .ref qQ, .int (nI qn), .int sf, .int ((dR gf gc ak sf i jI jO).2.1), .int ((dR gf gc ak sf i jI jO).2.2)])), (qQ, .inl (E.2.1, 16, .inl (fun w9 => nI (qu w9)))), (qD, .inr (0, [.ref qO, .ref qG, .ref qC, .ref qA, .ref qB, .int (nI n), .int (nI sp)])), (qO, .inl (E.2.1, 16, .inl (fun w9 => nI (ow w9)))), (qG, .inl (E.2.1, 16, .inl gf)), (qC, .inl (E.2.1, 16, .inl gc)), (qA, .inl (E.2.1, 16, .inl ak)), (qB, .inl (E.2.1, 3, .inl bk))] H := by rw [dR_c c_13 c_38 c_75]; exact hP
        have hD9 : va_D A [(qJ, .inr (2, [.ref qD, .ref qQ, .int (nI qn), .int sf, .int ((dR gf gc ak sf i jI jO).2.1), .int ((dR gf gc ak sf i jI jO).2.2)])), (qQ, .inl (E.2.1, 16, .inl (fun w9 => nI (qu w9)))), (qD, .inr (0, [.ref qO, .ref qG, .ref qC, .ref qA, .ref qB, .int (nI n), .int (nI sp)])), (qO, .inl (E.2.1, 16, .inl (fun w9 => nI (ow w9)))), (qG, .inl (E.2.1, 16, .inl gf)), (qC, .inl (E.2.1, 16, .inl gc)), (qA, .inl (E.2.1, 16, .inl ak)), (qB, .inl (E.2.1, 3, .inl bk))] := by rw [dR_c c_13 c_38 c_75]; exact hD
        exact W.zret (v := 1) hx hb hr (rfl) (fun t ht hW => ⟨⟨_, (), rfl, e9, by rw [ht]; exact hP9, hD9⟩, hS.F ht⟩) hS.2.2 dX2_decide_91
    · have c_38 := zI_t c_38
      refine lv_aload_n hx hb dX2_decide_41 rfl (lv_at hl 0 rfl) ?_
      refine lv_dup hx hb dX2_decide_42 rfl ?_
      refine va_get (D := E.1) (ci := 2) (v := .int jO) (C := RX2) (T := TX2) (N := 6) hx hb hts (fun _ h => List.mem_cons_of_mem _ (List.mem_append_left _ (List.mem_append_right _ h))) hown hK.1 hP 0 rfl rfl 5 (by decide) (hts (.fieldLink RX2 29 "Quarrelboard$Judge" "claimsOut" "I") (List.mem_of_getElem? (i := 2) rfl)) (fun _ h9 => h9) rfl dX2_decide_43 ?_
      refine lv_iconst (v := 1) hx hb dX2_decide_46 (by decide) ?_
      refine lv_iload_n hx hb dX2_decide_47 rfl (lv_at hl 1 rfl) ?_
      refine lv_ishl hx hb dX2_decide_48 ?_
      refine lv_topi (fun y9 ey9 => ?_)
      obtain rfl : y9 = m1 i := ey9.trans (rfl)
      refine lv_ior hx hb dX2_decide_49 ?_
      refine va_put (D := E.1) (ci := 2) (v := .int (jO ||| (m1 i))) (ty := .int) (C := RX2) (T := TX2) (N := 6) hx hb hts (fun _ h => List.mem_cons_of_mem _ (List.mem_append_left _ (List.mem_append_right _ h))) tyX2 tyX2_ok nmX2 hown hK.1 hP hD hS 0 rfl rfl 5 (by decide) (hts (.fieldLink RX2 29 "Quarrelboard$Judge" "claimsOut" "I") (List.mem_of_getElem? (i := 2) rfl)) (fun _ h9 => h9) rfl (by decide +kernel) rfl rfl (Nat.le_of_ble_eq_true rfl) dX2_decide_50 (fun H locs hP hD hS => ?_)
      have hP : va_P E.1 vwCl [(qJ, .inr (2, [.ref qD, .ref qQ, .int (nI qn), .int sf, .int jI, .int (jO ||| (m1 i))])), (qQ, .inl (E.2.1, 16, .inl (fun w9 => nI (qu w9)))), (qD, .inr (0, [.ref qO, .ref qG, .ref qC, .ref qA, .ref qB, .int (nI n), .int (nI sp)])), (qO, .inl (E.2.1, 16, .inl (fun w9 => nI (ow w9)))), (qG, .inl (E.2.1, 16, .inl gf)), (qC, .inl (E.2.1, 16, .inl gc)), (qA, .inl (E.2.1, 16, .inl ak)), (qB, .inl (E.2.1, 3, .inl bk))] H := hP
      have hD : va_D A [(qJ, .inr (2, [.ref qD, .ref qQ, .int (nI qn), .int sf, .int jI, .int (jO ||| (m1 i))])), (qQ, .inl (E.2.1, 16, .inl (fun w9 => nI (qu w9)))), (qD, .inr (0, [.ref qO, .ref qG, .ref qC, .ref qA, .ref qB, .int (nI n), .int (nI sp)])), (qO, .inl (E.2.1, 16, .inl (fun w9 => nI (ow w9)))), (qG, .inl (E.2.1, 16, .inl gf)), (qC, .inl (E.2.1, 16, .inl gc)), (qA, .inl (E.2.1, 16, .inl ak)), (qB, .inl (E.2.1, 3, .inl bk))] := hD
      refine lv_iconst (v := 1) hx hb dX2_decide_53 (by decide) ?_
      have e9 : (1 : Int32) = zI ((dR gf gc ak sf i jI jO).1) := by rw [dR_b c_13 c_38]; rfl
      have hP9 : va_P E.1 vwCl [(qJ, .inr (2, [.ref qD, .ref qQ, .int (nI qn), .int sf, .int ((dR gf gc ak sf i jI jO).2.1), .int ((dR gf gc ak sf i jI jO).2.2)])), (qQ, .inl (E.2.1, 16, .inl (fun w9 => nI (qu w9)))), (qD, .inr (0, [.ref qO, .ref qG, .ref qC, .ref qA, .ref qB, .int (nI n), .int (nI sp)])), (qO, .inl (E.2.1, 16, .inl (fun w9 => nI (ow w9)))), (qG, .inl (E.2.1, 16, .inl gf)), (qC, .inl (E.2.1, 16, .inl gc)), (qA, .inl (E.2.1, 16, .inl ak)), (qB, .inl (E.2.1, 3, .inl bk))] H := by rw [dR_b c_13 c_38]; exact hP
      have hD9 : va_D A [(qJ, .inr (2, [.ref qD, .ref qQ, .int (nI qn), .int sf, .int ((dR gf gc ak sf i jI jO).2.1), .int ((dR gf gc ak sf i jI jO).2.2)])), (qQ, .inl (E.2.1, 16, .inl (fun w9 => nI (qu w9)))), (qD, .inr (0, [.ref qO, .ref qG, .ref qC, .ref qA, .ref qB, .int (nI n), .int (nI sp)])), (qO, .inl (E.2.1, 16, .inl (fun w9 => nI (ow w9)))), (qG, .inl (E.2.1, 16, .inl gf)), (qC, .inl (E.2.1, 16, .inl gc)), (qA, .inl (E.2.1, 16, .inl ak)), (qB, .inl (E.2.1, 3, .inl bk))] := by rw [dR_b c_13 c_38]; exact hD
      exact W.zret (v := 1) hx hb hr (rfl) (fun t ht hW => ⟨⟨_, (), rfl, e9, by rw [ht]; exact hP9, hD9⟩, hS.F ht⟩) hS.2.2 dX2_decide_54
  · have c_13 := zI_t c_13
    refine lv_iconst (v := 0) hx hb dX2_decide_16 (by decide) ?_
    have e9 : (0 : Int32) = zI ((dR gf gc ak sf i jI jO).1) := by rw [dR_a c_13]; rfl
    have hP9 : va_P E.1 vwCl [(qJ, .inr (2, [.ref qD, .ref qQ, .int (nI qn), .int sf, .int ((dR gf gc ak sf i jI jO).2.1), .int ((dR gf gc ak sf i jI jO).2.2)])), (qQ, .inl (E.2.1, 16, .inl (fun w9 => nI (qu w9)))), (qD, .inr (0, [.ref qO, .ref qG, .ref qC, .ref qA, .ref qB, .int (nI n), .int (nI sp)])), (qO, .inl (E.2.1, 16, .inl (fun w9 => nI (ow w9)))), (qG, .inl (E.2.1, 16, .inl gf)), (qC, .inl (E.2.1, 16, .inl gc)), (qA, .inl (E.2.1, 16, .inl ak)), (qB, .inl (E.2.1, 3, .inl bk))] s.heap := by rw [dR_a c_13]; exact hP
    have hD9 : va_D A [(qJ, .inr (2, [.ref qD, .ref qQ, .int (nI qn), .int sf, .int ((dR gf gc ak sf i jI jO).2.1), .int ((dR gf gc ak sf i jI jO).2.2)])), (qQ, .inl (E.2.1, 16, .inl (fun w9 => nI (qu w9)))), (qD, .inr (0, [.ref qO, .ref qG, .ref qC, .ref qA, .ref qB, .int (nI n), .int (nI sp)])), (qO, .inl (E.2.1, 16, .inl (fun w9 => nI (ow w9)))), (qG, .inl (E.2.1, 16, .inl gf)), (qC, .inl (E.2.1, 16, .inl gc)), (qA, .inl (E.2.1, 16, .inl ak)), (qB, .inl (E.2.1, 3, .inl bk))] := by rw [dR_a c_13]; exact hD
    exact W.zret (v := 0) hx hb hr (rfl) (fun t ht hW => ⟨⟨_, (), rfl, e9, by rw [ht]; exact hP9, hD9⟩, hS.F ht⟩) hS.2.2 dX2_decide_17
set_option maxHeartbeats 4000000 in
set_option maxRecDepth 100000 in
theorem c_X2_decideAndQueue (l : Launch) (E : gE) (qJ : Nat) (qD : Nat) (qQ : Nat) (qn : Nat) (sf : Int32) (jI : Int32) (jO : Int32) (qu : Nat → Nat) (qO : Nat) (qG : Nat) (qC : Nat) (qA : Nat) (qB : Nat) (n : Nat) (sp : Nat) (ow : Nat → Nat) (gf : Nat → Int32) (gc : Nat → Int32) (ak : Nat → Int32) (bk : Nat → Int32) (sz : Nat) (i : Nat) (hi : i < 16) (hq : qn ≤ 16) : Met l yX2_decideAndQueue wsX2_decideAndQueue ({ frames := 2, cells := 0, slots := 0, locals := 45 }) (va_Pc [.ref qJ, .int (nI i)] (pW E [(qJ, .inr (2, [.ref qD, .ref qQ, .int (nI qn), .int sf, .int jI, .int jO])), (qQ, .inl (E.2.1, 16, .inl (fun w9 => nI (qu w9)))), (qD, .inr (0, [.ref qO, .ref qG, .ref qC, .ref qA, .ref qB, .int (nI n), .int (nI sp)])), (qO, .inl (E.2.1, 16, .inl (fun w9 => nI (ow w9)))), (qG, .inl (E.2.1, 16, .inl gf)), (qC, .inl (E.2.1, 16, .inl gc)), (qA, .inl (E.2.1, 16, .inl ak)), (qB, .inl (E.2.1, 3, .inl bk))] sz)) (va_Qv (fun (_ : Unit) => True) (fun _ => eW E (va_A [(qJ, .inr (2, [.ref qD, .ref qQ, .int (nI qn), .int sf, .int jI, .int jO])), (qQ, .inl (E.2.1, 16, .inl (fun w9 => nI (qu w9)))), (qD, .inr (0, [.ref qO, .ref qG, .ref qC, .ref qA, .ref qB, .int (nI n), .int (nI sp)])), (qO, .inl (E.2.1, 16, .inl (fun w9 => nI (ow w9)))), (qG, .inl (E.2.1, 16, .inl gf)), (qC, .inl (E.2.1, 16, .inl gc)), (qA, .inl (E.2.1, 16, .inl ak)), (qB, .inl (E.2.1, 3, .inl bk))] sz) [(qJ, .inr (2, [.ref qD, .ref qQ, .int (nI ((dQ gf gc ak sf i (qu, qn, jI, jO)).2.1)), .int sf, .int ((dQ gf gc ak sf i (qu, qn, jI, jO)).2.2.1), .int ((dQ gf gc ak sf i (qu, qn, jI, jO)).2.2.2)])), (qQ, .inl (E.2.1, 16, .inl (fun w9 => nI (((dQ gf gc ak sf i (qu, qn, jI, jO)).1) w9)))), (qD, .inr (0, [.ref qO, .ref qG, .ref qC, .ref qA, .ref qB, .int (nI n), .int (nI sp)])), (qO, .inl (E.2.1, 16, .inl (fun w9 => nI (ow w9)))), (qG, .inl (E.2.1, 16, .inl gf)), (qC, .inl (E.2.1, 16, .inl gc)), (qA, .inl (E.2.1, 16, .inl ak)), (qB, .inl (E.2.1, 3, .inl bk))]) (va_A [(qJ, .inr (2, [.ref qD, .ref qQ, .int (nI qn), .int sf, .int jI, .int jO])), (qQ, .inl (E.2.1, 16, .inl (fun w9 => nI (qu w9)))), (qD, .inr (0, [.ref qO, .ref qG, .ref qC, .ref qA, .ref qB, .int (nI n), .int (nI sp)])), (qO, .inl (E.2.1, 16, .inl (fun w9 => nI (ow w9)))), (qG, .inl (E.2.1, 16, .inl gf)), (qC, .inl (E.2.1, 16, .inl gc)), (qA, .inl (E.2.1, 16, .inl ak)), (qB, .inl (E.2.1, 3, .inl bk))] sz)) 0 0 (va_A [(qJ, .inr (2, [.ref qD, .ref qQ, .int (nI qn), .int sf, .int jI, .int jO])), (qQ, .inl (E.2.1, 16, .inl (fun w9 => nI (qu w9)))), (qD, .inr (0, [.ref qO, .ref qG, .ref qC, .ref qA, .ref qB, .int (nI n), .int (nI sp)])), (qO, .inl (E.2.1, 16, .inl (fun w9 => nI (ow w9)))), (qG, .inl (E.2.1, 16, .inl gf)), (qC, .inl (E.2.1, 16, .inl gc)), (qA, .inl (E.2.1, 16, .inl ak)), (qB, .inl (E.2.1, 3, .inl bk))] sz) := by
  refine Met.ofW (cc := cX2_decideAndQueue) (maxL := 2) (ret := none) (by decide) rfl ?_
  intro p e s m args below meth c s₁ B hml hv
  obtain ⟨rfl, hsz, hP, hK, hD0⟩ := hv
  have hx := B.exec
  have hb := B.bytes
  have hr := B.returns
  have hts := atoms_spec (ws := wsX2_decideAndQueue) B.pre
  have hown : s.vm.findClass RX2 = some m.cls := findClass_of_methodNamed B.named
  have hlocks := B.notSynchronized
  subst hsz
  have hD := hD0.self (sz := s.heap.size)
  generalize hAe : va_A [(qJ, .inr (2, [.ref qD, .ref qQ, .int (nI qn), .int sf, .int jI, .int jO])), (qQ, .inl (E.2.1, 16, .inl (fun w9 => nI (qu w9)))), (qD, .inr (0, [.ref qO, .ref qG, .ref qC, .ref qA, .ref qB, .int (nI n), .int (nI sp)])), (qO, .inl (E.2.1, 16, .inl (fun w9 => nI (ow w9)))), (qG, .inl (E.2.1, 16, .inl gf)), (qC, .inl (E.2.1, 16, .inl gc)), (qA, .inl (E.2.1, 16, .inl ak)), (qB, .inl (E.2.1, 3, .inl bk))] s.heap.size = A at hD ⊢
  have hA : ∀ q : Nat, s.heap.size ≤ q → A q := fun q h => by rw [← hAe]; exact Or.inr h
  have hS : va_S A s.heap s.heap [] := va_S.rf
  have hl := lv_entry ([.ref qJ, .int (nI i)]) (n := 2) (Nat.le_of_ble_eq_true rfl)
  rw [lg_entry_eq]
  generalize (lg_sl ([.ref qJ, .int (nI i)]) ++ List.replicate (2 - (lg_sl ([.ref qJ, .int (nI i)])).length) Slot.unset).toArray = ls at hl ⊢
  have hl : lv_has ls 2 [(0, .ref qJ), (1, .int (nI i))] := hl
  refine lv_aload_n hx hb dX2_decideAndQueue_0 rfl (lv_at hl 0 rfl) ?_
  refine lv_iload_n hx hb dX2_decideAndQueue_1 rfl (lv_at hl 1 rfl) ?_
  refine cl_W (Wl := [(qJ, .inr (2, [.ref qD, .ref qQ, .int (nI qn), .int sf, .int jI, .int jO])), (qQ, .inl (E.2.1, 16, .inl (fun w9 => nI (qu w9)))), (qD, .inr (0, [.ref qO, .ref qG, .ref qC, .ref qA, .ref qB, .int (nI n), .int (nI sp)])), (qO, .inl (E.2.1, 16, .inl (fun w9 => nI (ow w9)))), (qG, .inl (E.2.1, 16, .inl gf)), (qC, .inl (E.2.1, 16, .inl gc)), (qA, .inl (E.2.1, 16, .inl ak)), (qB, .inl (E.2.1, 3, .inl bk))]) (Wc := [(qJ, .inr (2, [.ref qD, .ref qQ, .int (nI qn), .int sf, .int jI, .int jO])), (qQ, .inl (E.2.1, 16, .inl (fun w9 => nI (qu w9)))), (qD, .inr (0, [.ref qO, .ref qG, .ref qC, .ref qA, .ref qB, .int (nI n), .int (nI sp)])), (qO, .inl (E.2.1, 16, .inl (fun w9 => nI (ow w9)))), (qG, .inl (E.2.1, 16, .inl gf)), (qC, .inl (E.2.1, 16, .inl gc)), (qA, .inl (E.2.1, 16, .inl ak)), (qB, .inl (E.2.1, 3, .inl bk))]) (Wr := []) (W1 := [(qJ, .inr (2, [.ref qD, .ref qQ, .int (nI qn), .int sf, .int ((dR gf gc ak sf i jI jO).2.1), .int ((dR gf gc ak sf i jI jO).2.2)])), (qQ, .inl (E.2.1, 16, .inl (fun w9 => nI (qu w9)))), (qD, .inr (0, [.ref qO, .ref qG, .ref qC, .ref qA, .ref qB, .int (nI n), .int (nI sp)])), (qO, .inl (E.2.1, 16, .inl (fun w9 => nI (ow w9)))), (qG, .inl (E.2.1, 16, .inl gf)), (qC, .inl (E.2.1, 16, .inl gc)), (qA, .inl (E.2.1, 16, .inl ak)), (qB, .inl (E.2.1, 3, .inl bk))]) (W2 := [(qJ, .inr (2, [.ref qD, .ref qQ, .int (nI qn), .int sf, .int ((dR gf gc ak sf i jI jO).2.1), .int ((dR gf gc ak sf i jI jO).2.2)])), (qQ, .inl (E.2.1, 16, .inl (fun w9 => nI (qu w9)))), (qD, .inr (0, [.ref qO, .ref qG, .ref qC, .ref qA, .ref qB, .int (nI n), .int (nI sp)])), (qO, .inl (E.2.1, 16, .inl (fun w9 => nI (ow w9)))), (qG, .inl (E.2.1, 16, .inl gf)), (qC, .inl (E.2.1, 16, .inl gc)), (qA, .inl (E.2.1, 16, .inl ak)), (qB, .inl (E.2.1, 3, .inl bk))]) (As := [.int (nI i)]) (rest := []) ⟨hx, hb, hml, hown, hts⟩ (c_X2_decide l E qJ qD qQ qn sf jI jO qu qO qG qC qA qB n sp ow gf gc ak bk s.heap.size i (by omega)) (cwV 1 hts gX2_decideAndQueue_X2_decide rfl rfl rfl (by decide +kernel) ⟨Nat.le_of_ble_eq_true rfl, Nat.le_of_ble_eq_true rfl⟩) hK hP hD hS hA [0, 1, 2, 3, 4, 5, 6, 7] [] [0, 1, 2, 3, 4, 5, 6, 7] rfl rfl (by decide) rfl (by decide) (by decide) rfl (by decide) (va_recv hK.1 hP (ci := 2) (q0 := 0) rfl rfl) rfl hl.1 rfl (Nat.le_of_ble_eq_true rfl) dX2_decideAndQueue_2 ⟨Nat.zero_le _, Nat.zero_le _⟩ (fun H locs hP hD hS => ?_)
  refine lv_if_eq (tgt := 37) hx hb dX2_decideAndQueue_5 (by decide) (fun c_5 => ?_) (fun c_5 => ?_)
  · have c_5 := zI_f c_5
    have hP9 : va_P E.1 vwCl [(qJ, .inr (2, [.ref qD, .ref qQ, .int (nI ((dQ gf gc ak sf i (qu, qn, jI, jO)).2.1)), .int sf, .int ((dQ gf gc ak sf i (qu, qn, jI, jO)).2.2.1), .int ((dQ gf gc ak sf i (qu, qn, jI, jO)).2.2.2)])), (qQ, .inl (E.2.1, 16, .inl (fun w9 => nI (((dQ gf gc ak sf i (qu, qn, jI, jO)).1) w9)))), (qD, .inr (0, [.ref qO, .ref qG, .ref qC, .ref qA, .ref qB, .int (nI n), .int (nI sp)])), (qO, .inl (E.2.1, 16, .inl (fun w9 => nI (ow w9)))), (qG, .inl (E.2.1, 16, .inl gf)), (qC, .inl (E.2.1, 16, .inl gc)), (qA, .inl (E.2.1, 16, .inl ak)), (qB, .inl (E.2.1, 3, .inl bk))] H := by rw [dQ_a c_5]; exact hP
    have hD9 : va_D A [(qJ, .inr (2, [.ref qD, .ref qQ, .int (nI ((dQ gf gc ak sf i (qu, qn, jI, jO)).2.1)), .int sf, .int ((dQ gf gc ak sf i (qu, qn, jI, jO)).2.2.1), .int ((dQ gf gc ak sf i (qu, qn, jI, jO)).2.2.2)])), (qQ, .inl (E.2.1, 16, .inl (fun w9 => nI (((dQ gf gc ak sf i (qu, qn, jI, jO)).1) w9)))), (qD, .inr (0, [.ref qO, .ref qG, .ref qC, .ref qA, .ref qB, .int (nI n), .int (nI sp)])), (qO, .inl (E.2.1, 16, .inl (fun w9 => nI (ow w9)))), (qG, .inl (E.2.1, 16, .inl gf)), (qC, .inl (E.2.1, 16, .inl gc)), (qA, .inl (E.2.1, 16, .inl ak)), (qB, .inl (E.2.1, 3, .inl bk))] := by rw [dQ_a c_5]; exact hD
    exact W.vret hx hb hr (fun t ht hW => ⟨⟨(), rfl, trivial, by rw [ht]; exact hP9, hD9⟩, hS.F ht⟩) hS.2.2 dX2_decideAndQueue_37
  · have c_5 := zI_t c_5
    refine lv_aload_n hx hb dX2_decideAndQueue_8 rfl (lv_at hl 0 rfl) ?_
    refine va_get (D := E.1) (ci := 2) (v := .int (nI qn)) (C := RX2) (T := TX2) (N := 6) hx hb hts (fun _ h => List.mem_cons_of_mem _ (List.mem_append_left _ (List.mem_append_right _ h))) hown hK.1 hP 0 rfl rfl 2 (by decide) (hts (.fieldLink RX2 19 "Quarrelboard$Judge" "queued" "I") (List.mem_of_getElem? (i := 1) rfl)) (fun _ h9 => h9) rfl dX2_decideAndQueue_9 ?_
    refine lv_bipush (v := 16) hx hb dX2_decideAndQueue_12 (by decide) ?_
    refine lv_icmp_ge (tgt := 37) hx hb dX2_decideAndQueue_14 (by decide) (fun c_14 => ?_) (fun c_14 => ?_)
    · have c_14 : nI 16 ≤ nI qn := c_14
      have c_14 := (nI_leI (a := 16) (b := qn) (by omega) (by omega)).mp c_14
      have hP9 : va_P E.1 vwCl [(qJ, .inr (2, [.ref qD, .ref qQ, .int (nI ((dQ gf gc ak sf i (qu, qn, jI, jO)).2.1)), .int sf, .int ((dQ gf gc ak sf i (qu, qn, jI, jO)).2.2.1), .int ((dQ gf gc ak sf i (qu, qn, jI, jO)).2.2.2)])), (qQ, .inl (E.2.1, 16, .inl (fun w9 => nI (((dQ gf gc ak sf i (qu, qn, jI, jO)).1) w9)))), (qD, .inr (0, [.ref qO, .ref qG, .ref qC, .ref qA, .ref qB, .int (nI n), .int (nI sp)])), (qO, .inl (E.2.1, 16, .inl (fun w9 => nI (ow w9)))), (qG, .inl (E.2.1, 16, .inl gf)), (qC, .inl (E.2.1, 16, .inl gc)), (qA, .inl (E.2.1, 16, .inl ak)), (qB, .inl (E.2.1, 3, .inl bk))] H := by rw [dQ_b c_14]; exact hP
      have hD9 : va_D A [(qJ, .inr (2, [.ref qD, .ref qQ, .int (nI ((dQ gf gc ak sf i (qu, qn, jI, jO)).2.1)), .int sf, .int ((dQ gf gc ak sf i (qu, qn, jI, jO)).2.2.1), .int ((dQ gf gc ak sf i (qu, qn, jI, jO)).2.2.2)])), (qQ, .inl (E.2.1, 16, .inl (fun w9 => nI (((dQ gf gc ak sf i (qu, qn, jI, jO)).1) w9)))), (qD, .inr (0, [.ref qO, .ref qG, .ref qC, .ref qA, .ref qB, .int (nI n), .int (nI sp)])), (qO, .inl (E.2.1, 16, .inl (fun w9 => nI (ow w9)))), (qG, .inl (E.2.1, 16, .inl gf)), (qC, .inl (E.2.1, 16, .inl gc)), (qA, .inl (E.2.1, 16, .inl ak)), (qB, .inl (E.2.1, 3, .inl bk))] := by rw [dQ_b c_14]; exact hD
      exact W.vret hx hb hr (fun t ht hW => ⟨⟨(), rfl, trivial, by rw [ht]; exact hP9, hD9⟩, hS.F ht⟩) hS.2.2 dX2_decideAndQueue_37
    · have c_14 : ¬ (nI 16 ≤ nI qn) := c_14
      have c_14 : ¬ (16 ≤ qn) := fun h9 => c_14 ((nI_leI (a := 16) (b := qn) (by omega) (by omega)).mpr h9)
      refine lv_aload_n hx hb dX2_decideAndQueue_17 rfl (lv_at hl 0 rfl) ?_
      refine va_get (D := E.1) (ci := 2) (v := .ref qQ) (C := RX2) (T := TX2) (N := 6) hx hb hts (fun _ h => List.mem_cons_of_mem _ (List.mem_append_left _ (List.mem_append_right _ h))) hown hK.1 hP 0 rfl rfl 1 (by decide) (hts (.fieldLink RX2 15 "Quarrelboard$Judge" "queue" "[I") (List.mem_of_getElem? (i := 2) rfl)) (fun _ h9 => h9) rfl dX2_decideAndQueue_18 ?_
      refine lv_aload_n hx hb dX2_decideAndQueue_21 rfl (lv_at hl 0 rfl) ?_
      refine va_get (D := E.1) (ci := 2) (v := .int (nI qn)) (C := RX2) (T := TX2) (N := 6) hx hb hts (fun _ h => List.mem_cons_of_mem _ (List.mem_append_left _ (List.mem_append_right _ h))) hown hK.1 hP 0 rfl rfl 2 (by decide) (hts (.fieldLink RX2 19 "Quarrelboard$Judge" "queued" "I") (List.mem_of_getElem? (i := 1) rfl)) (fun _ h9 => h9) rfl dX2_decideAndQueue_22 ?_
      refine lv_iload_n hx hb dX2_decideAndQueue_25 rfl (lv_at hl 1 rfl) ?_
      refine k_iastN hx hb hK hP hD hS 1 (f := qu) qn i rfl (by omega) (by decide) dX2_decideAndQueue_26 (fun H locs hP hD hS => ?_)
      have hP : va_P E.1 vwCl [(qJ, .inr (2, [.ref qD, .ref qQ, .int (nI qn), .int sf, .int ((dR gf gc ak sf i jI jO).2.1), .int ((dR gf gc ak sf i jI jO).2.2)])), (qQ, .inl (E.2.1, 16, .inl (fun w9 => nI ((upN qu qn i) w9)))), (qD, .inr (0, [.ref qO, .ref qG, .ref qC, .ref qA, .ref qB, .int (nI n), .int (nI sp)])), (qO, .inl (E.2.1, 16, .inl (fun w9 => nI (ow w9)))), (qG, .inl (E.2.1, 16, .inl gf)), (qC, .inl (E.2.1, 16, .inl gc)), (qA, .inl (E.2.1, 16, .inl ak)), (qB, .inl (E.2.1, 3, .inl bk))] H := hP
      have hD : va_D A [(qJ, .inr (2, [.ref qD, .ref qQ, .int (nI qn), .int sf, .int ((dR gf gc ak sf i jI jO).2.1), .int ((dR gf gc ak sf i jI jO).2.2)])), (qQ, .inl (E.2.1, 16, .inl (fun w9 => nI ((upN qu qn i) w9)))), (qD, .inr (0, [.ref qO, .ref qG, .ref qC, .ref qA, .ref qB, .int (nI n), .int (nI sp)])), (qO, .inl (E.2.1, 16, .inl (fun w9 => nI (ow w9)))), (qG, .inl (E.2.1, 16, .inl gf)), (qC, .inl (E.2.1, 16, .inl gc)), (qA, .inl (E.2.1, 16, .inl ak)), (qB, .inl (E.2.1, 3, .inl bk))] := hD
      refine lv_aload_n hx hb dX2_decideAndQueue_27 rfl (lv_at hl 0 rfl) ?_
      refine lv_dup hx hb dX2_decideAndQueue_28 rfl ?_
      refine va_get (D := E.1) (ci := 2) (v := .int (nI qn)) (C := RX2) (T := TX2) (N := 6) hx hb hts (fun _ h => List.mem_cons_of_mem _ (List.mem_append_left _ (List.mem_append_right _ h))) hown hK.1 hP 0 rfl rfl 2 (by decide) (hts (.fieldLink RX2 19 "Quarrelboard$Judge" "queued" "I") (List.mem_of_getElem? (i := 1) rfl)) (fun _ h9 => h9) rfl dX2_decideAndQueue_29 ?_
      refine lv_iconst (v := 1) hx hb dX2_decideAndQueue_32 (by decide) ?_
      refine lv_iadd hx hb dX2_decideAndQueue_33 ?_
      refine lv_topi (fun y9 ey9 => ?_)
      obtain rfl : y9 = nI (qn + 1) := ey9.trans (nI_1 _)
      refine va_put (D := E.1) (ci := 2) (v := .int (nI (qn + 1))) (ty := .int) (C := RX2) (T := TX2) (N := 6) hx hb hts (fun _ h => List.mem_cons_of_mem _ (List.mem_append_left _ (List.mem_append_right _ h))) tyX2 tyX2_ok nmX2 hown hK.1 hP hD hS 0 rfl rfl 2 (by decide) (hts (.fieldLink RX2 19 "Quarrelboard$Judge" "queued" "I") (List.mem_of_getElem? (i := 1) rfl)) (fun _ h9 => h9) rfl (by decide +kernel) rfl rfl (Nat.le_of_ble_eq_true rfl) dX2_decideAndQueue_34 (fun H locs hP hD hS => ?_)
      have hP : va_P E.1 vwCl [(qJ, .inr (2, [.ref qD, .ref qQ, .int (nI (qn + 1)), .int sf, .int ((dR gf gc ak sf i jI jO).2.1), .int ((dR gf gc ak sf i jI jO).2.2)])), (qQ, .inl (E.2.1, 16, .inl (fun w9 => nI ((upN qu qn i) w9)))), (qD, .inr (0, [.ref qO, .ref qG, .ref qC, .ref qA, .ref qB, .int (nI n), .int (nI sp)])), (qO, .inl (E.2.1, 16, .inl (fun w9 => nI (ow w9)))), (qG, .inl (E.2.1, 16, .inl gf)), (qC, .inl (E.2.1, 16, .inl gc)), (qA, .inl (E.2.1, 16, .inl ak)), (qB, .inl (E.2.1, 3, .inl bk))] H := hP
      have hD : va_D A [(qJ, .inr (2, [.ref qD, .ref qQ, .int (nI (qn + 1)), .int sf, .int ((dR gf gc ak sf i jI jO).2.1), .int ((dR gf gc ak sf i jI jO).2.2)])), (qQ, .inl (E.2.1, 16, .inl (fun w9 => nI ((upN qu qn i) w9)))), (qD, .inr (0, [.ref qO, .ref qG, .ref qC, .ref qA, .ref qB, .int (nI n), .int (nI sp)])), (qO, .inl (E.2.1, 16, .inl (fun w9 => nI (ow w9)))), (qG, .inl (E.2.1, 16, .inl gf)), (qC, .inl (E.2.1, 16, .inl gc)), (qA, .inl (E.2.1, 16, .inl ak)), (qB, .inl (E.2.1, 3, .inl bk))] := hD
      have hP9 : va_P E.1 vwCl [(qJ, .inr (2, [.ref qD, .ref qQ, .int (nI ((dQ gf gc ak sf i (qu, qn, jI, jO)).2.1)), .int sf, .int ((dQ gf gc ak sf i (qu, qn, jI, jO)).2.2.1), .int ((dQ gf gc ak sf i (qu, qn, jI, jO)).2.2.2)])), (qQ, .inl (E.2.1, 16, .inl (fun w9 => nI (((dQ gf gc ak sf i (qu, qn, jI, jO)).1) w9)))), (qD, .inr (0, [.ref qO, .ref qG, .ref qC, .ref qA, .ref qB, .int (nI n), .int (nI sp)])), (qO, .inl (E.2.1, 16, .inl (fun w9 => nI (ow w9)))), (qG, .inl (E.2.1, 16, .inl gf)), (qC, .inl (E.2.1, 16, .inl gc)), (qA, .inl (E.2.1, 16, .inl ak)), (qB, .inl (E.2.1, 3, .inl bk))] H := by rw [dQ_c c_5 (by omega)]; exact hP
      have hD9 : va_D A [(qJ, .inr (2, [.ref qD, .ref qQ, .int (nI ((dQ gf gc ak sf i (qu, qn, jI, jO)).2.1)), .int sf, .int ((dQ gf gc ak sf i (qu, qn, jI, jO)).2.2.1), .int ((dQ gf gc ak sf i (qu, qn, jI, jO)).2.2.2)])), (qQ, .inl (E.2.1, 16, .inl (fun w9 => nI (((dQ gf gc ak sf i (qu, qn, jI, jO)).1) w9)))), (qD, .inr (0, [.ref qO, .ref qG, .ref qC, .ref qA, .ref qB, .int (nI n), .int (nI sp)])), (qO, .inl (E.2.1, 16, .inl (fun w9 => nI (ow w9)))), (qG, .inl (E.2.1, 16, .inl gf)), (qC, .inl (E.2.1, 16, .inl gc)), (qA, .inl (E.2.1, 16, .inl ak)), (qB, .inl (E.2.1, 3, .inl bk))] := by rw [dQ_c c_5 (by omega)]; exact hD
      exact W.vret hx hb hr (fun t ht hW => ⟨⟨(), rfl, trivial, by rw [ht]; exact hP9, hD9⟩, hS.F ht⟩) hS.2.2 dX2_decideAndQueue_37
set_option maxHeartbeats 4000000 in
set_option maxRecDepth 100000 in
theorem c_X2_goOnFrom (l : Launch) (E : gE) (qJ : Nat) (qD : Nat) (qQ : Nat) (qn : Nat) (sf : Int32) (jI : Int32) (jO : Int32) (qu : Nat → Nat) (qO : Nat) (qG : Nat) (qC : Nat) (qA : Nat) (qB : Nat) (n : Nat) (sp : Nat) (ow : Nat → Nat) (gf : Nat → Int32) (gc : Nat → Int32) (ak : Nat → Int32) (bk : Nat → Int32) (sz : Nat) (d : Nat) (hd9 : d < 32) (hn : n ≤ 16) (hq : qn ≤ 16) : Met l yX2_goOnFrom wsX2_goOnFrom ({ frames := 3, cells := 0, slots := 0, locals := 66 }) (va_Pc [.ref qJ, .int (nI d)] (pW E [(qJ, .inr (2, [.ref qD, .ref qQ, .int (nI qn), .int sf, .int jI, .int jO])), (qQ, .inl (E.2.1, 16, .inl (fun w9 => nI (qu w9)))), (qD, .inr (0, [.ref qO, .ref qG, .ref qC, .ref qA, .ref qB, .int (nI n), .int (nI sp)])), (qO, .inl (E.2.1, 16, .inl (fun w9 => nI (ow w9)))), (qG, .inl (E.2.1, 16, .inl gf)), (qC, .inl (E.2.1, 16, .inl gc)), (qA, .inl (E.2.1, 16, .inl ak)), (qB, .inl (E.2.1, 3, .inl bk))] sz)) (va_Qv (fun (_ : Unit) => True) (fun _ => eW E (va_A [(qJ, .inr (2, [.ref qD, .ref qQ, .int (nI qn), .int sf, .int jI, .int jO])), (qQ, .inl (E.2.1, 16, .inl (fun w9 => nI (qu w9)))), (qD, .inr (0, [.ref qO, .ref qG, .ref qC, .ref qA, .ref qB, .int (nI n), .int (nI sp)])), (qO, .inl (E.2.1, 16, .inl (fun w9 => nI (ow w9)))), (qG, .inl (E.2.1, 16, .inl gf)), (qC, .inl (E.2.1, 16, .inl gc)), (qA, .inl (E.2.1, 16, .inl ak)), (qB, .inl (E.2.1, 3, .inl bk))] sz) [(qJ, .inr (2, [.ref qD, .ref qQ, .int (nI ((gO gf gc ak sf d (qu, qn, jI, jO) n).2.1)), .int sf, .int ((gO gf gc ak sf d (qu, qn, jI, jO) n).2.2.1), .int ((gO gf gc ak sf d (qu, qn, jI, jO) n).2.2.2)])), (qQ, .inl (E.2.1, 16, .inl (fun w9 => nI (((gO gf gc ak sf d (qu, qn, jI, jO) n).1) w9)))), (qD, .inr (0, [.ref qO, .ref qG, .ref qC, .ref qA, .ref qB, .int (nI n), .int (nI sp)])), (qO, .inl (E.2.1, 16, .inl (fun w9 => nI (ow w9)))), (qG, .inl (E.2.1, 16, .inl gf)), (qC, .inl (E.2.1, 16, .inl gc)), (qA, .inl (E.2.1, 16, .inl ak)), (qB, .inl (E.2.1, 3, .inl bk))]) (va_A [(qJ, .inr (2, [.ref qD, .ref qQ, .int (nI qn), .int sf, .int jI, .int jO])), (qQ, .inl (E.2.1, 16, .inl (fun w9 => nI (qu w9)))), (qD, .inr (0, [.ref qO, .ref qG, .ref qC, .ref qA, .ref qB, .int (nI n), .int (nI sp)])), (qO, .inl (E.2.1, 16, .inl (fun w9 => nI (ow w9)))), (qG, .inl (E.2.1, 16, .inl gf)), (qC, .inl (E.2.1, 16, .inl gc)), (qA, .inl (E.2.1, 16, .inl ak)), (qB, .inl (E.2.1, 3, .inl bk))] sz)) 0 0 (va_A [(qJ, .inr (2, [.ref qD, .ref qQ, .int (nI qn), .int sf, .int jI, .int jO])), (qQ, .inl (E.2.1, 16, .inl (fun w9 => nI (qu w9)))), (qD, .inr (0, [.ref qO, .ref qG, .ref qC, .ref qA, .ref qB, .int (nI n), .int (nI sp)])), (qO, .inl (E.2.1, 16, .inl (fun w9 => nI (ow w9)))), (qG, .inl (E.2.1, 16, .inl gf)), (qC, .inl (E.2.1, 16, .inl gc)), (qA, .inl (E.2.1, 16, .inl ak)), (qB, .inl (E.2.1, 3, .inl bk))] sz) := by
  refine Met.ofW (cc := cX2_goOnFrom) (maxL := 3) (ret := none) (by decide) rfl ?_
  intro p e s m args below meth c s₁ B hml hv
  obtain ⟨rfl, hsz, hP, hK, hD0⟩ := hv
  have hx := B.exec
  have hb := B.bytes
  have hr := B.returns
  have hts := atoms_spec (ws := wsX2_goOnFrom) B.pre
  have hown : s.vm.findClass RX2 = some m.cls := findClass_of_methodNamed B.named
  have hlocks := B.notSynchronized
  subst hsz
  have hD := hD0.self (sz := s.heap.size)
  generalize hAe : va_A [(qJ, .inr (2, [.ref qD, .ref qQ, .int (nI qn), .int sf, .int jI, .int jO])), (qQ, .inl (E.2.1, 16, .inl (fun w9 => nI (qu w9)))), (qD, .inr (0, [.ref qO, .ref qG, .ref qC, .ref qA, .ref qB, .int (nI n), .int (nI sp)])), (qO, .inl (E.2.1, 16, .inl (fun w9 => nI (ow w9)))), (qG, .inl (E.2.1, 16, .inl gf)), (qC, .inl (E.2.1, 16, .inl gc)), (qA, .inl (E.2.1, 16, .inl ak)), (qB, .inl (E.2.1, 3, .inl bk))] s.heap.size = A at hD ⊢
  have hA : ∀ q : Nat, s.heap.size ≤ q → A q := fun q h => by rw [← hAe]; exact Or.inr h
  have hS : va_S A s.heap s.heap [] := va_S.rf
  have hl := lv_entry ([.ref qJ, .int (nI d)]) (n := 3) (Nat.le_of_ble_eq_true rfl)
  rw [lg_entry_eq]
  generalize (lg_sl ([.ref qJ, .int (nI d)]) ++ List.replicate (3 - (lg_sl ([.ref qJ, .int (nI d)])).length) Slot.unset).toArray = ls at hl ⊢
  have hl : lv_has ls 3 [(0, .ref qJ), (1, .int (nI d))] := hl
  refine lv_iconst (v := 0) hx hb dX2_goOnFrom_0 (by decide) ?_
  refine lv_istore_n (lv' := [(2, .int 0), (0, .ref qJ), (1, .int (nI d))]) hx hb dX2_goOnFrom_1 rfl hl (by decide) rfl (fun ls hl => ?_)
  have loop2 : ∀ (z2 k : Nat), k ≤ n → n + 1 ≤ k + z2 → ∀ (H : Heap) (locs : List Loc), va_P E.1 vwCl [(qJ, .inr (2, [.ref qD, .ref qQ, .int (nI ((gO gf gc ak sf d (qu, qn, jI, jO) k).2.1)), .int sf, .int ((gO gf gc ak sf d (qu, qn, jI, jO) k).2.2.1), .int ((gO gf gc ak sf d (qu, qn, jI, jO) k).2.2.2)])), (qQ, .inl (E.2.1, 16, .inl (fun w9 => nI (((gO gf gc ak sf d (qu, qn, jI, jO) k).1) w9)))), (qD, .inr (0, [.ref qO, .ref qG, .ref qC, .ref qA, .ref qB, .int (nI n), .int (nI sp)])), (qO, .inl (E.2.1, 16, .inl (fun w9 => nI (ow w9)))), (qG, .inl (E.2.1, 16, .inl gf)), (qC, .inl (E.2.1, 16, .inl gc)), (qA, .inl (E.2.1, 16, .inl ak)), (qB, .inl (E.2.1, 3, .inl bk))] H → va_D A [(qJ, .inr (2, [.ref qD, .ref qQ, .int (nI ((gO gf gc ak sf d (qu, qn, jI, jO) k).2.1)), .int sf, .int ((gO gf gc ak sf d (qu, qn, jI, jO) k).2.2.1), .int ((gO gf gc ak sf d (qu, qn, jI, jO) k).2.2.2)])), (qQ, .inl (E.2.1, 16, .inl (fun w9 => nI (((gO gf gc ak sf d (qu, qn, jI, jO) k).1) w9)))), (qD, .inr (0, [.ref qO, .ref qG, .ref qC, .ref qA, .ref qB, .int (nI n), .int (nI sp)])), (qO, .inl (E.2.1, 16, .inl (fun w9 => nI (ow w9)))), (qG, .inl (E.2.1, 16, .inl gf)), (qC, .inl (E.2.1, 16, .inl gc)), (qA, .inl (E.2.1, 16, .inl ak)), (qB, .inl (E.2.1, 3, .inl bk))] → va_S A s.heap H locs → ∀ (ls : Array Slot), lv_has ls 3 [(0, .ref qJ), (1, .int (nI d)), (2, .int (nI k))] → W p l e (headSpec wsX2_goOnFrom ({ frames := 3, cells := 0, slots := 0, locals := 66 })).room s m ([.ref qJ, .int (nI d)] : List Value).toArray below meth c H locs 0 0 (MQ below (va_Qv (fun (_ : Unit) => True) (fun _ => eW E A [(qJ, .inr (2, [.ref qD, .ref qQ, .int (nI ((gO gf gc ak sf d (qu, qn, jI, jO) n).2.1)), .int sf, .int ((gO gf gc ak sf d (qu, qn, jI, jO) n).2.2.1), .int ((gO gf gc ak sf d (qu, qn, jI, jO) n).2.2.2)])), (qQ, .inl (E.2.1, 16, .inl (fun w9 => nI (((gO gf gc ak sf d (qu, qn, jI, jO) n).1) w9)))), (qD, .inr (0, [.ref qO, .ref qG, .ref qC, .ref qA, .ref qB, .int (nI n), .int (nI sp)])), (qO, .inl (E.2.1, 16, .inl (fun w9 => nI (ow w9)))), (qG, .inl (E.2.1, 16, .inl gf)), (qC, .inl (E.2.1, 16, .inl gc)), (qA, .inl (E.2.1, 16, .inl ak)), (qB, .inl (E.2.1, 3, .inl bk))]) A) ([.ref qJ, .int (nI d)] : List Value).toArray s 0 0 A) (F0 m 2 ls []) := by
    intro z2
    induction z2 with
    | zero =>
      intro k hk2 hz2
      exact absurd hz2 (by omega)
    | succ z2 ih2 =>
      intro k hk2 hz2  H locs hP hD hS ls hl
      refine lv_iload_n hx hb dX2_goOnFrom_2 rfl (lv_at hl 2 rfl) ?_
      refine lv_aload_n hx hb dX2_goOnFrom_3 rfl (lv_at hl 0 rfl) ?_
      refine va_get (D := E.1) (ci := 2) (v := .ref qD) (C := RX2) (T := TX2) (N := 6) hx hb hts (fun _ h => List.mem_cons_of_mem _ (List.mem_append_left _ (List.mem_append_right _ h))) hown hK.1 hP 0 rfl rfl 0 (by decide) (hts (.fieldLink RX2 9 "Quarrelboard$Judge" "debate" "LQuarrelboard$Debate;") (List.mem_of_getElem? (i := 1) rfl)) (fun _ h9 => h9) rfl dX2_goOnFrom_4 ?_
      refine cl_S (Wc := [(qD, .inr (0, [.ref qO, .ref qG, .ref qC, .ref qA, .ref qB, .int (nI n), .int (nI sp)])), (qO, .inl (E.2.1, 16, .inl (fun w9 => nI (ow w9)))), (qG, .inl (E.2.1, 16, .inl gf)), (qC, .inl (E.2.1, 16, .inl gc)), (qA, .inl (E.2.1, 16, .inl ak)), (qB, .inl (E.2.1, 3, .inl bk))]) (As := []) (rest := [.int (nI k)]) ⟨hx, hb, hml, hown, hts⟩ (c_X0_size l E qD qO qG qC qA qB n sp ow gf gc ak bk  ) (cwV 0 hts gX2_goOnFrom_X0_size rfl rfl rfl (by decide +kernel) ⟨Nat.le_of_ble_eq_true rfl, Nat.le_of_ble_eq_true rfl⟩) hK (hP.sub [2, 3, 4, 5, 6, 7] rfl) (va_recv hK.1 hP (ci := 0) (q0 := 2) rfl rfl) rfl hl.1 rfl (Nat.le_of_ble_eq_true rfl) dX2_goOnFrom_7 ⟨Nat.zero_le _, Nat.zero_le _⟩ ?_
      refine lv_icmp_ge (tgt := 36) hx hb dX2_goOnFrom_10 (by decide) (fun c_10 => ?_) (fun c_10 => ?_)
      · have c_10 : nI n ≤ nI k := c_10
        have c_10 := (nI_leI (a := n) (b := k) (by omega) (by omega)).mp c_10
        have hP9 : va_P E.1 vwCl [(qJ, .inr (2, [.ref qD, .ref qQ, .int (nI ((gO gf gc ak sf d (qu, qn, jI, jO) n).2.1)), .int sf, .int ((gO gf gc ak sf d (qu, qn, jI, jO) n).2.2.1), .int ((gO gf gc ak sf d (qu, qn, jI, jO) n).2.2.2)])), (qQ, .inl (E.2.1, 16, .inl (fun w9 => nI (((gO gf gc ak sf d (qu, qn, jI, jO) n).1) w9)))), (qD, .inr (0, [.ref qO, .ref qG, .ref qC, .ref qA, .ref qB, .int (nI n), .int (nI sp)])), (qO, .inl (E.2.1, 16, .inl (fun w9 => nI (ow w9)))), (qG, .inl (E.2.1, 16, .inl gf)), (qC, .inl (E.2.1, 16, .inl gc)), (qA, .inl (E.2.1, 16, .inl ak)), (qB, .inl (E.2.1, 3, .inl bk))] H := by rw [show (gO gf gc ak sf d (qu, qn, jI, jO) n) = (gO gf gc ak sf d (qu, qn, jI, jO) k) from by rw [show n = k from by omega]]; exact hP
        have hD9 : va_D A [(qJ, .inr (2, [.ref qD, .ref qQ, .int (nI ((gO gf gc ak sf d (qu, qn, jI, jO) n).2.1)), .int sf, .int ((gO gf gc ak sf d (qu, qn, jI, jO) n).2.2.1), .int ((gO gf gc ak sf d (qu, qn, jI, jO) n).2.2.2)])), (qQ, .inl (E.2.1, 16, .inl (fun w9 => nI (((gO gf gc ak sf d (qu, qn, jI, jO) n).1) w9)))), (qD, .inr (0, [.ref qO, .ref qG, .ref qC, .ref qA, .ref qB, .int (nI n), .int (nI sp)])), (qO, .inl (E.2.1, 16, .inl (fun w9 => nI (ow w9)))), (qG, .inl (E.2.1, 16, .inl gf)), (qC, .inl (E.2.1, 16, .inl gc)), (qA, .inl (E.2.1, 16, .inl ak)), (qB, .inl (E.2.1, 3, .inl bk))] := by rw [show (gO gf gc ak sf d (qu, qn, jI, jO) n) = (gO gf gc ak sf d (qu, qn, jI, jO) k) from by rw [show n = k from by omega]]; exact hD
        exact W.vret hx hb hr (fun t ht hW => ⟨⟨(), rfl, trivial, by rw [ht]; exact hP9, hD9⟩, hS.F ht⟩) hS.2.2 dX2_goOnFrom_36
      · have c_10 : ¬ (nI n ≤ nI k) := c_10
        have c_10 : ¬ (n ≤ k) := fun h9 => c_10 ((nI_leI (a := n) (b := k) (by omega) (by omega)).mpr h9)
        refine lv_aload_n hx hb dX2_goOnFrom_13 rfl (lv_at hl 0 rfl) ?_
        refine va_get (D := E.1) (ci := 2) (v := .ref qD) (C := RX2) (T := TX2) (N := 6) hx hb hts (fun _ h => List.mem_cons_of_mem _ (List.mem_append_left _ (List.mem_append_right _ h))) hown hK.1 hP 0 rfl rfl 0 (by decide) (hts (.fieldLink RX2 9 "Quarrelboard$Judge" "debate" "LQuarrelboard$Debate;") (List.mem_of_getElem? (i := 1) rfl)) (fun _ h9 => h9) rfl dX2_goOnFrom_14 ?_
        refine lv_iload_n hx hb dX2_goOnFrom_17 rfl (lv_at hl 2 rfl) ?_
        refine lv_iload_n hx hb dX2_goOnFrom_18 rfl (lv_at hl 1 rfl) ?_
        refine cl_S (Wc := [(qD, .inr (0, [.ref qO, .ref qG, .ref qC, .ref qA, .ref qB, .int (nI n), .int (nI sp)])), (qO, .inl (E.2.1, 16, .inl (fun w9 => nI (ow w9)))), (qG, .inl (E.2.1, 16, .inl gf)), (qC, .inl (E.2.1, 16, .inl gc)), (qA, .inl (E.2.1, 16, .inl ak)), (qB, .inl (E.2.1, 3, .inl bk))]) (As := [.int (nI k), .int (nI d)]) (rest := []) ⟨hx, hb, hml, hown, hts⟩ (c_X0_matters l E qD qO qG qC qA qB n sp ow gf gc ak bk k d (by omega) (by omega)) (cwV 2 hts gX2_goOnFrom_X0_matters rfl rfl rfl (by decide +kernel) ⟨Nat.le_of_ble_eq_true rfl, Nat.le_of_ble_eq_true rfl⟩) hK (hP.sub [2, 3, 4, 5, 6, 7] rfl) (va_recv hK.1 hP (ci := 0) (q0 := 2) rfl rfl) rfl hl.1 rfl (Nat.le_of_ble_eq_true rfl) dX2_goOnFrom_19 ⟨Nat.zero_le _, Nat.zero_le _⟩ ?_
        refine lv_if_eq (tgt := 30) hx hb dX2_goOnFrom_22 (by decide) (fun c_22 => ?_) (fun c_22 => ?_)
        · have c_22 := zI_f c_22
          refine lv_iinc (v := nI (k + 1)) (lv' := [(2, .int (nI (k + 1))), (0, .ref qJ), (1, .int (nI d))]) hx hb dX2_goOnFrom_30 hl (k := 2) rfl (nI_1 _) (by decide) rfl (fun ls hl => ?_)
          refine lv_goto (tgt := 2) hx hb dX2_goOnFrom_33 (by decide) ?_
          have hl : lv_has ls 3 [(0, .ref qJ), (1, .int (nI d)), (2, .int (nI (k + 1)))] := by exact lv_sub hl [1, 2, 0] rfl
          have hP : va_P E.1 vwCl [(qJ, .inr (2, [.ref qD, .ref qQ, .int (nI ((gO gf gc ak sf d (qu, qn, jI, jO) (k + 1)).2.1)), .int sf, .int ((gO gf gc ak sf d (qu, qn, jI, jO) (k + 1)).2.2.1), .int ((gO gf gc ak sf d (qu, qn, jI, jO) (k + 1)).2.2.2)])), (qQ, .inl (E.2.1, 16, .inl (fun w9 => nI (((gO gf gc ak sf d (qu, qn, jI, jO) (k + 1)).1) w9)))), (qD, .inr (0, [.ref qO, .ref qG, .ref qC, .ref qA, .ref qB, .int (nI n), .int (nI sp)])), (qO, .inl (E.2.1, 16, .inl (fun w9 => nI (ow w9)))), (qG, .inl (E.2.1, 16, .inl gf)), (qC, .inl (E.2.1, 16, .inl gc)), (qA, .inl (E.2.1, 16, .inl ak)), (qB, .inl (E.2.1, 3, .inl bk))] H := by rw [gO_f c_22]; exact hP
          have hD : va_D A [(qJ, .inr (2, [.ref qD, .ref qQ, .int (nI ((gO gf gc ak sf d (qu, qn, jI, jO) (k + 1)).2.1)), .int sf, .int ((gO gf gc ak sf d (qu, qn, jI, jO) (k + 1)).2.2.1), .int ((gO gf gc ak sf d (qu, qn, jI, jO) (k + 1)).2.2.2)])), (qQ, .inl (E.2.1, 16, .inl (fun w9 => nI (((gO gf gc ak sf d (qu, qn, jI, jO) (k + 1)).1) w9)))), (qD, .inr (0, [.ref qO, .ref qG, .ref qC, .ref qA, .ref qB, .int (nI n), .int (nI sp)])), (qO, .inl (E.2.1, 16, .inl (fun w9 => nI (ow w9)))), (qG, .inl (E.2.1, 16, .inl gf)), (qC, .inl (E.2.1, 16, .inl gc)), (qA, .inl (E.2.1, 16, .inl ak)), (qB, .inl (E.2.1, 3, .inl bk))] := by rw [gO_f c_22]; exact hD
          exact ih2 (k + 1) (by omega) (by omega)  _ _ hP hD hS ls hl
        · have c_22 := zI_t c_22
          refine lv_aload_n hx hb dX2_goOnFrom_25 rfl (lv_at hl 0 rfl) ?_
          refine lv_iload_n hx hb dX2_goOnFrom_26 rfl (lv_at hl 2 rfl) ?_
          refine cl_Wv (Wl := [(qJ, .inr (2, [.ref qD, .ref qQ, .int (nI ((gO gf gc ak sf d (qu, qn, jI, jO) k).2.1)), .int sf, .int ((gO gf gc ak sf d (qu, qn, jI, jO) k).2.2.1), .int ((gO gf gc ak sf d (qu, qn, jI, jO) k).2.2.2)])), (qQ, .inl (E.2.1, 16, .inl (fun w9 => nI (((gO gf gc ak sf d (qu, qn, jI, jO) k).1) w9)))), (qD, .inr (0, [.ref qO, .ref qG, .ref qC, .ref qA, .ref qB, .int (nI n), .int (nI sp)])), (qO, .inl (E.2.1, 16, .inl (fun w9 => nI (ow w9)))), (qG, .inl (E.2.1, 16, .inl gf)), (qC, .inl (E.2.1, 16, .inl gc)), (qA, .inl (E.2.1, 16, .inl ak)), (qB, .inl (E.2.1, 3, .inl bk))]) (Wc := [(qJ, .inr (2, [.ref qD, .ref qQ, .int (nI ((gO gf gc ak sf d (qu, qn, jI, jO) k).2.1)), .int sf, .int ((gO gf gc ak sf d (qu, qn, jI, jO) k).2.2.1), .int ((gO gf gc ak sf d (qu, qn, jI, jO) k).2.2.2)])), (qQ, .inl (E.2.1, 16, .inl (fun w9 => nI (((gO gf gc ak sf d (qu, qn, jI, jO) k).1) w9)))), (qD, .inr (0, [.ref qO, .ref qG, .ref qC, .ref qA, .ref qB, .int (nI n), .int (nI sp)])), (qO, .inl (E.2.1, 16, .inl (fun w9 => nI (ow w9)))), (qG, .inl (E.2.1, 16, .inl gf)), (qC, .inl (E.2.1, 16, .inl gc)), (qA, .inl (E.2.1, 16, .inl ak)), (qB, .inl (E.2.1, 3, .inl bk))]) (Wr := []) (W1 := [(qJ, .inr (2, [.ref qD, .ref qQ, .int (nI ((dQ gf gc ak sf k (((gO gf gc ak sf d (qu, qn, jI, jO) k).1), ((gO gf gc ak sf d (qu, qn, jI, jO) k).2.1), ((gO gf gc ak sf d (qu, qn, jI, jO) k).2.2.1), ((gO gf gc ak sf d (qu, qn, jI, jO) k).2.2.2))).2.1)), .int sf, .int ((dQ gf gc ak sf k (((gO gf gc ak sf d (qu, qn, jI, jO) k).1), ((gO gf gc ak sf d (qu, qn, jI, jO) k).2.1), ((gO gf gc ak sf d (qu, qn, jI, jO) k).2.2.1), ((gO gf gc ak sf d (qu, qn, jI, jO) k).2.2.2))).2.2.1), .int ((dQ gf gc ak sf k (((gO gf gc ak sf d (qu, qn, jI, jO) k).1), ((gO gf gc ak sf d (qu, qn, jI, jO) k).2.1), ((gO gf gc ak sf d (qu, qn, jI, jO) k).2.2.1), ((gO gf gc ak sf d (qu, qn, jI, jO) k).2.2.2))).2.2.2)])), (qQ, .inl (E.2.1, 16, .inl (fun w9 => nI (((dQ gf gc ak sf k (((gO gf gc ak sf d (qu, qn, jI, jO) k).1), ((gO gf gc ak sf d (qu, qn, jI, jO) k).2.1), ((gO gf gc ak sf d (qu, qn, jI, jO) k).2.2.1), ((gO gf gc ak sf d (qu, qn, jI, jO) k).2.2.2))).1) w9)))), (qD, .inr (0, [.ref qO, .ref qG, .ref qC, .ref qA, .ref qB, .int (nI n), .int (nI sp)])), (qO, .inl (E.2.1, 16, .inl (fun w9 => nI (ow w9)))), (qG, .inl (E.2.1, 16, .inl gf)), (qC, .inl (E.2.1, 16, .inl gc)), (qA, .inl (E.2.1, 16, .inl ak)), (qB, .inl (E.2.1, 3, .inl bk))]) (W2 := [(qJ, .inr (2, [.ref qD, .ref qQ, .int (nI ((dQ gf gc ak sf k (((gO gf gc ak sf d (qu, qn, jI, jO) k).1), ((gO gf gc ak sf d (qu, qn, jI, jO) k).2.1), ((gO gf gc ak sf d (qu, qn, jI, jO) k).2.2.1), ((gO gf gc ak sf d (qu, qn, jI, jO) k).2.2.2))).2.1)), .int sf, .int ((dQ gf gc ak sf k (((gO gf gc ak sf d (qu, qn, jI, jO) k).1), ((gO gf gc ak sf d (qu, qn, jI, jO) k).2.1), ((gO gf gc ak sf d (qu, qn, jI, jO) k).2.2.1), ((gO gf gc ak sf d (qu, qn, jI, jO) k).2.2.2))).2.2.1), .int ((dQ gf gc ak sf k (((gO gf gc ak sf d (qu, qn, jI, jO) k).1), ((gO gf gc ak sf d (qu, qn, jI, jO) k).2.1), ((gO gf gc ak sf d (qu, qn, jI, jO) k).2.2.1), ((gO gf gc ak sf d (qu, qn, jI, jO) k).2.2.2))).2.2.2)])), (qQ, .inl (E.2.1, 16, .inl (fun w9 => nI (((dQ gf gc ak sf k (((gO gf gc ak sf d (qu, qn, jI, jO) k).1), ((gO gf gc ak sf d (qu, qn, jI, jO) k).2.1), ((gO gf gc ak sf d (qu, qn, jI, jO) k).2.2.1), ((gO gf gc ak sf d (qu, qn, jI, jO) k).2.2.2))).1) w9)))), (qD, .inr (0, [.ref qO, .ref qG, .ref qC, .ref qA, .ref qB, .int (nI n), .int (nI sp)])), (qO, .inl (E.2.1, 16, .inl (fun w9 => nI (ow w9)))), (qG, .inl (E.2.1, 16, .inl gf)), (qC, .inl (E.2.1, 16, .inl gc)), (qA, .inl (E.2.1, 16, .inl ak)), (qB, .inl (E.2.1, 3, .inl bk))]) (As := [.int (nI k)]) (rest := []) ⟨hx, hb, hml, hown, hts⟩ (c_X2_decideAndQueue l E qJ qD qQ ((gO gf gc ak sf d (qu, qn, jI, jO) k).2.1) sf ((gO gf gc ak sf d (qu, qn, jI, jO) k).2.2.1) ((gO gf gc ak sf d (qu, qn, jI, jO) k).2.2.2) ((gO gf gc ak sf d (qu, qn, jI, jO) k).1) qO qG qC qA qB n sp ow gf gc ak bk H.size k (by omega) (gO_le hq k)) (cwV 1 hts gX2_goOnFrom_X2_decideAndQueue rfl rfl rfl (by decide +kernel) ⟨Nat.le_of_ble_eq_true rfl, Nat.le_of_ble_eq_true rfl⟩) hK hP hD hS hA [0, 1, 2, 3, 4, 5, 6, 7] [] [0, 1, 2, 3, 4, 5, 6, 7] rfl rfl (by decide) rfl (by decide) (by decide) rfl (by decide) (va_recv hK.1 hP (ci := 2) (q0 := 0) rfl rfl) rfl hl.1 rfl (Nat.le_of_ble_eq_true rfl) dX2_goOnFrom_27 ⟨Nat.zero_le _, Nat.zero_le _⟩ (fun H locs hP hD hS => ?_)
          refine lv_iinc (v := nI (k + 1)) (lv' := [(2, .int (nI (k + 1))), (0, .ref qJ), (1, .int (nI d))]) hx hb dX2_goOnFrom_30 hl (k := 2) rfl (nI_1 _) (by decide) rfl (fun ls hl => ?_)
          refine lv_goto (tgt := 2) hx hb dX2_goOnFrom_33 (by decide) ?_
          have hl : lv_has ls 3 [(0, .ref qJ), (1, .int (nI d)), (2, .int (nI (k + 1)))] := by exact lv_sub hl [1, 2, 0] rfl
          have hP : va_P E.1 vwCl [(qJ, .inr (2, [.ref qD, .ref qQ, .int (nI ((gO gf gc ak sf d (qu, qn, jI, jO) (k + 1)).2.1)), .int sf, .int ((gO gf gc ak sf d (qu, qn, jI, jO) (k + 1)).2.2.1), .int ((gO gf gc ak sf d (qu, qn, jI, jO) (k + 1)).2.2.2)])), (qQ, .inl (E.2.1, 16, .inl (fun w9 => nI (((gO gf gc ak sf d (qu, qn, jI, jO) (k + 1)).1) w9)))), (qD, .inr (0, [.ref qO, .ref qG, .ref qC, .ref qA, .ref qB, .int (nI n), .int (nI sp)])), (qO, .inl (E.2.1, 16, .inl (fun w9 => nI (ow w9)))), (qG, .inl (E.2.1, 16, .inl gf)), (qC, .inl (E.2.1, 16, .inl gc)), (qA, .inl (E.2.1, 16, .inl ak)), (qB, .inl (E.2.1, 3, .inl bk))] H := by rw [gO_t c_22]; exact hP
          have hD : va_D A [(qJ, .inr (2, [.ref qD, .ref qQ, .int (nI ((gO gf gc ak sf d (qu, qn, jI, jO) (k + 1)).2.1)), .int sf, .int ((gO gf gc ak sf d (qu, qn, jI, jO) (k + 1)).2.2.1), .int ((gO gf gc ak sf d (qu, qn, jI, jO) (k + 1)).2.2.2)])), (qQ, .inl (E.2.1, 16, .inl (fun w9 => nI (((gO gf gc ak sf d (qu, qn, jI, jO) (k + 1)).1) w9)))), (qD, .inr (0, [.ref qO, .ref qG, .ref qC, .ref qA, .ref qB, .int (nI n), .int (nI sp)])), (qO, .inl (E.2.1, 16, .inl (fun w9 => nI (ow w9)))), (qG, .inl (E.2.1, 16, .inl gf)), (qC, .inl (E.2.1, 16, .inl gc)), (qA, .inl (E.2.1, 16, .inl ak)), (qB, .inl (E.2.1, 3, .inl bk))] := by rw [gO_t c_22]; exact hD
          exact ih2 (k + 1) (by omega) (by omega)  _ _ hP hD hS ls hl
  have hl : lv_has ls 3 [(0, .ref qJ), (1, .int (nI d)), (2, .int (nI 0))] := by exact lv_sub hl [1, 2, 0] rfl
  have hP : va_P E.1 vwCl [(qJ, .inr (2, [.ref qD, .ref qQ, .int (nI ((gO gf gc ak sf d (qu, qn, jI, jO) 0).2.1)), .int sf, .int ((gO gf gc ak sf d (qu, qn, jI, jO) 0).2.2.1), .int ((gO gf gc ak sf d (qu, qn, jI, jO) 0).2.2.2)])), (qQ, .inl (E.2.1, 16, .inl (fun w9 => nI (((gO gf gc ak sf d (qu, qn, jI, jO) 0).1) w9)))), (qD, .inr (0, [.ref qO, .ref qG, .ref qC, .ref qA, .ref qB, .int (nI n), .int (nI sp)])), (qO, .inl (E.2.1, 16, .inl (fun w9 => nI (ow w9)))), (qG, .inl (E.2.1, 16, .inl gf)), (qC, .inl (E.2.1, 16, .inl gc)), (qA, .inl (E.2.1, 16, .inl ak)), (qB, .inl (E.2.1, 3, .inl bk))] s.heap := by exact hP
  have hD : va_D A [(qJ, .inr (2, [.ref qD, .ref qQ, .int (nI ((gO gf gc ak sf d (qu, qn, jI, jO) 0).2.1)), .int sf, .int ((gO gf gc ak sf d (qu, qn, jI, jO) 0).2.2.1), .int ((gO gf gc ak sf d (qu, qn, jI, jO) 0).2.2.2)])), (qQ, .inl (E.2.1, 16, .inl (fun w9 => nI (((gO gf gc ak sf d (qu, qn, jI, jO) 0).1) w9)))), (qD, .inr (0, [.ref qO, .ref qG, .ref qC, .ref qA, .ref qB, .int (nI n), .int (nI sp)])), (qO, .inl (E.2.1, 16, .inl (fun w9 => nI (ow w9)))), (qG, .inl (E.2.1, 16, .inl gf)), (qC, .inl (E.2.1, 16, .inl gc)), (qA, .inl (E.2.1, 16, .inl ak)), (qB, .inl (E.2.1, 3, .inl bk))] := by exact hD
  exact loop2 (n + 1) 0 (by omega) (by omega)  _ _ hP hD hS ls hl
set_option maxHeartbeats 4000000 in
set_option maxRecDepth 100000 in
theorem c_X2_decideByGoingOn (l : Launch) (E : gE) (qJ : Nat) (qD : Nat) (qQ : Nat) (qn : Nat) (sf : Int32) (jI : Int32) (jO : Int32) (qu : Nat → Nat) (qO : Nat) (qG : Nat) (qC : Nat) (qA : Nat) (qB : Nat) (n : Nat) (sp : Nat) (ow : Nat → Nat) (gf : Nat → Int32) (gc : Nat → Int32) (ak : Nat → Int32) (bk : Nat → Int32) (sz : Nat) (f : Int32) (hn : n ≤ 16) : Met l yX2_decideByGoingOn wsX2_decideByGoingOn ({ frames := 4, cells := 0, slots := 0, locals := 88 }) (va_Pc [.ref qJ, .int f] (pW E [(qJ, .inr (2, [.ref qD, .ref qQ, .int (nI qn), .int sf, .int jI, .int jO])), (qQ, .inl (E.2.1, 16, .inl (fun w9 => nI (qu w9)))), (qD, .inr (0, [.ref qO, .ref qG, .ref qC, .ref qA, .ref qB, .int (nI n), .int (nI sp)])), (qO, .inl (E.2.1, 16, .inl (fun w9 => nI (ow w9)))), (qG, .inl (E.2.1, 16, .inl gf)), (qC, .inl (E.2.1, 16, .inl gc)), (qA, .inl (E.2.1, 16, .inl ak)), (qB, .inl (E.2.1, 3, .inl bk))] sz)) (va_Qv (fun (_ : Unit) => True) (fun _ => eW E (va_A [(qJ, .inr (2, [.ref qD, .ref qQ, .int (nI qn), .int sf, .int jI, .int jO])), (qQ, .inl (E.2.1, 16, .inl (fun w9 => nI (qu w9)))), (qD, .inr (0, [.ref qO, .ref qG, .ref qC, .ref qA, .ref qB, .int (nI n), .int (nI sp)])), (qO, .inl (E.2.1, 16, .inl (fun w9 => nI (ow w9)))), (qG, .inl (E.2.1, 16, .inl gf)), (qC, .inl (E.2.1, 16, .inl gc)), (qA, .inl (E.2.1, 16, .inl ak)), (qB, .inl (E.2.1, 3, .inl bk))] sz) [(qJ, .inr (2, [.ref qD, .ref qQ, .int (nI ((jG gf gc ak f n qu).2.1)), .int f, .int ((jG gf gc ak f n qu).2.2.1), .int ((jG gf gc ak f n qu).2.2.2)])), (qQ, .inl (E.2.1, 16, .inl (fun w9 => nI (((jG gf gc ak f n qu).1) w9)))), (qD, .inr (0, [.ref qO, .ref qG, .ref qC, .ref qA, .ref qB, .int (nI n), .int (nI sp)])), (qO, .inl (E.2.1, 16, .inl (fun w9 => nI (ow w9)))), (qG, .inl (E.2.1, 16, .inl gf)), (qC, .inl (E.2.1, 16, .inl gc)), (qA, .inl (E.2.1, 16, .inl ak)), (qB, .inl (E.2.1, 3, .inl bk))]) (va_A [(qJ, .inr (2, [.ref qD, .ref qQ, .int (nI qn), .int sf, .int jI, .int jO])), (qQ, .inl (E.2.1, 16, .inl (fun w9 => nI (qu w9)))), (qD, .inr (0, [.ref qO, .ref qG, .ref qC, .ref qA, .ref qB, .int (nI n), .int (nI sp)])), (qO, .inl (E.2.1, 16, .inl (fun w9 => nI (ow w9)))), (qG, .inl (E.2.1, 16, .inl gf)), (qC, .inl (E.2.1, 16, .inl gc)), (qA, .inl (E.2.1, 16, .inl ak)), (qB, .inl (E.2.1, 3, .inl bk))] sz)) 0 0 (va_A [(qJ, .inr (2, [.ref qD, .ref qQ, .int (nI qn), .int sf, .int jI, .int jO])), (qQ, .inl (E.2.1, 16, .inl (fun w9 => nI (qu w9)))), (qD, .inr (0, [.ref qO, .ref qG, .ref qC, .ref qA, .ref qB, .int (nI n), .int (nI sp)])), (qO, .inl (E.2.1, 16, .inl (fun w9 => nI (ow w9)))), (qG, .inl (E.2.1, 16, .inl gf)), (qC, .inl (E.2.1, 16, .inl gc)), (qA, .inl (E.2.1, 16, .inl ak)), (qB, .inl (E.2.1, 3, .inl bk))] sz) := by
  refine Met.ofW (cc := cX2_decideByGoingOn) (maxL := 3) (ret := none) (by decide) rfl ?_
  intro p e s m args below meth c s₁ B hml hv
  obtain ⟨rfl, hsz, hP, hK, hD0⟩ := hv
  have hx := B.exec
  have hb := B.bytes
  have hr := B.returns
  have hts := atoms_spec (ws := wsX2_decideByGoingOn) B.pre
  have hown : s.vm.findClass RX2 = some m.cls := findClass_of_methodNamed B.named
  have hlocks := B.notSynchronized
  subst hsz
  have hD := hD0.self (sz := s.heap.size)
  generalize hAe : va_A [(qJ, .inr (2, [.ref qD, .ref qQ, .int (nI qn), .int sf, .int jI, .int jO])), (qQ, .inl (E.2.1, 16, .inl (fun w9 => nI (qu w9)))), (qD, .inr (0, [.ref qO, .ref qG, .ref qC, .ref qA, .ref qB, .int (nI n), .int (nI sp)])), (qO, .inl (E.2.1, 16, .inl (fun w9 => nI (ow w9)))), (qG, .inl (E.2.1, 16, .inl gf)), (qC, .inl (E.2.1, 16, .inl gc)), (qA, .inl (E.2.1, 16, .inl ak)), (qB, .inl (E.2.1, 3, .inl bk))] s.heap.size = A at hD ⊢
  have hA : ∀ q : Nat, s.heap.size ≤ q → A q := fun q h => by rw [← hAe]; exact Or.inr h
  have hS : va_S A s.heap s.heap [] := va_S.rf
  have hl := lv_entry ([.ref qJ, .int f]) (n := 3) (Nat.le_of_ble_eq_true rfl)
  rw [lg_entry_eq]
  generalize (lg_sl ([.ref qJ, .int f]) ++ List.replicate (3 - (lg_sl ([.ref qJ, .int f])).length) Slot.unset).toArray = ls at hl ⊢
  have hl : lv_has ls 3 [(0, .ref qJ), (1, .int f)] := hl
  refine lv_aload_n hx hb dX2_decideByGoingOn_0 rfl (lv_at hl 0 rfl) ?_
  refine lv_iload_n hx hb dX2_decideByGoingOn_1 rfl (lv_at hl 1 rfl) ?_
  refine cl_Wv (Wl := [(qJ, .inr (2, [.ref qD, .ref qQ, .int (nI qn), .int sf, .int jI, .int jO])), (qQ, .inl (E.2.1, 16, .inl (fun w9 => nI (qu w9)))), (qD, .inr (0, [.ref qO, .ref qG, .ref qC, .ref qA, .ref qB, .int (nI n), .int (nI sp)])), (qO, .inl (E.2.1, 16, .inl (fun w9 => nI (ow w9)))), (qG, .inl (E.2.1, 16, .inl gf)), (qC, .inl (E.2.1, 16, .inl gc)), (qA, .inl (E.2.1, 16, .inl ak)), (qB, .inl (E.2.1, 3, .inl bk))]) (Wc := [(qJ, .inr (2, [.ref qD, .ref qQ, .int (nI qn), .int sf, .int jI, .int jO])), (qQ, .inl (E.2.1, 16, .inl (fun w9 => nI (qu w9)))), (qD, .inr (0, [.ref qO, .ref qG, .ref qC, .ref qA, .ref qB, .int (nI n), .int (nI sp)])), (qO, .inl (E.2.1, 16, .inl (fun w9 => nI (ow w9)))), (qG, .inl (E.2.1, 16, .inl gf)), (qC, .inl (E.2.1, 16, .inl gc)), (qA, .inl (E.2.1, 16, .inl ak)), (qB, .inl (E.2.1, 3, .inl bk))]) (Wr := []) (W1 := [(qJ, .inr (2, [.ref qD, .ref qQ, .int (nI 0), .int f, .int 0, .int 0])), (qQ, .inl (E.2.1, 16, .inl (fun w9 => nI (qu w9)))), (qD, .inr (0, [.ref qO, .ref qG, .ref qC, .ref qA, .ref qB, .int (nI n), .int (nI sp)])), (qO, .inl (E.2.1, 16, .inl (fun w9 => nI (ow w9)))), (qG, .inl (E.2.1, 16, .inl gf)), (qC, .inl (E.2.1, 16, .inl gc)), (qA, .inl (E.2.1, 16, .inl ak)), (qB, .inl (E.2.1, 3, .inl bk))]) (W2 := [(qJ, .inr (2, [.ref qD, .ref qQ, .int (nI 0), .int f, .int 0, .int 0])), (qQ, .inl (E.2.1, 16, .inl (fun w9 => nI (qu w9)))), (qD, .inr (0, [.ref qO, .ref qG, .ref qC, .ref qA, .ref qB, .int (nI n), .int (nI sp)])), (qO, .inl (E.2.1, 16, .inl (fun w9 => nI (ow w9)))), (qG, .inl (E.2.1, 16, .inl gf)), (qC, .inl (E.2.1, 16, .inl gc)), (qA, .inl (E.2.1, 16, .inl ak)), (qB, .inl (E.2.1, 3, .inl bk))]) (As := [.int f]) (rest := []) ⟨hx, hb, hml, hown, hts⟩ (c_X2_openAll l E qJ qD qQ qn sf jI jO qu qO qG qC qA qB n sp ow gf gc ak bk s.heap.size f ) (cwV 1 hts gX2_decideByGoingOn_X2_openAll rfl rfl rfl (by decide +kernel) ⟨Nat.le_of_ble_eq_true rfl, Nat.le_of_ble_eq_true rfl⟩) hK hP hD hS hA [0, 1, 2, 3, 4, 5, 6, 7] [] [0, 1, 2, 3, 4, 5, 6, 7] rfl rfl (by decide) rfl (by decide) (by decide) rfl (by decide) (va_recv hK.1 hP (ci := 2) (q0 := 0) rfl rfl) rfl hl.1 rfl (Nat.le_of_ble_eq_true rfl) dX2_decideByGoingOn_2 ⟨Nat.zero_le _, Nat.zero_le _⟩ (fun H locs hP hD hS => ?_)
  refine lv_iconst (v := 0) hx hb dX2_decideByGoingOn_5 (by decide) ?_
  refine lv_istore_n (lv' := [(2, .int 0), (0, .ref qJ), (1, .int f)]) hx hb dX2_decideByGoingOn_6 rfl hl (by decide) rfl (fun ls hl => ?_)
  have loop7 : ∀ (z7 k : Nat), k ≤ n → n + 1 ≤ k + z7 → ∀ (H : Heap) (locs : List Loc), va_P E.1 vwCl [(qJ, .inr (2, [.ref qD, .ref qQ, .int (nI ((aQ gf gc ak f qu k).2.1)), .int f, .int ((aQ gf gc ak f qu k).2.2.1), .int ((aQ gf gc ak f qu k).2.2.2)])), (qQ, .inl (E.2.1, 16, .inl (fun w9 => nI (((aQ gf gc ak f qu k).1) w9)))), (qD, .inr (0, [.ref qO, .ref qG, .ref qC, .ref qA, .ref qB, .int (nI n), .int (nI sp)])), (qO, .inl (E.2.1, 16, .inl (fun w9 => nI (ow w9)))), (qG, .inl (E.2.1, 16, .inl gf)), (qC, .inl (E.2.1, 16, .inl gc)), (qA, .inl (E.2.1, 16, .inl ak)), (qB, .inl (E.2.1, 3, .inl bk))] H → va_D A [(qJ, .inr (2, [.ref qD, .ref qQ, .int (nI ((aQ gf gc ak f qu k).2.1)), .int f, .int ((aQ gf gc ak f qu k).2.2.1), .int ((aQ gf gc ak f qu k).2.2.2)])), (qQ, .inl (E.2.1, 16, .inl (fun w9 => nI (((aQ gf gc ak f qu k).1) w9)))), (qD, .inr (0, [.ref qO, .ref qG, .ref qC, .ref qA, .ref qB, .int (nI n), .int (nI sp)])), (qO, .inl (E.2.1, 16, .inl (fun w9 => nI (ow w9)))), (qG, .inl (E.2.1, 16, .inl gf)), (qC, .inl (E.2.1, 16, .inl gc)), (qA, .inl (E.2.1, 16, .inl ak)), (qB, .inl (E.2.1, 3, .inl bk))] → va_S A s.heap H locs → ∀ (ls : Array Slot), lv_has ls 3 [(0, .ref qJ), (1, .int f), (2, .int (nI k))] → W p l e (headSpec wsX2_decideByGoingOn ({ frames := 4, cells := 0, slots := 0, locals := 88 })).room s m ([.ref qJ, .int f] : List Value).toArray below meth c H locs 0 0 (MQ below (va_Qv (fun (_ : Unit) => True) (fun _ => eW E A [(qJ, .inr (2, [.ref qD, .ref qQ, .int (nI ((jG gf gc ak f n qu).2.1)), .int f, .int ((jG gf gc ak f n qu).2.2.1), .int ((jG gf gc ak f n qu).2.2.2)])), (qQ, .inl (E.2.1, 16, .inl (fun w9 => nI (((jG gf gc ak f n qu).1) w9)))), (qD, .inr (0, [.ref qO, .ref qG, .ref qC, .ref qA, .ref qB, .int (nI n), .int (nI sp)])), (qO, .inl (E.2.1, 16, .inl (fun w9 => nI (ow w9)))), (qG, .inl (E.2.1, 16, .inl gf)), (qC, .inl (E.2.1, 16, .inl gc)), (qA, .inl (E.2.1, 16, .inl ak)), (qB, .inl (E.2.1, 3, .inl bk))]) A) ([.ref qJ, .int f] : List Value).toArray s 0 0 A) (F0 m 7 ls []) := by
    intro z7
    induction z7 with
    | zero =>
      intro k hk7 hz7
      exact absurd hz7 (by omega)
    | succ z7 ih7 =>
      intro k hk7 hz7  H locs hP hD hS ls hl
      refine lv_iload_n hx hb dX2_decideByGoingOn_7 rfl (lv_at hl 2 rfl) ?_
      refine lv_aload_n hx hb dX2_decideByGoingOn_8 rfl (lv_at hl 0 rfl) ?_
      refine va_get (D := E.1) (ci := 2) (v := .ref qD) (C := RX2) (T := TX2) (N := 6) hx hb hts (fun _ h => List.mem_cons_of_mem _ (List.mem_append_left _ (List.mem_append_right _ h))) hown hK.1 hP 0 rfl rfl 0 (by decide) (hts (.fieldLink RX2 9 "Quarrelboard$Judge" "debate" "LQuarrelboard$Debate;") (List.mem_of_getElem? (i := 1) rfl)) (fun _ h9 => h9) rfl dX2_decideByGoingOn_9 ?_
      refine cl_S (Wc := [(qD, .inr (0, [.ref qO, .ref qG, .ref qC, .ref qA, .ref qB, .int (nI n), .int (nI sp)])), (qO, .inl (E.2.1, 16, .inl (fun w9 => nI (ow w9)))), (qG, .inl (E.2.1, 16, .inl gf)), (qC, .inl (E.2.1, 16, .inl gc)), (qA, .inl (E.2.1, 16, .inl ak)), (qB, .inl (E.2.1, 3, .inl bk))]) (As := []) (rest := [.int (nI k)]) ⟨hx, hb, hml, hown, hts⟩ (c_X0_size l E qD qO qG qC qA qB n sp ow gf gc ak bk  ) (cwV 0 hts gX2_decideByGoingOn_X0_size rfl rfl rfl (by decide +kernel) ⟨Nat.le_of_ble_eq_true rfl, Nat.le_of_ble_eq_true rfl⟩) hK (hP.sub [2, 3, 4, 5, 6, 7] rfl) (va_recv hK.1 hP (ci := 0) (q0 := 2) rfl rfl) rfl hl.1 rfl (Nat.le_of_ble_eq_true rfl) dX2_decideByGoingOn_12 ⟨Nat.zero_le _, Nat.zero_le _⟩ ?_
      refine lv_icmp_ge (tgt := 29) hx hb dX2_decideByGoingOn_15 (by decide) (fun c_15 => ?_) (fun c_15 => ?_)
      · have c_15 : nI n ≤ nI k := c_15
        have c_15 := (nI_leI (a := n) (b := k) (by omega) (by omega)).mp c_15
        refine lv_iconst (v := 0) hx hb dX2_decideByGoingOn_29 (by decide) ?_
        refine lv_istore_n (lv' := [(2, .int 0), (0, .ref qJ), (1, .int f)]) hx hb dX2_decideByGoingOn_30 rfl hl (by decide) rfl (fun ls hl => ?_)
        have loop31 : ∀ (z31 h : Nat), h ≤ 16 → 16 + 1 ≤ h + z31 → ∀ (j : jT), (hQ gf gc ak f n (16 - h) h j = (jG gf gc ak f n qu)) → (j.2.1 ≤ 16) → (∀ i, i < j.2.1 → j.1 i < 16) → ∀ (H : Heap) (locs : List Loc), va_P E.1 vwCl [(qJ, .inr (2, [.ref qD, .ref qQ, .int (nI j.2.1), .int f, .int j.2.2.1, .int j.2.2.2])), (qQ, .inl (E.2.1, 16, .inl (fun w9 => nI (j.1 w9)))), (qD, .inr (0, [.ref qO, .ref qG, .ref qC, .ref qA, .ref qB, .int (nI n), .int (nI sp)])), (qO, .inl (E.2.1, 16, .inl (fun w9 => nI (ow w9)))), (qG, .inl (E.2.1, 16, .inl gf)), (qC, .inl (E.2.1, 16, .inl gc)), (qA, .inl (E.2.1, 16, .inl ak)), (qB, .inl (E.2.1, 3, .inl bk))] H → va_D A [(qJ, .inr (2, [.ref qD, .ref qQ, .int (nI j.2.1), .int f, .int j.2.2.1, .int j.2.2.2])), (qQ, .inl (E.2.1, 16, .inl (fun w9 => nI (j.1 w9)))), (qD, .inr (0, [.ref qO, .ref qG, .ref qC, .ref qA, .ref qB, .int (nI n), .int (nI sp)])), (qO, .inl (E.2.1, 16, .inl (fun w9 => nI (ow w9)))), (qG, .inl (E.2.1, 16, .inl gf)), (qC, .inl (E.2.1, 16, .inl gc)), (qA, .inl (E.2.1, 16, .inl ak)), (qB, .inl (E.2.1, 3, .inl bk))] → va_S A s.heap H locs → ∀ (ls : Array Slot), lv_has ls 3 [(0, .ref qJ), (1, .int f), (2, .int (nI h))] → W p l e (headSpec wsX2_decideByGoingOn ({ frames := 4, cells := 0, slots := 0, locals := 88 })).room s m ([.ref qJ, .int f] : List Value).toArray below meth c H locs 0 0 (MQ below (va_Qv (fun (_ : Unit) => True) (fun _ => eW E A [(qJ, .inr (2, [.ref qD, .ref qQ, .int (nI ((jG gf gc ak f n qu).2.1)), .int f, .int ((jG gf gc ak f n qu).2.2.1), .int ((jG gf gc ak f n qu).2.2.2)])), (qQ, .inl (E.2.1, 16, .inl (fun w9 => nI (((jG gf gc ak f n qu).1) w9)))), (qD, .inr (0, [.ref qO, .ref qG, .ref qC, .ref qA, .ref qB, .int (nI n), .int (nI sp)])), (qO, .inl (E.2.1, 16, .inl (fun w9 => nI (ow w9)))), (qG, .inl (E.2.1, 16, .inl gf)), (qC, .inl (E.2.1, 16, .inl gc)), (qA, .inl (E.2.1, 16, .inl ak)), (qB, .inl (E.2.1, 3, .inl bk))]) A) ([.ref qJ, .int f] : List Value).toArray s 0 0 A) (F0 m 31 ls []) := by
          intro z31
          induction z31 with
          | zero =>
            intro h hk31 hz31
            exact absurd hz31 (by omega)
          | succ z31 ih31 =>
            intro h hk31 hz31 j hj hj1 hj2 H locs hP hD hS ls hl
            refine lv_iload_n hx hb dX2_decideByGoingOn_31 rfl (lv_at hl 2 rfl) ?_
            refine lv_aload_n hx hb dX2_decideByGoingOn_32 rfl (lv_at hl 0 rfl) ?_
            refine va_get (D := E.1) (ci := 2) (v := .int (nI j.2.1)) (C := RX2) (T := TX2) (N := 6) hx hb hts (fun _ h => List.mem_cons_of_mem _ (List.mem_append_left _ (List.mem_append_right _ h))) hown hK.1 hP 0 rfl rfl 2 (by decide) (hts (.fieldLink RX2 19 "Quarrelboard$Judge" "queued" "I") (List.mem_of_getElem? (i := 2) rfl)) (fun _ h9 => h9) rfl dX2_decideByGoingOn_33 ?_
            refine lv_icmp_ge (tgt := 61) hx hb dX2_decideByGoingOn_36 (by decide) (fun c_36 => ?_) (fun c_36 => ?_)
            · have c_36 : nI j.2.1 ≤ nI h := c_36
              have c_36 := (nI_leI (a := j.2.1) (b := h) (by omega) (by omega)).mp c_36
              have hP9 : va_P E.1 vwCl [(qJ, .inr (2, [.ref qD, .ref qQ, .int (nI ((jG gf gc ak f n qu).2.1)), .int f, .int ((jG gf gc ak f n qu).2.2.1), .int ((jG gf gc ak f n qu).2.2.2)])), (qQ, .inl (E.2.1, 16, .inl (fun w9 => nI (((jG gf gc ak f n qu).1) w9)))), (qD, .inr (0, [.ref qO, .ref qG, .ref qC, .ref qA, .ref qB, .int (nI n), .int (nI sp)])), (qO, .inl (E.2.1, 16, .inl (fun w9 => nI (ow w9)))), (qG, .inl (E.2.1, 16, .inl gf)), (qC, .inl (E.2.1, 16, .inl gc)), (qA, .inl (E.2.1, 16, .inl ak)), (qB, .inl (E.2.1, 3, .inl bk))] H := by rw [← hj, hQ_stop c_36]; exact hP
              have hD9 : va_D A [(qJ, .inr (2, [.ref qD, .ref qQ, .int (nI ((jG gf gc ak f n qu).2.1)), .int f, .int ((jG gf gc ak f n qu).2.2.1), .int ((jG gf gc ak f n qu).2.2.2)])), (qQ, .inl (E.2.1, 16, .inl (fun w9 => nI (((jG gf gc ak f n qu).1) w9)))), (qD, .inr (0, [.ref qO, .ref qG, .ref qC, .ref qA, .ref qB, .int (nI n), .int (nI sp)])), (qO, .inl (E.2.1, 16, .inl (fun w9 => nI (ow w9)))), (qG, .inl (E.2.1, 16, .inl gf)), (qC, .inl (E.2.1, 16, .inl gc)), (qA, .inl (E.2.1, 16, .inl ak)), (qB, .inl (E.2.1, 3, .inl bk))] := by rw [← hj, hQ_stop c_36]; exact hD
              exact W.vret hx hb hr (fun t ht hW => ⟨⟨(), rfl, trivial, by rw [ht]; exact hP9, hD9⟩, hS.F ht⟩) hS.2.2 dX2_decideByGoingOn_61
            · have c_36 : ¬ (nI j.2.1 ≤ nI h) := c_36
              have c_36 : ¬ (j.2.1 ≤ h) := fun h9 => c_36 ((nI_leI (a := j.2.1) (b := h) (by omega) (by omega)).mpr h9)
              refine lv_iload_n hx hb dX2_decideByGoingOn_39 rfl (lv_at hl 2 rfl) ?_
              refine lv_bipush (v := 16) hx hb dX2_decideByGoingOn_40 (by decide) ?_
              refine lv_icmp_ge (tgt := 61) hx hb dX2_decideByGoingOn_42 (by decide) (fun c_42 => ?_) (fun c_42 => ?_)
              · have c_42 : nI 16 ≤ nI h := c_42
                have c_42 := (nI_leI (a := 16) (b := h) (by omega) (by omega)).mp c_42
                have hP9 : va_P E.1 vwCl [(qJ, .inr (2, [.ref qD, .ref qQ, .int (nI ((jG gf gc ak f n qu).2.1)), .int f, .int ((jG gf gc ak f n qu).2.2.1), .int ((jG gf gc ak f n qu).2.2.2)])), (qQ, .inl (E.2.1, 16, .inl (fun w9 => nI (((jG gf gc ak f n qu).1) w9)))), (qD, .inr (0, [.ref qO, .ref qG, .ref qC, .ref qA, .ref qB, .int (nI n), .int (nI sp)])), (qO, .inl (E.2.1, 16, .inl (fun w9 => nI (ow w9)))), (qG, .inl (E.2.1, 16, .inl gf)), (qC, .inl (E.2.1, 16, .inl gc)), (qA, .inl (E.2.1, 16, .inl ak)), (qB, .inl (E.2.1, 3, .inl bk))] H := by rw [← hj, hQ_end c_42]; exact hP
                have hD9 : va_D A [(qJ, .inr (2, [.ref qD, .ref qQ, .int (nI ((jG gf gc ak f n qu).2.1)), .int f, .int ((jG gf gc ak f n qu).2.2.1), .int ((jG gf gc ak f n qu).2.2.2)])), (qQ, .inl (E.2.1, 16, .inl (fun w9 => nI (((jG gf gc ak f n qu).1) w9)))), (qD, .inr (0, [.ref qO, .ref qG, .ref qC, .ref qA, .ref qB, .int (nI n), .int (nI sp)])), (qO, .inl (E.2.1, 16, .inl (fun w9 => nI (ow w9)))), (qG, .inl (E.2.1, 16, .inl gf)), (qC, .inl (E.2.1, 16, .inl gc)), (qA, .inl (E.2.1, 16, .inl ak)), (qB, .inl (E.2.1, 3, .inl bk))] := by rw [← hj, hQ_end c_42]; exact hD
                exact W.vret hx hb hr (fun t ht hW => ⟨⟨(), rfl, trivial, by rw [ht]; exact hP9, hD9⟩, hS.F ht⟩) hS.2.2 dX2_decideByGoingOn_61
              · have c_42 : ¬ (nI 16 ≤ nI h) := c_42
                have c_42 : ¬ (16 ≤ h) := fun h9 => c_42 ((nI_leI (a := 16) (b := h) (by omega) (by omega)).mpr h9)
                refine lv_aload_n hx hb dX2_decideByGoingOn_45 rfl (lv_at hl 0 rfl) ?_
                refine lv_aload_n hx hb dX2_decideByGoingOn_46 rfl (lv_at hl 0 rfl) ?_
                refine va_get (D := E.1) (ci := 2) (v := .ref qQ) (C := RX2) (T := TX2) (N := 6) hx hb hts (fun _ h => List.mem_cons_of_mem _ (List.mem_append_left _ (List.mem_append_right _ h))) hown hK.1 hP 0 rfl rfl 1 (by decide) (hts (.fieldLink RX2 15 "Quarrelboard$Judge" "queue" "[I") (List.mem_of_getElem? (i := 3) rfl)) (fun _ h9 => h9) rfl dX2_decideByGoingOn_47 ?_
                refine lv_iload_n hx hb dX2_decideByGoingOn_50 rfl (lv_at hl 2 rfl) ?_
                refine k_ialdN hx hb hK hP 1 (f := j.1) h rfl (by omega) (by decide) dX2_decideByGoingOn_51 ?_
                refine cl_Wv (Wl := [(qJ, .inr (2, [.ref qD, .ref qQ, .int (nI j.2.1), .int f, .int j.2.2.1, .int j.2.2.2])), (qQ, .inl (E.2.1, 16, .inl (fun w9 => nI (j.1 w9)))), (qD, .inr (0, [.ref qO, .ref qG, .ref qC, .ref qA, .ref qB, .int (nI n), .int (nI sp)])), (qO, .inl (E.2.1, 16, .inl (fun w9 => nI (ow w9)))), (qG, .inl (E.2.1, 16, .inl gf)), (qC, .inl (E.2.1, 16, .inl gc)), (qA, .inl (E.2.1, 16, .inl ak)), (qB, .inl (E.2.1, 3, .inl bk))]) (Wc := [(qJ, .inr (2, [.ref qD, .ref qQ, .int (nI j.2.1), .int f, .int j.2.2.1, .int j.2.2.2])), (qQ, .inl (E.2.1, 16, .inl (fun w9 => nI (j.1 w9)))), (qD, .inr (0, [.ref qO, .ref qG, .ref qC, .ref qA, .ref qB, .int (nI n), .int (nI sp)])), (qO, .inl (E.2.1, 16, .inl (fun w9 => nI (ow w9)))), (qG, .inl (E.2.1, 16, .inl gf)), (qC, .inl (E.2.1, 16, .inl gc)), (qA, .inl (E.2.1, 16, .inl ak)), (qB, .inl (E.2.1, 3, .inl bk))]) (Wr := []) (W1 := [(qJ, .inr (2, [.ref qD, .ref qQ, .int (nI ((gO gf gc ak f (j.1 h) (j.1, j.2.1, j.2.2.1, j.2.2.2) n).2.1)), .int f, .int ((gO gf gc ak f (j.1 h) (j.1, j.2.1, j.2.2.1, j.2.2.2) n).2.2.1), .int ((gO gf gc ak f (j.1 h) (j.1, j.2.1, j.2.2.1, j.2.2.2) n).2.2.2)])), (qQ, .inl (E.2.1, 16, .inl (fun w9 => nI (((gO gf gc ak f (j.1 h) (j.1, j.2.1, j.2.2.1, j.2.2.2) n).1) w9)))), (qD, .inr (0, [.ref qO, .ref qG, .ref qC, .ref qA, .ref qB, .int (nI n), .int (nI sp)])), (qO, .inl (E.2.1, 16, .inl (fun w9 => nI (ow w9)))), (qG, .inl (E.2.1, 16, .inl gf)), (qC, .inl (E.2.1, 16, .inl gc)), (qA, .inl (E.2.1, 16, .inl ak)), (qB, .inl (E.2.1, 3, .inl bk))]) (W2 := [(qJ, .inr (2, [.ref qD, .ref qQ, .int (nI ((gO gf gc ak f (j.1 h) (j.1, j.2.1, j.2.2.1, j.2.2.2) n).2.1)), .int f, .int ((gO gf gc ak f (j.1 h) (j.1, j.2.1, j.2.2.1, j.2.2.2) n).2.2.1), .int ((gO gf gc ak f (j.1 h) (j.1, j.2.1, j.2.2.1, j.2.2.2) n).2.2.2)])), (qQ, .inl (E.2.1, 16, .inl (fun w9 => nI (((gO gf gc ak f (j.1 h) (j.1, j.2.1, j.2.2.1, j.2.2.2) n).1) w9)))), (qD, .inr (0, [.ref qO, .ref qG, .ref qC, .ref qA, .ref qB, .int (nI n), .int (nI sp)])), (qO, .inl (E.2.1, 16, .inl (fun w9 => nI (ow w9)))), (qG, .inl (E.2.1, 16, .inl gf)), (qC, .inl (E.2.1, 16, .inl gc)), (qA, .inl (E.2.1, 16, .inl ak)), (qB, .inl (E.2.1, 3, .inl bk))]) (As := [.int (nI (j.1 h))]) (rest := []) ⟨hx, hb, hml, hown, hts⟩ (c_X2_goOnFrom l E qJ qD qQ j.2.1 f j.2.2.1 j.2.2.2 j.1 qO qG qC qA qB n sp ow gf gc ak bk H.size (j.1 h) (Nat.lt_trans (hj2 h (Nat.not_le.mp c_36)) (by decide)) (by omega) hj1) (cwV 1 hts gX2_decideByGoingOn_X2_goOnFrom rfl rfl rfl (by decide +kernel) ⟨Nat.le_of_ble_eq_true rfl, Nat.le_of_ble_eq_true rfl⟩) hK hP hD hS hA [0, 1, 2, 3, 4, 5, 6, 7] [] [0, 1, 2, 3, 4, 5, 6, 7] rfl rfl (by decide) rfl (by decide) (by decide) rfl (by decide) (va_recv hK.1 hP (ci := 2) (q0 := 0) rfl rfl) rfl hl.1 rfl (Nat.le_of_ble_eq_true rfl) dX2_decideByGoingOn_52 ⟨Nat.zero_le _, Nat.zero_le _⟩ (fun H locs hP hD hS => ?_)
                refine lv_iinc (v := nI (h + 1)) (lv' := [(2, .int (nI (h + 1))), (0, .ref qJ), (1, .int f)]) hx hb dX2_decideByGoingOn_55 hl (k := 2) rfl (nI_1 _) (by decide) rfl (fun ls hl => ?_)
                refine lv_goto (tgt := 31) hx hb dX2_decideByGoingOn_58 (by decide) ?_
                have hl : lv_has ls 3 [(0, .ref qJ), (1, .int f), (2, .int (nI (h + 1)))] := by exact lv_sub hl [1, 2, 0] rfl
                have hP : va_P E.1 vwCl [(qJ, .inr (2, [.ref qD, .ref qQ, .int (nI ((gO gf gc ak f (j.1 h) j n).2.1)), .int f, .int ((gO gf gc ak f (j.1 h) j n).2.2.1), .int ((gO gf gc ak f (j.1 h) j n).2.2.2)])), (qQ, .inl (E.2.1, 16, .inl (fun w9 => nI (((gO gf gc ak f (j.1 h) j n).1) w9)))), (qD, .inr (0, [.ref qO, .ref qG, .ref qC, .ref qA, .ref qB, .int (nI n), .int (nI sp)])), (qO, .inl (E.2.1, 16, .inl (fun w9 => nI (ow w9)))), (qG, .inl (E.2.1, 16, .inl gf)), (qC, .inl (E.2.1, 16, .inl gc)), (qA, .inl (E.2.1, 16, .inl ak)), (qB, .inl (E.2.1, 3, .inl bk))] H := by exact hP
                have hD : va_D A [(qJ, .inr (2, [.ref qD, .ref qQ, .int (nI ((gO gf gc ak f (j.1 h) j n).2.1)), .int f, .int ((gO gf gc ak f (j.1 h) j n).2.2.1), .int ((gO gf gc ak f (j.1 h) j n).2.2.2)])), (qQ, .inl (E.2.1, 16, .inl (fun w9 => nI (((gO gf gc ak f (j.1 h) j n).1) w9)))), (qD, .inr (0, [.ref qO, .ref qG, .ref qC, .ref qA, .ref qB, .int (nI n), .int (nI sp)])), (qO, .inl (E.2.1, 16, .inl (fun w9 => nI (ow w9)))), (qG, .inl (E.2.1, 16, .inl gf)), (qC, .inl (E.2.1, 16, .inl gc)), (qA, .inl (E.2.1, 16, .inl ak)), (qB, .inl (E.2.1, 3, .inl bk))] := by exact hD
                exact ih31 (h + 1) (by omega) (by omega) (gO gf gc ak f (j.1 h) j n) (by rw [← hQ_go (Nat.not_le.mp c_36) (Nat.not_le.mp c_42)]; exact hj) (gO_le hj1 n) (gO_lt hj2 n hn) _ _ hP hD hS ls hl
        have hl : lv_has ls 3 [(0, .ref qJ), (1, .int f), (2, .int (nI 0))] := by exact lv_sub hl [1, 2, 0] rfl
        have hP : va_P E.1 vwCl [(qJ, .inr (2, [.ref qD, .ref qQ, .int (nI ((aQ gf gc ak f qu n).2.1)), .int f, .int ((aQ gf gc ak f qu n).2.2.1), .int ((aQ gf gc ak f qu n).2.2.2)])), (qQ, .inl (E.2.1, 16, .inl (fun w9 => nI (((aQ gf gc ak f qu n).1) w9)))), (qD, .inr (0, [.ref qO, .ref qG, .ref qC, .ref qA, .ref qB, .int (nI n), .int (nI sp)])), (qO, .inl (E.2.1, 16, .inl (fun w9 => nI (ow w9)))), (qG, .inl (E.2.1, 16, .inl gf)), (qC, .inl (E.2.1, 16, .inl gc)), (qA, .inl (E.2.1, 16, .inl ak)), (qB, .inl (E.2.1, 3, .inl bk))] H := by rw [show aQ gf gc ak f qu n = aQ gf gc ak f qu k from by rw [show n = k from by omega]]; exact hP
        have hD : va_D A [(qJ, .inr (2, [.ref qD, .ref qQ, .int (nI ((aQ gf gc ak f qu n).2.1)), .int f, .int ((aQ gf gc ak f qu n).2.2.1), .int ((aQ gf gc ak f qu n).2.2.2)])), (qQ, .inl (E.2.1, 16, .inl (fun w9 => nI (((aQ gf gc ak f qu n).1) w9)))), (qD, .inr (0, [.ref qO, .ref qG, .ref qC, .ref qA, .ref qB, .int (nI n), .int (nI sp)])), (qO, .inl (E.2.1, 16, .inl (fun w9 => nI (ow w9)))), (qG, .inl (E.2.1, 16, .inl gf)), (qC, .inl (E.2.1, 16, .inl gc)), (qA, .inl (E.2.1, 16, .inl ak)), (qB, .inl (E.2.1, 3, .inl bk))] := by rw [show aQ gf gc ak f qu n = aQ gf gc ak f qu k from by rw [show n = k from by omega]]; exact hD
        exact loop31 (16 + 1) 0 (by omega) (by omega) (aQ gf gc ak f qu n) rfl (aQ_le gf gc ak f qu n) (aQ_lt gf gc ak f qu n hn) _ _ hP hD hS ls hl
      · have c_15 : ¬ (nI n ≤ nI k) := c_15
        have c_15 : ¬ (n ≤ k) := fun h9 => c_15 ((nI_leI (a := n) (b := k) (by omega) (by omega)).mpr h9)
        refine lv_aload_n hx hb dX2_decideByGoingOn_18 rfl (lv_at hl 0 rfl) ?_
        refine lv_iload_n hx hb dX2_decideByGoingOn_19 rfl (lv_at hl 2 rfl) ?_
        refine cl_Wv (Wl := [(qJ, .inr (2, [.ref qD, .ref qQ, .int (nI ((aQ gf gc ak f qu k).2.1)), .int f, .int ((aQ gf gc ak f qu k).2.2.1), .int ((aQ gf gc ak f qu k).2.2.2)])), (qQ, .inl (E.2.1, 16, .inl (fun w9 => nI (((aQ gf gc ak f qu k).1) w9)))), (qD, .inr (0, [.ref qO, .ref qG, .ref qC, .ref qA, .ref qB, .int (nI n), .int (nI sp)])), (qO, .inl (E.2.1, 16, .inl (fun w9 => nI (ow w9)))), (qG, .inl (E.2.1, 16, .inl gf)), (qC, .inl (E.2.1, 16, .inl gc)), (qA, .inl (E.2.1, 16, .inl ak)), (qB, .inl (E.2.1, 3, .inl bk))]) (Wc := [(qJ, .inr (2, [.ref qD, .ref qQ, .int (nI ((aQ gf gc ak f qu k).2.1)), .int f, .int ((aQ gf gc ak f qu k).2.2.1), .int ((aQ gf gc ak f qu k).2.2.2)])), (qQ, .inl (E.2.1, 16, .inl (fun w9 => nI (((aQ gf gc ak f qu k).1) w9)))), (qD, .inr (0, [.ref qO, .ref qG, .ref qC, .ref qA, .ref qB, .int (nI n), .int (nI sp)])), (qO, .inl (E.2.1, 16, .inl (fun w9 => nI (ow w9)))), (qG, .inl (E.2.1, 16, .inl gf)), (qC, .inl (E.2.1, 16, .inl gc)), (qA, .inl (E.2.1, 16, .inl ak)), (qB, .inl (E.2.1, 3, .inl bk))]) (Wr := []) (W1 := [(qJ, .inr (2, [.ref qD, .ref qQ, .int (nI ((dQ gf gc ak f k (((aQ gf gc ak f qu k).1), ((aQ gf gc ak f qu k).2.1), ((aQ gf gc ak f qu k).2.2.1), ((aQ gf gc ak f qu k).2.2.2))).2.1)), .int f, .int ((dQ gf gc ak f k (((aQ gf gc ak f qu k).1), ((aQ gf gc ak f qu k).2.1), ((aQ gf gc ak f qu k).2.2.1), ((aQ gf gc ak f qu k).2.2.2))).2.2.1), .int ((dQ gf gc ak f k (((aQ gf gc ak f qu k).1), ((aQ gf gc ak f qu k).2.1), ((aQ gf gc ak f qu k).2.2.1), ((aQ gf gc ak f qu k).2.2.2))).2.2.2)])), (qQ, .inl (E.2.1, 16, .inl (fun w9 => nI (((dQ gf gc ak f k (((aQ gf gc ak f qu k).1), ((aQ gf gc ak f qu k).2.1), ((aQ gf gc ak f qu k).2.2.1), ((aQ gf gc ak f qu k).2.2.2))).1) w9)))), (qD, .inr (0, [.ref qO, .ref qG, .ref qC, .ref qA, .ref qB, .int (nI n), .int (nI sp)])), (qO, .inl (E.2.1, 16, .inl (fun w9 => nI (ow w9)))), (qG, .inl (E.2.1, 16, .inl gf)), (qC, .inl (E.2.1, 16, .inl gc)), (qA, .inl (E.2.1, 16, .inl ak)), (qB, .inl (E.2.1, 3, .inl bk))]) (W2 := [(qJ, .inr (2, [.ref qD, .ref qQ, .int (nI ((dQ gf gc ak f k (((aQ gf gc ak f qu k).1), ((aQ gf gc ak f qu k).2.1), ((aQ gf gc ak f qu k).2.2.1), ((aQ gf gc ak f qu k).2.2.2))).2.1)), .int f, .int ((dQ gf gc ak f k (((aQ gf gc ak f qu k).1), ((aQ gf gc ak f qu k).2.1), ((aQ gf gc ak f qu k).2.2.1), ((aQ gf gc ak f qu k).2.2.2))).2.2.1), .int ((dQ gf gc ak f k (((aQ gf gc ak f qu k).1), ((aQ gf gc ak f qu k).2.1), ((aQ gf gc ak f qu k).2.2.1), ((aQ gf gc ak f qu k).2.2.2))).2.2.2)])), (qQ, .inl (E.2.1, 16, .inl (fun w9 => nI (((dQ gf gc ak f k (((aQ gf gc ak f qu k).1), ((aQ gf gc ak f qu k).2.1), ((aQ gf gc ak f qu k).2.2.1), ((aQ gf gc ak f qu k).2.2.2))).1) w9)))), (qD, .inr (0, [.ref qO, .ref qG, .ref qC, .ref qA, .ref qB, .int (nI n), .int (nI sp)])), (qO, .inl (E.2.1, 16, .inl (fun w9 => nI (ow w9)))), (qG, .inl (E.2.1, 16, .inl gf)), (qC, .inl (E.2.1, 16, .inl gc)), (qA, .inl (E.2.1, 16, .inl ak)), (qB, .inl (E.2.1, 3, .inl bk))]) (As := [.int (nI k)]) (rest := []) ⟨hx, hb, hml, hown, hts⟩ (c_X2_decideAndQueue l E qJ qD qQ ((aQ gf gc ak f qu k).2.1) f ((aQ gf gc ak f qu k).2.2.1) ((aQ gf gc ak f qu k).2.2.2) ((aQ gf gc ak f qu k).1) qO qG qC qA qB n sp ow gf gc ak bk H.size k (by omega) (aQ_le gf gc ak f qu k)) (cwV 1 hts gX2_decideByGoingOn_X2_decideAndQueue rfl rfl rfl (by decide +kernel) ⟨Nat.le_of_ble_eq_true rfl, Nat.le_of_ble_eq_true rfl⟩) hK hP hD hS hA [0, 1, 2, 3, 4, 5, 6, 7] [] [0, 1, 2, 3, 4, 5, 6, 7] rfl rfl (by decide) rfl (by decide) (by decide) rfl (by decide) (va_recv hK.1 hP (ci := 2) (q0 := 0) rfl rfl) rfl hl.1 rfl (Nat.le_of_ble_eq_true rfl) dX2_decideByGoingOn_20 ⟨Nat.zero_le _, Nat.zero_le _⟩ (fun H locs hP hD hS => ?_)
        refine lv_iinc (v := nI (k + 1)) (lv' := [(2, .int (nI (k + 1))), (0, .ref qJ), (1, .int f)]) hx hb dX2_decideByGoingOn_23 hl (k := 2) rfl (nI_1 _) (by decide) rfl (fun ls hl => ?_)
        refine lv_goto (tgt := 7) hx hb dX2_decideByGoingOn_26 (by decide) ?_
        have hl : lv_has ls 3 [(0, .ref qJ), (1, .int f), (2, .int (nI (k + 1)))] := by exact lv_sub hl [1, 2, 0] rfl
        have hP : va_P E.1 vwCl [(qJ, .inr (2, [.ref qD, .ref qQ, .int (nI ((aQ gf gc ak f qu (k + 1)).2.1)), .int f, .int ((aQ gf gc ak f qu (k + 1)).2.2.1), .int ((aQ gf gc ak f qu (k + 1)).2.2.2)])), (qQ, .inl (E.2.1, 16, .inl (fun w9 => nI (((aQ gf gc ak f qu (k + 1)).1) w9)))), (qD, .inr (0, [.ref qO, .ref qG, .ref qC, .ref qA, .ref qB, .int (nI n), .int (nI sp)])), (qO, .inl (E.2.1, 16, .inl (fun w9 => nI (ow w9)))), (qG, .inl (E.2.1, 16, .inl gf)), (qC, .inl (E.2.1, 16, .inl gc)), (qA, .inl (E.2.1, 16, .inl ak)), (qB, .inl (E.2.1, 3, .inl bk))] H := by exact hP
        have hD : va_D A [(qJ, .inr (2, [.ref qD, .ref qQ, .int (nI ((aQ gf gc ak f qu (k + 1)).2.1)), .int f, .int ((aQ gf gc ak f qu (k + 1)).2.2.1), .int ((aQ gf gc ak f qu (k + 1)).2.2.2)])), (qQ, .inl (E.2.1, 16, .inl (fun w9 => nI (((aQ gf gc ak f qu (k + 1)).1) w9)))), (qD, .inr (0, [.ref qO, .ref qG, .ref qC, .ref qA, .ref qB, .int (nI n), .int (nI sp)])), (qO, .inl (E.2.1, 16, .inl (fun w9 => nI (ow w9)))), (qG, .inl (E.2.1, 16, .inl gf)), (qC, .inl (E.2.1, 16, .inl gc)), (qA, .inl (E.2.1, 16, .inl ak)), (qB, .inl (E.2.1, 3, .inl bk))] := by exact hD
        exact ih7 (k + 1) (by omega) (by omega)  _ _ hP hD hS ls hl
  have hl : lv_has ls 3 [(0, .ref qJ), (1, .int f), (2, .int (nI 0))] := by exact lv_sub hl [1, 2, 0] rfl
  have hP : va_P E.1 vwCl [(qJ, .inr (2, [.ref qD, .ref qQ, .int (nI ((aQ gf gc ak f qu 0).2.1)), .int f, .int ((aQ gf gc ak f qu 0).2.2.1), .int ((aQ gf gc ak f qu 0).2.2.2)])), (qQ, .inl (E.2.1, 16, .inl (fun w9 => nI (((aQ gf gc ak f qu 0).1) w9)))), (qD, .inr (0, [.ref qO, .ref qG, .ref qC, .ref qA, .ref qB, .int (nI n), .int (nI sp)])), (qO, .inl (E.2.1, 16, .inl (fun w9 => nI (ow w9)))), (qG, .inl (E.2.1, 16, .inl gf)), (qC, .inl (E.2.1, 16, .inl gc)), (qA, .inl (E.2.1, 16, .inl ak)), (qB, .inl (E.2.1, 3, .inl bk))] H := by exact hP
  have hD : va_D A [(qJ, .inr (2, [.ref qD, .ref qQ, .int (nI ((aQ gf gc ak f qu 0).2.1)), .int f, .int ((aQ gf gc ak f qu 0).2.2.1), .int ((aQ gf gc ak f qu 0).2.2.2)])), (qQ, .inl (E.2.1, 16, .inl (fun w9 => nI (((aQ gf gc ak f qu 0).1) w9)))), (qD, .inr (0, [.ref qO, .ref qG, .ref qC, .ref qA, .ref qB, .int (nI n), .int (nI sp)])), (qO, .inl (E.2.1, 16, .inl (fun w9 => nI (ow w9)))), (qG, .inl (E.2.1, 16, .inl gf)), (qC, .inl (E.2.1, 16, .inl gc)), (qA, .inl (E.2.1, 16, .inl ak)), (qB, .inl (E.2.1, 3, .inl bk))] := by exact hD
  exact loop7 (n + 1) 0 (by omega) (by omega)  _ _ hP hD hS ls hl
set_option maxHeartbeats 4000000 in
set_option maxRecDepth 100000 in
theorem c_X2_decideInRounds (l : Launch) (E : gE) (qJ : Nat) (qD : Nat) (qQ : Nat) (qn : Nat) (sf : Int32) (jI : Int32) (jO : Int32) (qu : Nat → Nat) (qO : Nat) (qG : Nat) (qC : Nat) (qA : Nat) (qB : Nat) (n : Nat) (sp : Nat) (ow : Nat → Nat) (gf : Nat → Int32) (gc : Nat → Int32) (ak : Nat → Int32) (bk : Nat → Int32) (sz : Nat) (f : Int32) (hn : n ≤ 16) : Met l yX2_decideInRounds wsX2_decideInRounds ({ frames := 2, cells := 0, slots := 0, locals := 45 }) (va_Pc [.ref qJ, .int f] (pW E [(qJ, .inr (2, [.ref qD, .ref qQ, .int (nI qn), .int sf, .int jI, .int jO])), (qQ, .inl (E.2.1, 16, .inl (fun w9 => nI (qu w9)))), (qD, .inr (0, [.ref qO, .ref qG, .ref qC, .ref qA, .ref qB, .int (nI n), .int (nI sp)])), (qO, .inl (E.2.1, 16, .inl (fun w9 => nI (ow w9)))), (qG, .inl (E.2.1, 16, .inl gf)), (qC, .inl (E.2.1, 16, .inl gc)), (qA, .inl (E.2.1, 16, .inl ak)), (qB, .inl (E.2.1, 3, .inl bk))] sz)) (va_Qv (fun (_ : Unit) => True) (fun _ => eW E (va_A [(qJ, .inr (2, [.ref qD, .ref qQ, .int (nI qn), .int sf, .int jI, .int jO])), (qQ, .inl (E.2.1, 16, .inl (fun w9 => nI (qu w9)))), (qD, .inr (0, [.ref qO, .ref qG, .ref qC, .ref qA, .ref qB, .int (nI n), .int (nI sp)])), (qO, .inl (E.2.1, 16, .inl (fun w9 => nI (ow w9)))), (qG, .inl (E.2.1, 16, .inl gf)), (qC, .inl (E.2.1, 16, .inl gc)), (qA, .inl (E.2.1, 16, .inl ak)), (qB, .inl (E.2.1, 3, .inl bk))] sz) [(qJ, .inr (2, [.ref qD, .ref qQ, .int (nI 0), .int f, .int ((rJ gf gc ak f n).2.1), .int ((rJ gf gc ak f n).2.2)])), (qQ, .inl (E.2.1, 16, .inl (fun w9 => nI (qu w9)))), (qD, .inr (0, [.ref qO, .ref qG, .ref qC, .ref qA, .ref qB, .int (nI n), .int (nI sp)])), (qO, .inl (E.2.1, 16, .inl (fun w9 => nI (ow w9)))), (qG, .inl (E.2.1, 16, .inl gf)), (qC, .inl (E.2.1, 16, .inl gc)), (qA, .inl (E.2.1, 16, .inl ak)), (qB, .inl (E.2.1, 3, .inl bk))]) (va_A [(qJ, .inr (2, [.ref qD, .ref qQ, .int (nI qn), .int sf, .int jI, .int jO])), (qQ, .inl (E.2.1, 16, .inl (fun w9 => nI (qu w9)))), (qD, .inr (0, [.ref qO, .ref qG, .ref qC, .ref qA, .ref qB, .int (nI n), .int (nI sp)])), (qO, .inl (E.2.1, 16, .inl (fun w9 => nI (ow w9)))), (qG, .inl (E.2.1, 16, .inl gf)), (qC, .inl (E.2.1, 16, .inl gc)), (qA, .inl (E.2.1, 16, .inl ak)), (qB, .inl (E.2.1, 3, .inl bk))] sz)) 0 0 (va_A [(qJ, .inr (2, [.ref qD, .ref qQ, .int (nI qn), .int sf, .int jI, .int jO])), (qQ, .inl (E.2.1, 16, .inl (fun w9 => nI (qu w9)))), (qD, .inr (0, [.ref qO, .ref qG, .ref qC, .ref qA, .ref qB, .int (nI n), .int (nI sp)])), (qO, .inl (E.2.1, 16, .inl (fun w9 => nI (ow w9)))), (qG, .inl (E.2.1, 16, .inl gf)), (qC, .inl (E.2.1, 16, .inl gc)), (qA, .inl (E.2.1, 16, .inl ak)), (qB, .inl (E.2.1, 3, .inl bk))] sz) := by
  refine Met.ofW (cc := cX2_decideInRounds) (maxL := 5) (ret := none) (by decide) rfl ?_
  intro p e s m args below meth c s₁ B hml hv
  obtain ⟨rfl, hsz, hP, hK, hD0⟩ := hv
  have hx := B.exec
  have hb := B.bytes
  have hr := B.returns
  have hts := atoms_spec (ws := wsX2_decideInRounds) B.pre
  have hown : s.vm.findClass RX2 = some m.cls := findClass_of_methodNamed B.named
  have hlocks := B.notSynchronized
  subst hsz
  have hD := hD0.self (sz := s.heap.size)
  generalize hAe : va_A [(qJ, .inr (2, [.ref qD, .ref qQ, .int (nI qn), .int sf, .int jI, .int jO])), (qQ, .inl (E.2.1, 16, .inl (fun w9 => nI (qu w9)))), (qD, .inr (0, [.ref qO, .ref qG, .ref qC, .ref qA, .ref qB, .int (nI n), .int (nI sp)])), (qO, .inl (E.2.1, 16, .inl (fun w9 => nI (ow w9)))), (qG, .inl (E.2.1, 16, .inl gf)), (qC, .inl (E.2.1, 16, .inl gc)), (qA, .inl (E.2.1, 16, .inl ak)), (qB, .inl (E.2.1, 3, .inl bk))] s.heap.size = A at hD ⊢
  have hA : ∀ q : Nat, s.heap.size ≤ q → A q := fun q h => by rw [← hAe]; exact Or.inr h
  have hS : va_S A s.heap s.heap [] := va_S.rf
  have hl := lv_entry ([.ref qJ, .int f]) (n := 5) (Nat.le_of_ble_eq_true rfl)
  rw [lg_entry_eq]
  generalize (lg_sl ([.ref qJ, .int f]) ++ List.replicate (5 - (lg_sl ([.ref qJ, .int f])).length) Slot.unset).toArray = ls at hl ⊢
  have hl : lv_has ls 5 [(0, .ref qJ), (1, .int f)] := hl
  refine lv_aload_n hx hb dX2_decideInRounds_0 rfl (lv_at hl 0 rfl) ?_
  refine lv_iload_n hx hb dX2_decideInRounds_1 rfl (lv_at hl 1 rfl) ?_
  refine cl_Wv (Wl := [(qJ, .inr (2, [.ref qD, .ref qQ, .int (nI qn), .int sf, .int jI, .int jO])), (qQ, .inl (E.2.1, 16, .inl (fun w9 => nI (qu w9)))), (qD, .inr (0, [.ref qO, .ref qG, .ref qC, .ref qA, .ref qB, .int (nI n), .int (nI sp)])), (qO, .inl (E.2.1, 16, .inl (fun w9 => nI (ow w9)))), (qG, .inl (E.2.1, 16, .inl gf)), (qC, .inl (E.2.1, 16, .inl gc)), (qA, .inl (E.2.1, 16, .inl ak)), (qB, .inl (E.2.1, 3, .inl bk))]) (Wc := [(qJ, .inr (2, [.ref qD, .ref qQ, .int (nI qn), .int sf, .int jI, .int jO])), (qQ, .inl (E.2.1, 16, .inl (fun w9 => nI (qu w9)))), (qD, .inr (0, [.ref qO, .ref qG, .ref qC, .ref qA, .ref qB, .int (nI n), .int (nI sp)])), (qO, .inl (E.2.1, 16, .inl (fun w9 => nI (ow w9)))), (qG, .inl (E.2.1, 16, .inl gf)), (qC, .inl (E.2.1, 16, .inl gc)), (qA, .inl (E.2.1, 16, .inl ak)), (qB, .inl (E.2.1, 3, .inl bk))]) (Wr := []) (W1 := [(qJ, .inr (2, [.ref qD, .ref qQ, .int (nI 0), .int f, .int 0, .int 0])), (qQ, .inl (E.2.1, 16, .inl (fun w9 => nI (qu w9)))), (qD, .inr (0, [.ref qO, .ref qG, .ref qC, .ref qA, .ref qB, .int (nI n), .int (nI sp)])), (qO, .inl (E.2.1, 16, .inl (fun w9 => nI (ow w9)))), (qG, .inl (E.2.1, 16, .inl gf)), (qC, .inl (E.2.1, 16, .inl gc)), (qA, .inl (E.2.1, 16, .inl ak)), (qB, .inl (E.2.1, 3, .inl bk))]) (W2 := [(qJ, .inr (2, [.ref qD, .ref qQ, .int (nI 0), .int f, .int 0, .int 0])), (qQ, .inl (E.2.1, 16, .inl (fun w9 => nI (qu w9)))), (qD, .inr (0, [.ref qO, .ref qG, .ref qC, .ref qA, .ref qB, .int (nI n), .int (nI sp)])), (qO, .inl (E.2.1, 16, .inl (fun w9 => nI (ow w9)))), (qG, .inl (E.2.1, 16, .inl gf)), (qC, .inl (E.2.1, 16, .inl gc)), (qA, .inl (E.2.1, 16, .inl ak)), (qB, .inl (E.2.1, 3, .inl bk))]) (As := [.int f]) (rest := []) ⟨hx, hb, hml, hown, hts⟩ (c_X2_openAll l E qJ qD qQ qn sf jI jO qu qO qG qC qA qB n sp ow gf gc ak bk s.heap.size f ) (cwV 1 hts gX2_decideInRounds_X2_openAll rfl rfl rfl (by decide +kernel) ⟨Nat.le_of_ble_eq_true rfl, Nat.le_of_ble_eq_true rfl⟩) hK hP hD hS hA [0, 1, 2, 3, 4, 5, 6, 7] [] [0, 1, 2, 3, 4, 5, 6, 7] rfl rfl (by decide) rfl (by decide) (by decide) rfl (by decide) (va_recv hK.1 hP (ci := 2) (q0 := 0) rfl rfl) rfl hl.1 rfl (Nat.le_of_ble_eq_true rfl) dX2_decideInRounds_2 ⟨Nat.zero_le _, Nat.zero_le _⟩ (fun H locs hP hD hS => ?_)
  refine lv_iconst (v := 1) hx hb dX2_decideInRounds_5 (by decide) ?_
  refine lv_istore_n (lv' := [(2, .int 1), (0, .ref qJ), (1, .int f)]) hx hb dX2_decideInRounds_6 rfl hl (by decide) rfl (fun ls hl => ?_)
  refine lv_iconst (v := 0) hx hb dX2_decideInRounds_7 (by decide) ?_
  refine lv_istore_n (lv' := [(3, .int 0), (2, .int 1), (0, .ref qJ), (1, .int f)]) hx hb dX2_decideInRounds_8 rfl hl (by decide) rfl (fun ls hl => ?_)
  have loop9 : ∀ (z9 h : Nat), h ≤ 16 → 16 + 1 ≤ h + z9 → ∀ (s9 : Bool × Int32 × Int32), (rL gf gc ak f n (16 - h) s9 = (rJ gf gc ak f n)) → ∀ (H : Heap) (locs : List Loc), va_P E.1 vwCl [(qJ, .inr (2, [.ref qD, .ref qQ, .int (nI 0), .int f, .int s9.2.1, .int s9.2.2])), (qQ, .inl (E.2.1, 16, .inl (fun w9 => nI (qu w9)))), (qD, .inr (0, [.ref qO, .ref qG, .ref qC, .ref qA, .ref qB, .int (nI n), .int (nI sp)])), (qO, .inl (E.2.1, 16, .inl (fun w9 => nI (ow w9)))), (qG, .inl (E.2.1, 16, .inl gf)), (qC, .inl (E.2.1, 16, .inl gc)), (qA, .inl (E.2.1, 16, .inl ak)), (qB, .inl (E.2.1, 3, .inl bk))] H → va_D A [(qJ, .inr (2, [.ref qD, .ref qQ, .int (nI 0), .int f, .int s9.2.1, .int s9.2.2])), (qQ, .inl (E.2.1, 16, .inl (fun w9 => nI (qu w9)))), (qD, .inr (0, [.ref qO, .ref qG, .ref qC, .ref qA, .ref qB, .int (nI n), .int (nI sp)])), (qO, .inl (E.2.1, 16, .inl (fun w9 => nI (ow w9)))), (qG, .inl (E.2.1, 16, .inl gf)), (qC, .inl (E.2.1, 16, .inl gc)), (qA, .inl (E.2.1, 16, .inl ak)), (qB, .inl (E.2.1, 3, .inl bk))] → va_S A s.heap H locs → ∀ (ls : Array Slot), lv_has ls 5 [(0, .ref qJ), (1, .int f), (2, .int (zI s9.1)), (3, .int (nI h))] → W p l e (headSpec wsX2_decideInRounds ({ frames := 2, cells := 0, slots := 0, locals := 45 })).room s m ([.ref qJ, .int f] : List Value).toArray below meth c H locs 0 0 (MQ below (va_Qv (fun (_ : Unit) => True) (fun _ => eW E A [(qJ, .inr (2, [.ref qD, .ref qQ, .int (nI 0), .int f, .int ((rJ gf gc ak f n).2.1), .int ((rJ gf gc ak f n).2.2)])), (qQ, .inl (E.2.1, 16, .inl (fun w9 => nI (qu w9)))), (qD, .inr (0, [.ref qO, .ref qG, .ref qC, .ref qA, .ref qB, .int (nI n), .int (nI sp)])), (qO, .inl (E.2.1, 16, .inl (fun w9 => nI (ow w9)))), (qG, .inl (E.2.1, 16, .inl gf)), (qC, .inl (E.2.1, 16, .inl gc)), (qA, .inl (E.2.1, 16, .inl ak)), (qB, .inl (E.2.1, 3, .inl bk))]) A) ([.ref qJ, .int f] : List Value).toArray s 0 0 A) (F0 m 9 ls []) := by
    intro z9
    induction z9 with
    | zero =>
      intro h hk9 hz9
      exact absurd hz9 (by omega)
    | succ z9 ih9 =>
      intro h hk9 hz9 s9 hj H locs hP hD hS ls hl
      refine lv_iload_n hx hb dX2_decideInRounds_9 rfl (lv_at hl 2 rfl) ?_
      refine lv_if_eq (tgt := 59) hx hb dX2_decideInRounds_10 (by decide) (fun c_10 => ?_) (fun c_10 => ?_)
      · have c_10 := zI_f c_10
        have hP9 : va_P E.1 vwCl [(qJ, .inr (2, [.ref qD, .ref qQ, .int (nI 0), .int f, .int ((rJ gf gc ak f n).2.1), .int ((rJ gf gc ak f n).2.2)])), (qQ, .inl (E.2.1, 16, .inl (fun w9 => nI (qu w9)))), (qD, .inr (0, [.ref qO, .ref qG, .ref qC, .ref qA, .ref qB, .int (nI n), .int (nI sp)])), (qO, .inl (E.2.1, 16, .inl (fun w9 => nI (ow w9)))), (qG, .inl (E.2.1, 16, .inl gf)), (qC, .inl (E.2.1, 16, .inl gc)), (qA, .inl (E.2.1, 16, .inl ak)), (qB, .inl (E.2.1, 3, .inl bk))] H := by rw [← hj, rL_stop c_10]; exact hP
        have hD9 : va_D A [(qJ, .inr (2, [.ref qD, .ref qQ, .int (nI 0), .int f, .int ((rJ gf gc ak f n).2.1), .int ((rJ gf gc ak f n).2.2)])), (qQ, .inl (E.2.1, 16, .inl (fun w9 => nI (qu w9)))), (qD, .inr (0, [.ref qO, .ref qG, .ref qC, .ref qA, .ref qB, .int (nI n), .int (nI sp)])), (qO, .inl (E.2.1, 16, .inl (fun w9 => nI (ow w9)))), (qG, .inl (E.2.1, 16, .inl gf)), (qC, .inl (E.2.1, 16, .inl gc)), (qA, .inl (E.2.1, 16, .inl ak)), (qB, .inl (E.2.1, 3, .inl bk))] := by rw [← hj, rL_stop c_10]; exact hD
        exact W.vret hx hb hr (fun t ht hW => ⟨⟨(), rfl, trivial, by rw [ht]; exact hP9, hD9⟩, hS.F ht⟩) hS.2.2 dX2_decideInRounds_59
      · have c_10 := zI_t c_10
        refine lv_iload_n hx hb dX2_decideInRounds_13 rfl (lv_at hl 3 rfl) ?_
        refine lv_bipush (v := 16) hx hb dX2_decideInRounds_14 (by decide) ?_
        refine lv_icmp_ge (tgt := 59) hx hb dX2_decideInRounds_16 (by decide) (fun c_16 => ?_) (fun c_16 => ?_)
        · have c_16 : nI 16 ≤ nI h := c_16
          have c_16 := (nI_leI (a := 16) (b := h) (by omega) (by omega)).mp c_16
          have hP9 : va_P E.1 vwCl [(qJ, .inr (2, [.ref qD, .ref qQ, .int (nI 0), .int f, .int ((rJ gf gc ak f n).2.1), .int ((rJ gf gc ak f n).2.2)])), (qQ, .inl (E.2.1, 16, .inl (fun w9 => nI (qu w9)))), (qD, .inr (0, [.ref qO, .ref qG, .ref qC, .ref qA, .ref qB, .int (nI n), .int (nI sp)])), (qO, .inl (E.2.1, 16, .inl (fun w9 => nI (ow w9)))), (qG, .inl (E.2.1, 16, .inl gf)), (qC, .inl (E.2.1, 16, .inl gc)), (qA, .inl (E.2.1, 16, .inl ak)), (qB, .inl (E.2.1, 3, .inl bk))] H := by rw [← hj, rL_end c_16]; exact hP
          have hD9 : va_D A [(qJ, .inr (2, [.ref qD, .ref qQ, .int (nI 0), .int f, .int ((rJ gf gc ak f n).2.1), .int ((rJ gf gc ak f n).2.2)])), (qQ, .inl (E.2.1, 16, .inl (fun w9 => nI (qu w9)))), (qD, .inr (0, [.ref qO, .ref qG, .ref qC, .ref qA, .ref qB, .int (nI n), .int (nI sp)])), (qO, .inl (E.2.1, 16, .inl (fun w9 => nI (ow w9)))), (qG, .inl (E.2.1, 16, .inl gf)), (qC, .inl (E.2.1, 16, .inl gc)), (qA, .inl (E.2.1, 16, .inl ak)), (qB, .inl (E.2.1, 3, .inl bk))] := by rw [← hj, rL_end c_16]; exact hD
          exact W.vret hx hb hr (fun t ht hW => ⟨⟨(), rfl, trivial, by rw [ht]; exact hP9, hD9⟩, hS.F ht⟩) hS.2.2 dX2_decideInRounds_59
        · have c_16 : ¬ (nI 16 ≤ nI h) := c_16
          have c_16 : ¬ (16 ≤ h) := fun h9 => c_16 ((nI_leI (a := 16) (b := h) (by omega) (by omega)).mpr h9)
          refine lv_iconst (v := 0) hx hb dX2_decideInRounds_19 (by decide) ?_
          refine lv_istore_n (lv' := [(2, .int 0), (0, .ref qJ), (1, .int f), (3, .int (nI h))]) hx hb dX2_decideInRounds_20 rfl hl (by decide) rfl (fun ls hl => ?_)
          refine lv_iconst (v := 0) hx hb dX2_decideInRounds_21 (by decide) ?_
          refine lv_istore (lv' := [(4, .int 0), (2, .int 0), (0, .ref qJ), (1, .int f), (3, .int (nI h))]) hx hb dX2_decideInRounds_22 hl (by decide) rfl (fun ls hl => ?_)
          have loop24 : ∀ (z24 k : Nat), k ≤ n → n + 1 ≤ k + z24 → ∀ (H : Heap) (locs : List Loc), va_P E.1 vwCl [(qJ, .inr (2, [.ref qD, .ref qQ, .int (nI 0), .int f, .int ((rF gf gc ak f s9.2 k).2.1), .int ((rF gf gc ak f s9.2 k).2.2)])), (qQ, .inl (E.2.1, 16, .inl (fun w9 => nI (qu w9)))), (qD, .inr (0, [.ref qO, .ref qG, .ref qC, .ref qA, .ref qB, .int (nI n), .int (nI sp)])), (qO, .inl (E.2.1, 16, .inl (fun w9 => nI (ow w9)))), (qG, .inl (E.2.1, 16, .inl gf)), (qC, .inl (E.2.1, 16, .inl gc)), (qA, .inl (E.2.1, 16, .inl ak)), (qB, .inl (E.2.1, 3, .inl bk))] H → va_D A [(qJ, .inr (2, [.ref qD, .ref qQ, .int (nI 0), .int f, .int ((rF gf gc ak f s9.2 k).2.1), .int ((rF gf gc ak f s9.2 k).2.2)])), (qQ, .inl (E.2.1, 16, .inl (fun w9 => nI (qu w9)))), (qD, .inr (0, [.ref qO, .ref qG, .ref qC, .ref qA, .ref qB, .int (nI n), .int (nI sp)])), (qO, .inl (E.2.1, 16, .inl (fun w9 => nI (ow w9)))), (qG, .inl (E.2.1, 16, .inl gf)), (qC, .inl (E.2.1, 16, .inl gc)), (qA, .inl (E.2.1, 16, .inl ak)), (qB, .inl (E.2.1, 3, .inl bk))] → va_S A s.heap H locs → ∀ (ls : Array Slot), lv_has ls 5 [(0, .ref qJ), (1, .int f), (2, .int (zI ((rF gf gc ak f s9.2 k).1))), (3, .int (nI h)), (4, .int (nI k))] → W p l e (headSpec wsX2_decideInRounds ({ frames := 2, cells := 0, slots := 0, locals := 45 })).room s m ([.ref qJ, .int f] : List Value).toArray below meth c H locs 0 0 (MQ below (va_Qv (fun (_ : Unit) => True) (fun _ => eW E A [(qJ, .inr (2, [.ref qD, .ref qQ, .int (nI 0), .int f, .int ((rJ gf gc ak f n).2.1), .int ((rJ gf gc ak f n).2.2)])), (qQ, .inl (E.2.1, 16, .inl (fun w9 => nI (qu w9)))), (qD, .inr (0, [.ref qO, .ref qG, .ref qC, .ref qA, .ref qB, .int (nI n), .int (nI sp)])), (qO, .inl (E.2.1, 16, .inl (fun w9 => nI (ow w9)))), (qG, .inl (E.2.1, 16, .inl gf)), (qC, .inl (E.2.1, 16, .inl gc)), (qA, .inl (E.2.1, 16, .inl ak)), (qB, .inl (E.2.1, 3, .inl bk))]) A) ([.ref qJ, .int f] : List Value).toArray s 0 0 A) (F0 m 24 ls []) := by
            intro z24
            induction z24 with
            | zero =>
              intro k hk24 hz24
              exact absurd hz24 (by omega)
            | succ z24 ih24 =>
              intro k hk24 hz24  H locs hP hD hS ls hl
              refine lv_iload hx hb dX2_decideInRounds_24 (lv_at hl 4 rfl) ?_
              refine lv_aload_n hx hb dX2_decideInRounds_26 rfl (lv_at hl 0 rfl) ?_
              refine va_get (D := E.1) (ci := 2) (v := .ref qD) (C := RX2) (T := TX2) (N := 6) hx hb hts (fun _ h => List.mem_cons_of_mem _ (List.mem_append_left _ (List.mem_append_right _ h))) hown hK.1 hP 0 rfl rfl 0 (by decide) (hts (.fieldLink RX2 9 "Quarrelboard$Judge" "debate" "LQuarrelboard$Debate;") (List.mem_of_getElem? (i := 1) rfl)) (fun _ h9 => h9) rfl dX2_decideInRounds_27 ?_
              refine cl_S (Wc := [(qD, .inr (0, [.ref qO, .ref qG, .ref qC, .ref qA, .ref qB, .int (nI n), .int (nI sp)])), (qO, .inl (E.2.1, 16, .inl (fun w9 => nI (ow w9)))), (qG, .inl (E.2.1, 16, .inl gf)), (qC, .inl (E.2.1, 16, .inl gc)), (qA, .inl (E.2.1, 16, .inl ak)), (qB, .inl (E.2.1, 3, .inl bk))]) (As := []) (rest := [.int (nI k)]) ⟨hx, hb, hml, hown, hts⟩ (c_X0_size l E qD qO qG qC qA qB n sp ow gf gc ak bk  ) (cwV 0 hts gX2_decideInRounds_X0_size rfl rfl rfl (by decide +kernel) ⟨Nat.le_of_ble_eq_true rfl, Nat.le_of_ble_eq_true rfl⟩) hK (hP.sub [2, 3, 4, 5, 6, 7] rfl) (va_recv hK.1 hP (ci := 0) (q0 := 2) rfl rfl) rfl hl.1 rfl (Nat.le_of_ble_eq_true rfl) dX2_decideInRounds_30 ⟨Nat.zero_le _, Nat.zero_le _⟩ ?_
              refine lv_icmp_ge (tgt := 53) hx hb dX2_decideInRounds_33 (by decide) (fun c_33 => ?_) (fun c_33 => ?_)
              · have c_33 : nI n ≤ nI k := c_33
                have c_33 := (nI_leI (a := n) (b := k) (by omega) (by omega)).mp c_33
                refine lv_iinc (v := nI (h + 1)) (lv' := [(3, .int (nI (h + 1))), (0, .ref qJ), (1, .int f), (2, .int (zI ((rF gf gc ak f s9.2 k).1))), (4, .int (nI k))]) hx hb dX2_decideInRounds_53 hl (k := 3) rfl (nI_1 _) (by decide) rfl (fun ls hl => ?_)
                refine lv_goto (tgt := 9) hx hb dX2_decideInRounds_56 (by decide) ?_
                have hl : lv_has ls 5 [(0, .ref qJ), (1, .int f), (2, .int (zI (rF gf gc ak f s9.2 k).1)), (3, .int (nI (h + 1)))] := by exact lv_sub hl [1, 2, 3, 0] rfl
                have hP : va_P E.1 vwCl [(qJ, .inr (2, [.ref qD, .ref qQ, .int (nI 0), .int f, .int ((rF gf gc ak f s9.2 k).2.1), .int ((rF gf gc ak f s9.2 k).2.2)])), (qQ, .inl (E.2.1, 16, .inl (fun w9 => nI (qu w9)))), (qD, .inr (0, [.ref qO, .ref qG, .ref qC, .ref qA, .ref qB, .int (nI n), .int (nI sp)])), (qO, .inl (E.2.1, 16, .inl (fun w9 => nI (ow w9)))), (qG, .inl (E.2.1, 16, .inl gf)), (qC, .inl (E.2.1, 16, .inl gc)), (qA, .inl (E.2.1, 16, .inl ak)), (qB, .inl (E.2.1, 3, .inl bk))] H := by exact hP
                have hD : va_D A [(qJ, .inr (2, [.ref qD, .ref qQ, .int (nI 0), .int f, .int ((rF gf gc ak f s9.2 k).2.1), .int ((rF gf gc ak f s9.2 k).2.2)])), (qQ, .inl (E.2.1, 16, .inl (fun w9 => nI (qu w9)))), (qD, .inr (0, [.ref qO, .ref qG, .ref qC, .ref qA, .ref qB, .int (nI n), .int (nI sp)])), (qO, .inl (E.2.1, 16, .inl (fun w9 => nI (ow w9)))), (qG, .inl (E.2.1, 16, .inl gf)), (qC, .inl (E.2.1, 16, .inl gc)), (qA, .inl (E.2.1, 16, .inl ak)), (qB, .inl (E.2.1, 3, .inl bk))] := by exact hD
                exact ih9 (h + 1) (by omega) (by omega) (rF gf gc ak f s9.2 k) (by rw [show k = n from by omega, ← rL_go c_10 (Nat.not_le.mp c_16)]; exact hj) _ _ hP hD hS ls hl
              · have c_33 : ¬ (nI n ≤ nI k) := c_33
                have c_33 : ¬ (n ≤ k) := fun h9 => c_33 ((nI_leI (a := n) (b := k) (by omega) (by omega)).mpr h9)
                refine lv_aload_n hx hb dX2_decideInRounds_36 rfl (lv_at hl 0 rfl) ?_
                refine lv_iload hx hb dX2_decideInRounds_37 (lv_at hl 4 rfl) ?_
                refine cl_W (Wl := [(qJ, .inr (2, [.ref qD, .ref qQ, .int (nI 0), .int f, .int ((rF gf gc ak f s9.2 k).2.1), .int ((rF gf gc ak f s9.2 k).2.2)])), (qQ, .inl (E.2.1, 16, .inl (fun w9 => nI (qu w9)))), (qD, .inr (0, [.ref qO, .ref qG, .ref qC, .ref qA, .ref qB, .int (nI n), .int (nI sp)])), (qO, .inl (E.2.1, 16, .inl (fun w9 => nI (ow w9)))), (qG, .inl (E.2.1, 16, .inl gf)), (qC, .inl (E.2.1, 16, .inl gc)), (qA, .inl (E.2.1, 16, .inl ak)), (qB, .inl (E.2.1, 3, .inl bk))]) (Wc := [(qJ, .inr (2, [.ref qD, .ref qQ, .int (nI 0), .int f, .int ((rF gf gc ak f s9.2 k).2.1), .int ((rF gf gc ak f s9.2 k).2.2)])), (qQ, .inl (E.2.1, 16, .inl (fun w9 => nI (qu w9)))), (qD, .inr (0, [.ref qO, .ref qG, .ref qC, .ref qA, .ref qB, .int (nI n), .int (nI sp)])), (qO, .inl (E.2.1, 16, .inl (fun w9 => nI (ow w9)))), (qG, .inl (E.2.1, 16, .inl gf)), (qC, .inl (E.2.1, 16, .inl gc)), (qA, .inl (E.2.1, 16, .inl ak)), (qB, .inl (E.2.1, 3, .inl bk))]) (Wr := []) (W1 := [(qJ, .inr (2, [.ref qD, .ref qQ, .int (nI 0), .int f, .int ((dR gf gc ak f k ((rF gf gc ak f s9.2 k).2.1) ((rF gf gc ak f s9.2 k).2.2)).2.1), .int ((dR gf gc ak f k ((rF gf gc ak f s9.2 k).2.1) ((rF gf gc ak f s9.2 k).2.2)).2.2)])), (qQ, .inl (E.2.1, 16, .inl (fun w9 => nI (qu w9)))), (qD, .inr (0, [.ref qO, .ref qG, .ref qC, .ref qA, .ref qB, .int (nI n), .int (nI sp)])), (qO, .inl (E.2.1, 16, .inl (fun w9 => nI (ow w9)))), (qG, .inl (E.2.1, 16, .inl gf)), (qC, .inl (E.2.1, 16, .inl gc)), (qA, .inl (E.2.1, 16, .inl ak)), (qB, .inl (E.2.1, 3, .inl bk))]) (W2 := [(qJ, .inr (2, [.ref qD, .ref qQ, .int (nI 0), .int f, .int ((dR gf gc ak f k ((rF gf gc ak f s9.2 k).2.1) ((rF gf gc ak f s9.2 k).2.2)).2.1), .int ((dR gf gc ak f k ((rF gf gc ak f s9.2 k).2.1) ((rF gf gc ak f s9.2 k).2.2)).2.2)])), (qQ, .inl (E.2.1, 16, .inl (fun w9 => nI (qu w9)))), (qD, .inr (0, [.ref qO, .ref qG, .ref qC, .ref qA, .ref qB, .int (nI n), .int (nI sp)])), (qO, .inl (E.2.1, 16, .inl (fun w9 => nI (ow w9)))), (qG, .inl (E.2.1, 16, .inl gf)), (qC, .inl (E.2.1, 16, .inl gc)), (qA, .inl (E.2.1, 16, .inl ak)), (qB, .inl (E.2.1, 3, .inl bk))]) (As := [.int (nI k)]) (rest := []) ⟨hx, hb, hml, hown, hts⟩ (c_X2_decide l E qJ qD qQ 0 f ((rF gf gc ak f s9.2 k).2.1) ((rF gf gc ak f s9.2 k).2.2) qu qO qG qC qA qB n sp ow gf gc ak bk H.size k (by omega)) (cwV 1 hts gX2_decideInRounds_X2_decide rfl rfl rfl (by decide +kernel) ⟨Nat.le_of_ble_eq_true rfl, Nat.le_of_ble_eq_true rfl⟩) hK hP hD hS hA [0, 1, 2, 3, 4, 5, 6, 7] [] [0, 1, 2, 3, 4, 5, 6, 7] rfl rfl (by decide) rfl (by decide) (by decide) rfl (by decide) (va_recv hK.1 hP (ci := 2) (q0 := 0) rfl rfl) rfl hl.1 rfl (Nat.le_of_ble_eq_true rfl) dX2_decideInRounds_39 ⟨Nat.zero_le _, Nat.zero_le _⟩ (fun H locs hP hD hS => ?_)
                refine lv_if_eq (tgt := 47) hx hb dX2_decideInRounds_42 (by decide) (fun c_42 => ?_) (fun c_42 => ?_)
                · have c_42 := zI_f c_42
                  refine lv_iinc (v := nI (k + 1)) (lv' := [(4, .int (nI (k + 1))), (0, .ref qJ), (1, .int f), (2, .int (zI ((rF gf gc ak f s9.2 k).1))), (3, .int (nI h))]) hx hb dX2_decideInRounds_47 hl (k := 4) rfl (nI_1 _) (by decide) rfl (fun ls hl => ?_)
                  refine lv_goto (tgt := 24) hx hb dX2_decideInRounds_50 (by decide) ?_
                  have hl : lv_has ls 5 [(0, .ref qJ), (1, .int f), (2, .int (zI ((rF gf gc ak f s9.2 (k + 1)).1))), (3, .int (nI h)), (4, .int (nI (k + 1)))] := by rw [show (rF gf gc ak f s9.2 (k + 1)).1 = (rF gf gc ak f s9.2 k).1 from by simp [rF, c_42]]; exact lv_sub hl [1, 2, 3, 4, 0] rfl
                  have hP : va_P E.1 vwCl [(qJ, .inr (2, [.ref qD, .ref qQ, .int (nI 0), .int f, .int ((rF gf gc ak f s9.2 (k + 1)).2.1), .int ((rF gf gc ak f s9.2 (k + 1)).2.2)])), (qQ, .inl (E.2.1, 16, .inl (fun w9 => nI (qu w9)))), (qD, .inr (0, [.ref qO, .ref qG, .ref qC, .ref qA, .ref qB, .int (nI n), .int (nI sp)])), (qO, .inl (E.2.1, 16, .inl (fun w9 => nI (ow w9)))), (qG, .inl (E.2.1, 16, .inl gf)), (qC, .inl (E.2.1, 16, .inl gc)), (qA, .inl (E.2.1, 16, .inl ak)), (qB, .inl (E.2.1, 3, .inl bk))] H := by exact hP
                  have hD : va_D A [(qJ, .inr (2, [.ref qD, .ref qQ, .int (nI 0), .int f, .int ((rF gf gc ak f s9.2 (k + 1)).2.1), .int ((rF gf gc ak f s9.2 (k + 1)).2.2)])), (qQ, .inl (E.2.1, 16, .inl (fun w9 => nI (qu w9)))), (qD, .inr (0, [.ref qO, .ref qG, .ref qC, .ref qA, .ref qB, .int (nI n), .int (nI sp)])), (qO, .inl (E.2.1, 16, .inl (fun w9 => nI (ow w9)))), (qG, .inl (E.2.1, 16, .inl gf)), (qC, .inl (E.2.1, 16, .inl gc)), (qA, .inl (E.2.1, 16, .inl ak)), (qB, .inl (E.2.1, 3, .inl bk))] := by exact hD
                  exact ih24 (k + 1) (by omega) (by omega)  _ _ hP hD hS ls hl
                · have c_42 := zI_t c_42
                  refine lv_iconst (v := 1) hx hb dX2_decideInRounds_45 (by decide) ?_
                  refine lv_istore_n (lv' := [(2, .int 1), (0, .ref qJ), (1, .int f), (3, .int (nI h)), (4, .int (nI k))]) hx hb dX2_decideInRounds_46 rfl hl (by decide) rfl (fun ls hl => ?_)
                  refine lv_iinc (v := nI (k + 1)) (lv' := [(4, .int (nI (k + 1))), (2, .int 1), (0, .ref qJ), (1, .int f), (3, .int (nI h))]) hx hb dX2_decideInRounds_47 hl (k := 4) rfl (nI_1 _) (by decide) rfl (fun ls hl => ?_)
                  refine lv_goto (tgt := 24) hx hb dX2_decideInRounds_50 (by decide) ?_
                  have hl : lv_has ls 5 [(0, .ref qJ), (1, .int f), (2, .int (zI ((rF gf gc ak f s9.2 (k + 1)).1))), (3, .int (nI h)), (4, .int (nI (k + 1)))] := by rw [show (rF gf gc ak f s9.2 (k + 1)).1 = true from by simp [rF, c_42]]; exact lv_sub hl [2, 3, 1, 4, 0] rfl
                  have hP : va_P E.1 vwCl [(qJ, .inr (2, [.ref qD, .ref qQ, .int (nI 0), .int f, .int ((rF gf gc ak f s9.2 (k + 1)).2.1), .int ((rF gf gc ak f s9.2 (k + 1)).2.2)])), (qQ, .inl (E.2.1, 16, .inl (fun w9 => nI (qu w9)))), (qD, .inr (0, [.ref qO, .ref qG, .ref qC, .ref qA, .ref qB, .int (nI n), .int (nI sp)])), (qO, .inl (E.2.1, 16, .inl (fun w9 => nI (ow w9)))), (qG, .inl (E.2.1, 16, .inl gf)), (qC, .inl (E.2.1, 16, .inl gc)), (qA, .inl (E.2.1, 16, .inl ak)), (qB, .inl (E.2.1, 3, .inl bk))] H := by exact hP
                  have hD : va_D A [(qJ, .inr (2, [.ref qD, .ref qQ, .int (nI 0), .int f, .int ((rF gf gc ak f s9.2 (k + 1)).2.1), .int ((rF gf gc ak f s9.2 (k + 1)).2.2)])), (qQ, .inl (E.2.1, 16, .inl (fun w9 => nI (qu w9)))), (qD, .inr (0, [.ref qO, .ref qG, .ref qC, .ref qA, .ref qB, .int (nI n), .int (nI sp)])), (qO, .inl (E.2.1, 16, .inl (fun w9 => nI (ow w9)))), (qG, .inl (E.2.1, 16, .inl gf)), (qC, .inl (E.2.1, 16, .inl gc)), (qA, .inl (E.2.1, 16, .inl ak)), (qB, .inl (E.2.1, 3, .inl bk))] := by exact hD
                  exact ih24 (k + 1) (by omega) (by omega)  _ _ hP hD hS ls hl
          have hl : lv_has ls 5 [(0, .ref qJ), (1, .int f), (2, .int (zI ((rF gf gc ak f s9.2 0).1))), (3, .int (nI h)), (4, .int (nI 0))] := by exact lv_sub hl [2, 3, 1, 4, 0] rfl
          have hP : va_P E.1 vwCl [(qJ, .inr (2, [.ref qD, .ref qQ, .int (nI 0), .int f, .int ((rF gf gc ak f s9.2 0).2.1), .int ((rF gf gc ak f s9.2 0).2.2)])), (qQ, .inl (E.2.1, 16, .inl (fun w9 => nI (qu w9)))), (qD, .inr (0, [.ref qO, .ref qG, .ref qC, .ref qA, .ref qB, .int (nI n), .int (nI sp)])), (qO, .inl (E.2.1, 16, .inl (fun w9 => nI (ow w9)))), (qG, .inl (E.2.1, 16, .inl gf)), (qC, .inl (E.2.1, 16, .inl gc)), (qA, .inl (E.2.1, 16, .inl ak)), (qB, .inl (E.2.1, 3, .inl bk))] H := by exact hP
          have hD : va_D A [(qJ, .inr (2, [.ref qD, .ref qQ, .int (nI 0), .int f, .int ((rF gf gc ak f s9.2 0).2.1), .int ((rF gf gc ak f s9.2 0).2.2)])), (qQ, .inl (E.2.1, 16, .inl (fun w9 => nI (qu w9)))), (qD, .inr (0, [.ref qO, .ref qG, .ref qC, .ref qA, .ref qB, .int (nI n), .int (nI sp)])), (qO, .inl (E.2.1, 16, .inl (fun w9 => nI (ow w9)))), (qG, .inl (E.2.1, 16, .inl gf)), (qC, .inl (E.2.1, 16, .inl gc)), (qA, .inl (E.2.1, 16, .inl ak)), (qB, .inl (E.2.1, 3, .inl bk))] := by exact hD
          exact loop24 (n + 1) 0 (by omega) (by omega)  _ _ hP hD hS ls hl
  have hl : lv_has ls 5 [(0, .ref qJ), (1, .int f), (2, .int (zI (true, (0 : Int32), (0 : Int32)).1)), (3, .int (nI 0))] := by exact lv_sub hl [2, 3, 1, 0] rfl
  have hP : va_P E.1 vwCl [(qJ, .inr (2, [.ref qD, .ref qQ, .int (nI 0), .int f, .int ((true, (0 : Int32), (0 : Int32)).2.1), .int ((true, (0 : Int32), (0 : Int32)).2.2)])), (qQ, .inl (E.2.1, 16, .inl (fun w9 => nI (qu w9)))), (qD, .inr (0, [.ref qO, .ref qG, .ref qC, .ref qA, .ref qB, .int (nI n), .int (nI sp)])), (qO, .inl (E.2.1, 16, .inl (fun w9 => nI (ow w9)))), (qG, .inl (E.2.1, 16, .inl gf)), (qC, .inl (E.2.1, 16, .inl gc)), (qA, .inl (E.2.1, 16, .inl ak)), (qB, .inl (E.2.1, 3, .inl bk))] H := by exact hP
  have hD : va_D A [(qJ, .inr (2, [.ref qD, .ref qQ, .int (nI 0), .int f, .int ((true, (0 : Int32), (0 : Int32)).2.1), .int ((true, (0 : Int32), (0 : Int32)).2.2)])), (qQ, .inl (E.2.1, 16, .inl (fun w9 => nI (qu w9)))), (qD, .inr (0, [.ref qO, .ref qG, .ref qC, .ref qA, .ref qB, .int (nI n), .int (nI sp)])), (qO, .inl (E.2.1, 16, .inl (fun w9 => nI (ow w9)))), (qG, .inl (E.2.1, 16, .inl gf)), (qC, .inl (E.2.1, 16, .inl gc)), (qA, .inl (E.2.1, 16, .inl ak)), (qB, .inl (E.2.1, 3, .inl bk))] := by exact hD
  exact loop9 (16 + 1) 0 (by omega) (by omega) (true, (0 : Int32), (0 : Int32)) rfl _ _ hP hD hS ls hl
end
section
theorem zz_end : True := trivial
end
