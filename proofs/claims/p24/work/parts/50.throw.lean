section THROWL
variable {p : Program} {l : Launch} {e : Env} {R : Room} {s : State} {m : MethodId} {args : Array Value} {below : List Frame} {meth : Method} {c : Code} {H : Heap} {locs : List Loc} {cells slots : Nat} {Q : State → Prop}
variable {mc ms : Nat} {free : Addr → Prop} {A0 A1 : Nat → Prop} {H0 : Heap} {a : Array Value} {ls : Array Slot} {st0 rest : List Value}
variable {Qc : Array Value → State → Outcome → State → Prop} {XC : String → State → State → Prop}
theorem vx_throwL {cc : ByteArray} {pc : Nat} (hexec : p.tables.exec = Jvm.exec) (hb : c.code = cc) (hl : l.stackTraces = false) {own cls text : String} {names : List String} {ik is ic mc ms sa : Nat} {A : Nat → Prop}
    (hown : s.vm.findClass own = some m.cls) (hcls : Bundle.fit cls = true) (hnames : ∀ n ∈ names, Bundle.fit n = true)
    (hk : (Cond.classLink own ik cls).before args s = true) (hini : (Cond.initialized cls).before args s = true) (hstr : vk_R own is text sa s) (hat : ∀ w ∈ vx_atS own ic cls names, w.before args s = true)
    (hgood : ∀ w ∈ Cond.classLink own ik cls :: Cond.initialized cls :: vx_atS own ic cls names, vx_ot w = true)
    (hU : vx_Zq Bundle.tN "UNASSIGNED_STACK" Bundle.steD A s s.heap) (hN : vx_Zq Bundle.tN "SUPPRESSED_SENTINEL" Bundle.listD A s s.heap) (hS : va_S A s.heap H locs) (hsize : ls.size = c.maxLocals)
    (d0 : decode cc pc = .ok (.new ik, 3)) (d3 : decode cc (pc + 3) = .ok (.dup, 1)) (d4 : decode cc (pc + 4) = .ok (.ldc is, 2)) (d6 : decode cc (pc + 6) = .ok (.invokespecial ic, 3)) (d9 : decode cc (pc + 9) = .ok (.athrow, 1))
    (hout : ∀ x ∈ c.exceptionTable.toList, covers x (pc + 9) = false)
    (hRframes : names.length + 3 < R.frames) (hRlocals : (rest.map fun v => v.category).sum + (13 * (names.length + 1) + 43) ≤ R.locals) (hRcells : cells + 1 ≤ R.cells) (hRslots : slots + 6 ≤ R.slots) (hlocks : meth.locks = false)
    (hx : ∀ t : State, s.vm.Alike t.vm → H.size + 1 ≤ t.heap.size → (∀ q : Nat, q < H.size → t.heap[q]? = H[q]?) → XC cls s t)
    (hf : ∀ z ∈ locs, free z.base) (hc : cells + 1 ≤ mc) (hs : slots + 6 ≤ ms) :
    W p l e R s m args below meth c H locs cells slots (vx_MQ below Qc XC args s mc ms free) (F0 m pc ls rest) := by
  intro T hT X
  have htr : e.platform.stackTraces = false := (show e.platform.stackTraces = l.stackTraces by rw [X.admits.platform]).trans hl
  have Y := vx_rebase X (R' := { frames := R.frames, locals := R.locals, cells := 1, slots := 6 }) (Nat.le_refl _) (Nat.le_refl _) hRcells hRslots
  obtain ⟨s', hA⟩ : ∃ z, z = (T.setVm s.vm).setFrames (.invoking m args :: below) := ⟨_, rfl⟩
  rw [← hA] at Y
  have hvm : s'.vm = s.vm := by rw [hA]; rfl
  have hhp : s'.heap = H := by rw [hA]; exact hT
  have hW0 : s.WarmedH s'.vm := by rw [hvm]; exact State.WarmedH.refl s
  have hat' : ∀ w ∈ vx_atS own ic cls names, w.before args s' = true := fun w hw => vx_ot_at hW0 hvm.symm (hgood w (List.mem_cons_of_mem _ (List.mem_cons_of_mem _ hw))) (hat w hw)
  have hk' : (Cond.classLink own ik cls).before args s' = true := vx_ot_at hW0 hvm.symm (hgood _ List.mem_cons_self) hk
  have hini' : (Cond.initialized cls).before args s' = true := vx_ot_at hW0 hvm.symm (hgood _ (List.mem_cons_of_mem _ List.mem_cons_self)) hini
  have hU' : vx_Zq Bundle.tN "UNASSIGNED_STACK" Bundle.steD A s' s'.heap := by rw [hhp]; exact vx_Zq.moved hW0.alike (hU.kept hS.2.1)
  have hN' : vx_Zq Bundle.tN "SUPPRESSED_SENTINEL" Bundle.listD A s' s'.heap := by rw [hhp]; exact vx_Zq.moved hW0.alike (hN.kept hS.2.1)
  have h : ∀ w ∈ Bundle.ownAtoms own ic cls names, w.before args s' = true := vx_own hat' (vx_isRefq hU'.1) (vx_isRefq hN'.1) hU'.2.word hN'.2.word
  have hown' : s'.vm.findClass own = some m.cls := by rw [hvm]; exact hown
  have hins : (Cond.instantiable cls 6).before args s' = true := h _ (by simp [Bundle.ownAtoms])
  obtain ⟨vm₁, cX, kX, hfX, hkX, -, -, X₁, st1⟩ := Y.newCold hexec (own := own) (C := cls) (index := ik) (n := 6) hown' hk' hins hini'
    (g := F0 m pc ls rest) rfl (by rw [hb]; exact d0) (Nat.le_refl _) (Nat.le_refl _)
  generalize hT1 : (T.setVm vm₁).pushCell { cls := cX, slots := kX.instanceTypes.map defaultValue, vm := .none } = T1 at X₁ st1
  have hcat : (Value.ref T.heap.size).category = 1 := rfl
  have hcellA : T1.heap[T.heap.size]? = some (freshCell cX kX) := by rw [← hT1]; exact State.heap_pushCell_size _ _
  have d3' : decode c.code (pc + 3) = .ok (.dup, 1) := by rw [hb]; exact d3
  have d4' : decode c.code (pc + 4) = .ok (.ldc is, 2) := by rw [hb]; exact d4
  have hstr' : vk_R own is text sa s' := vk_R.warm hW0 hstr
  obtain ⟨U, hsteps, hrun, hend, hW, hsame, ce, hce, hO⟩ := X₁.ctorThrowS hexec htr (own := own) (cls := cls) (names := names) (ic := ic) hown' hcls hnames h (fun x hx => nomatch hx) hfX hkX hcellA (by rw [hhp, hT]; exact Nat.le_refl _) (msg := .ref sa) rfl
    (g := { method := m, pc := pc + 6, locals := ls, stack := .ref sa :: .ref T.heap.size :: .ref T.heap.size :: rest, locked := none }) rfl hsize rfl rfl (rest := rest) rfl
    (by rw [hb]; exact d6) (by rw [hb]; exact d9) hout hRframes (by simp only [List.map_cons, List.sum_cons, hcat]; omega) hlocks
  obtain ⟨f1, f2⟩ := vx_frame hsame
  rw [hhp] at f1 f2
  have hWs : s.WarmedH U.vm := State.WarmedH.trans hW0 hW
  have hcl : s.vm.findClass cls = some ce.cls := by
    have h9 := hO.cls
    rw [hvm] at h9
    exact h9
  have hall : s.sameButNew ({ U with vm := s.vm } : State) locs mc ms := by
    subst hA
    obtain ⟨e1, e2⟩ := hsame
    rw [State.setFrames_setFrames] at e1
    have h2 : (T.setVm s.vm).sameButNew ({ U with vm := s.vm } : State) [] (0 + 1) (0 + 6) := ⟨e1, e2⟩
    have h3 := X.same.trans h2
    rw [List.append_nil] at h3
    exact h3.mono hc hs
  refine ⟨U, ?_, .threw T.heap.size, hrun, hend, Or.inr ⟨T.heap.size, rfl, cls, ce, locs, hx U hWs.alike (by rw [← hT]; exact (Array.getElem?_eq_some_iff.mp hce).1) (fun q hq => f2 q hq (fun z hz => nomatch hz)), hce, hO.vm, hcl, hWs, hall, hf⟩⟩
  refine st1 _ ?_
  show Steps p.tables e below (T1.setTop { method := m, pc := pc + 3, locals := ls, stack := .ref T.heap.size :: rest, locked := none }) _
  jvm_step X₁.here [X₁.here.top, hexec, d3', Value.category]
  exact X₁.ldcString hexec (own := own) (text := text) (index := is) (a := sa) hown' hstr'.1 hstr'.2
    (g := { method := m, pc := pc + 4, locals := ls, stack := .ref T.heap.size :: .ref T.heap.size :: rest, locked := none }) rfl d4' _ hsteps
end THROWL
/-! ===== ours: methods that throw ===== -/
def kC (U : State) : Prop := (∃ a, vk_R RX3 149 "there is no such source" a U) ∧ (∃ a, vk_R RX3 50 "there is no room for another fact" a U) ∧ (∃ a, vk_R RX3 81 "there is no such fact" a U) ∧ (∃ a, vk_R RX3 84 "the seconds are out of range" a U) ∧ (∃ a, vk_R RX3 89 "there is no room for another claim, or too little time" a U) ∧ (∃ a, vk_R RX3 154 "there is no such claim" a U) ∧ (∃ a, vk_R RX3 156 "both claims are the same" a U) ∧ (∃ a, vk_R RX3 152 "there is no such player" a U) ∧
  va_Nw (.castable "java/lang/IndexOutOfBoundsException" "java/lang/IndexOutOfBoundsException") U ∧ va_Nw (.castable "java/lang/IllegalArgumentException" "java/lang/IllegalArgumentException") U ∧ va_Nw (.castable "java/lang/IllegalStateException" "java/lang/IllegalStateException") U ∧
  va_Nc "java/lang/IllegalStateException" "java/lang/IndexOutOfBoundsException" U ∧ va_Nc "java/lang/IllegalStateException" "java/lang/IllegalArgumentException" U ∧ va_Nc "java/lang/IllegalArgumentException" "java/lang/IndexOutOfBoundsException" U ∧
  va_Nw (.declares (Bundle.initS "java/lang/RuntimeException")) U ∧ va_Nw (.declares (Bundle.initS "java/lang/Exception")) U ∧ va_Nw (.declares (Bundle.initS Bundle.tN)) U
theorem kC.warm {s U : State} (hW : s.WarmedH U.vm) (h : kC s) : kC U := by
  obtain ⟨⟨a1, h1⟩, ⟨a2, h2⟩, ⟨a3, h3⟩, ⟨a4, h4⟩, ⟨a5, h5⟩, ⟨a6, h6⟩, ⟨a7, h7⟩, ⟨a8, h8⟩, h9, h10, h11, h12, h13, h14, h15, h16, h17⟩ := h
  exact ⟨⟨a1, h1.warm hW⟩, ⟨a2, h2.warm hW⟩, ⟨a3, h3.warm hW⟩, ⟨a4, h4.warm hW⟩, ⟨a5, h5.warm hW⟩, ⟨a6, h6.warm hW⟩, ⟨a7, h7.warm hW⟩, ⟨a8, h8.warm hW⟩, va_Nw.warmC hW h9, va_Nw.warmC hW h10, va_Nw.warmC hW h11, va_Nc.moved hW.alike h12, va_Nc.moved hW.alike h13, va_Nc.moved hW.alike h14, va_Nw.warmD hW h15, va_Nw.warmD hW h16, va_Nw.warmD hW h17⟩
theorem kC.calling {U : State} {g : JFrame} {mk : MethodId} {a : Array Value} (h : kC U) : kC (U.calling g mk a) := by
  have hv : (U.calling g mk a).vm = U.vm := rfl
  obtain ⟨⟨a1, h1⟩, ⟨a2, h2⟩, ⟨a3, h3⟩, ⟨a4, h4⟩, ⟨a5, h5⟩, ⟨a6, h6⟩, ⟨a7, h7⟩, ⟨a8, h8⟩, h9, h10, h11, h12, h13, h14, h15, h16, h17⟩ := h
  exact ⟨⟨a1, vk_R.same hv h1⟩, ⟨a2, vk_R.same hv h2⟩, ⟨a3, vk_R.same hv h3⟩, ⟨a4, vk_R.same hv h4⟩, ⟨a5, vk_R.same hv h5⟩, ⟨a6, vk_R.same hv h6⟩, ⟨a7, vk_R.same hv h7⟩, ⟨a8, vk_R.same hv h8⟩, va_Nw.same rfl rfl h9, va_Nw.same rfl rfl h10, va_Nw.same rfl rfl h11, va_Nc.moved (u := U) (U := U.calling g mk a) (Vm.Alike.refl U.vm) h12, va_Nc.moved (u := U) (U := U.calling g mk a) (Vm.Alike.refl U.vm) h13, va_Nc.moved (u := U) (U := U.calling g mk a) (Vm.Alike.refl U.vm) h14, va_Nw.same rfl rfl h15, va_Nw.same rfl rfl h16, va_Nw.same rfl rfl h17⟩
/-- what a throw needs of the state: the two statics below the heap's end, and the tables' words -/
def kT (U : State) : Prop := vx_Zq Bundle.tN "UNASSIGNED_STACK" Bundle.steD (fun q : Nat => U.heap.size ≤ q) U U.heap ∧ vx_Zq Bundle.tN "SUPPRESSED_SENTINEL" Bundle.listD (fun q : Nat => U.heap.size ≤ q) U U.heap ∧ kC U
theorem kT.calling {U : State} {g : JFrame} {mk : MethodId} {a : Array Value} (h : kT U) : kT (U.calling g mk a) := ⟨vx_Zq.moved (u := U) (U := U.calling g mk a) (Vm.Alike.refl U.vm) h.1, vx_Zq.moved (u := U) (U := U.calling g mk a) (Vm.Alike.refl U.vm) h.2.1, h.2.2.calling⟩
/-- .. in a later heap, where what was there stands -/
theorem kT.at {s U : State} {H : Heap} {locs : List Loc} (h : kT s) (hS : va_S (fun q : Nat => s.heap.size ≤ q) s.heap H locs) (hU : U.heap = H) (hW : s.WarmedH U.vm) : kT U := by
  have e1 := vx_Zq.narrow (B := fun q : Nat => H.size ≤ q) (vx_Zq.moved hW.alike (vx_Zq.kept h.1 hS.2.1)) (fun q hq => Nat.le_trans hS.1 hq)
  have e2 := vx_Zq.narrow (B := fun q : Nat => H.size ≤ q) (vx_Zq.moved hW.alike (vx_Zq.kept h.2.1 hS.2.1)) (fun q hq => Nat.le_trans hS.1 hq)
  subst hU
  exact ⟨e1, e2, h.2.2.warm hW⟩
def pT (E : gE) (W : va_W) (sz : Nat) (U : State) : Prop := U.heap.size = sz ∧ va_P E.1 vwCl W U.heap ∧ kS E U ∧ va_D (fun _ => True) W ∧ kT U
theorem pT_blind {av : List Value} {E : gE} {W : va_W} {sz : Nat} : FrameBlind (va_Pc av (pT E W sz)) := fun _ _ _ _ q => ⟨q.1, q.2.1, q.2.2.1, q.2.2.2.1.calling, q.2.2.2.2.1, q.2.2.2.2.2.calling⟩
abbrev qT (sz : Nat) : Array Value → State → Outcome → State → Prop := va_Qv (fun (_ : Unit) => False) (fun _ _ => True) (fun q : Nat => sz ≤ q)
/-- a throw makes a cell: its heap is greater by one at the least -/
abbrev xT (EN : String) (sz : Nat) : String → State → State → Prop := vx_X (fun (_ : Unit) => True) (fun E9 _ t => E9 = EN ∧ sz + 1 ≤ t.heap.size) (fun q : Nat => sz ≤ q)
abbrev xL (A : Nat → Prop) : String → State → State → Prop := vx_X (fun (_ : Unit) => False) (fun _ _ _ => True) A
theorem nIx_no {v : Int32} {N : Nat} (hN : N < 2 ^ 31) (h : nIx v N) (h0 : ¬ v < 0) (h1 : v < nI N) : False := by
  obtain ⟨j, hj, rfl⟩ := nI_of3 hN h0 h1
  exact h j hj rfl
section OURS4
variable {p : Program} {l : Launch} {e : Env} {R : Room} {s : State} {m : MethodId} {args : Array Value} {below : List Frame} {meth : Method} {c : Code} {H : Heap} {locs : List Loc} {cells slots : Nat} {Q : State → Prop}
variable {cc : ByteArray} {pc : Nat} {ls : Array Slot} {rest st0 : List Value} {E : gE} {A : Nat → Prop} {H0 : Heap} {ws : va_W} {a : Nat}
variable {y : MethodName} {bytes : ByteArray} {maxL nL mc ms n index : Nat} {ret : Option FieldType} {wsy : List Cond} {rm : Room} {Ts : List Cond} {own C host : String} {b : Addr} {As : List Value}
/-- a call that throws, of a method that throws the same -/
theorem cl_T {EN : String} {Wl Wc : va_W} (S : CallFix p m c cc nL s args Ts own) (hM : vx_Met l y wsy rm (va_Pc (Value.ref b :: As) (pT E Wc s.heap.size)) (qT s.heap.size) (xT EN s.heap.size) 1 6 (fun q : Nat => s.heap.size ≤ q)) (cw : CallW R s args own C index y bytes maxL ret wsy rm 1 6 n) (hK : kS E s) (hT : kT s)
    (hP : va_P E.1 vwCl Wl s.heap) (hD : va_D (fun _ => True) Wl) (isC : List Nat) (hC0 : isC.filterMap (fun i => Wl[i]?) = Wc) (hC : isC.map (fun i => Wl[i]?) = Wc.map some) (hnC : va_nd isC = true)
    (hrv : ∃ cell : Cell, s.heap[b]? = some cell ∧ cell.vm.isStatics = false ∧ s.vm.findClass C = some cell.cls) (hn : As.length = n) (hsize : ls.size = nL) (hst : st0 = As.reverse ++ .ref b :: rest) (hWd : (rest.map fun v => v.category).sum ≤ 8) (hdg : decode cc pc = .ok (.invokevirtual index, 3)) (hf : 0 + 1 ≤ R.cells ∧ 0 + 6 ≤ R.slots)
    (hlocks : meth.locks = false) (hex : ∀ x ∈ c.exceptionTable.toList, False) : W p l e R s m args below meth c s.heap [] 0 0 (vx_MQ below (qT s.heap.size) (xT EN s.heap.size) args s 1 6 (fun q : Nat => s.heap.size ≤ q)) (F0 m pc ls st0) := by
  refine vx_callv (A0 := fun q : Nat => s.heap.size ≤ q) (vx_runV (As := As) (rest := rest) S hM cw ⟨pT_blind, hrv, fun U hU hW => ⟨rfl, by rw [hU], by rw [hU]; exact hP.sub isC hC0, hK.warm hW, hD.sub isC hnC hC, hT.at va_S.rf hU hW⟩⟩ rfl hn hsize hst (lv_room hWd) hdg hf) va_S.rf (fun q _ h => h) (fun q h => h) (fun q _ h => h) (fun E9 ce q9 u t H1 locs1 ht hvm hu hB hz hk hS h9 hv hcl => ?_) (fun u t H1 locs1 ht hvm hu => hu.elim)
  exact vx_out (fun x hx => (hex x hx).elim) hlocks h9 hv hcl (fun t' ht' _ => ⟨(), trivial, ⟨hB.1, by rw [ht', ← ht]; exact hB.2⟩, by rw [ht']; exact hz, fun q h1 h2 => by rw [ht']; exact hk q h1 h2⟩) hS.2.2 (Nat.le_refl _) (Nat.le_refl _)
/-- a call that throws, caught or not: the world stands -/
theorem cl_C {EN : String} {Wl Wc : va_W} (S : CallFix p m c cc nL s args Ts own) (hM : vx_Met l y wsy rm (va_Pc (Value.ref b :: As) (pT E Wc s.heap.size)) (qT s.heap.size) (xT EN s.heap.size) 1 6 (fun q : Nat => s.heap.size ≤ q)) (cw : CallW R s args own C index y bytes maxL ret wsy rm 1 6 n) (hK : kS E s) (hT : kT s)
    (hP : va_P E.1 vwCl Wl s.heap) (hD : va_D A Wl) (hA : ∀ q, s.heap.size ≤ q → A q) (isC : List Nat) (hC0 : isC.filterMap (fun i => Wl[i]?) = Wc) (hC : isC.map (fun i => Wl[i]?) = Wc.map some) (hnC : va_nd isC = true)
    (hrv : ∃ cell : Cell, s.heap[b]? = some cell ∧ cell.vm.isStatics = false ∧ s.vm.findClass C = some cell.cls) (hn : As.length = n) (hsize : ls.size = nL) (hst : st0 = As.reverse ++ .ref b :: rest) (hWd : (rest.map fun v => v.category).sum ≤ 8) (hdg : decode cc pc = .ok (.invokevirtual index, 3)) (hf : 0 + 1 ≤ R.cells ∧ 0 + 6 ≤ R.slots)
    (kx : ∀ (ce : Cell) (q9 : Addr) (H1 : Heap) (locs1 : List Loc), va_P E.1 vwCl Wl H1 → va_S A s.heap H1 locs1 → s.heap.size + 1 ≤ H1.size → H1[q9]? = some ce → ce.vm = .none → s.vm.findClass EN = some ce.cls → vx_W p l e R s m args below meth c H1 locs1 1 6 Q (F0 m pc ls rest) q9) : W p l e R s m args below meth c s.heap [] 0 0 Q (F0 m pc ls st0) := by
  refine vx_callv (A0 := A) (vx_runV (As := As) (rest := rest) S hM cw ⟨pT_blind, hrv, fun U hU hW => ⟨rfl, by rw [hU], by rw [hU]; exact hP.sub isC hC0, hK.warm hW, (hD.sub isC hnC hC).weaken (fun _ _ _ _ => trivial), hT.at va_S.rf hU hW⟩⟩ rfl hn hsize hst (lv_room hWd) hdg hf) va_S.rf (fun q _ h => hA q h) (fun q h => hA q h) (fun q _ h => hA q h) (fun E9 ce q9 u t H1 locs1 ht hvm hu hB hz hk hS h9 hv hcl => ?_) (fun u t H1 locs1 ht hvm hu => hu.elim)
  obtain ⟨hB1, hB2⟩ := hB
  subst hB1
  exact kx ce q9 H1 locs1 (va_P.kept hP (fun k q hq => hk q.1 (vx_lt hP hq) (Nat.not_le.mpr (vx_lt hP hq)))) hS (by rw [← ht]; exact hB2) h9 hv hcl
end OURS4
theorem inF_mk {v a b : Int32} (h0 : ¬ v < a) (h1 : v ≤ b) : inF v a b = true := by
  unfold inF
  rw [decide_eq_false h0, decide_eq_false (Int32.not_lt.mpr h1)]
  rfl

