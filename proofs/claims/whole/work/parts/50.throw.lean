/-! ===== ours: methods that throw ===== -/
def kC (U : State) : Prop := (∃ a, vk_R RX3 149 "there is no such source" a U) ∧ (∃ a, vk_R RX3 50 "there is no room for another fact" a U) ∧ (∃ a, vk_R RX3 81 "there is no such fact" a U) ∧ (∃ a, vk_R RX3 84 "the seconds are out of range" a U) ∧ (∃ a, vk_R RX3 89 "there is no room for another claim, or too little time" a U) ∧ (∃ a, vk_R RX3 154 "there is no such claim" a U) ∧ (∃ a, vk_R RX3 156 "both claims are the same" a U) ∧ (∃ a, vk_R RX3 152 "there is no such player" a U) ∧
  va_Nw (.castable "java/lang/IndexOutOfBoundsException" "java/lang/IndexOutOfBoundsException") U ∧ va_Nw (.castable "java/lang/IllegalArgumentException" "java/lang/IllegalArgumentException") U ∧ va_Nw (.castable "java/lang/IllegalStateException" "java/lang/IllegalStateException") U ∧
  va_Nc "java/lang/IllegalStateException" "java/lang/IndexOutOfBoundsException" U ∧ va_Nc "java/lang/IllegalStateException" "java/lang/IllegalArgumentException" U ∧ va_Nc "java/lang/IllegalArgumentException" "java/lang/IndexOutOfBoundsException" U ∧
  va_Nw (.declares (Bundle.initS "java/lang/RuntimeException")) U ∧ va_Nw (.declares (Bundle.initS "java/lang/Exception")) U ∧ va_Nw (.declares (Bundle.initS Bundle.tN)) U
theorem kC.warm {s U : State} (hW : s.WarmedH U.vm) (h : kC s) : kC U := by
  obtain ⟨⟨a1, h1⟩, ⟨a2, h2⟩, ⟨a3, h3⟩, ⟨a4, h4⟩, ⟨a5, h5⟩, ⟨a6, h6⟩, ⟨a7, h7⟩, ⟨a8, h8⟩, h9, h10, h11, h12, h13, h14, h15, h16, h17⟩ := h
  exact ⟨⟨a1, h1.warm hW⟩, ⟨a2, h2.warm hW⟩, ⟨a3, h3.warm hW⟩, ⟨a4, h4.warm hW⟩, ⟨a5, h5.warm hW⟩, ⟨a6, h6.warm hW⟩, ⟨a7, h7.warm hW⟩, ⟨a8, h8.warm hW⟩, va_Nw.warmC hW h9, va_Nw.warmC hW h10, va_Nw.warmC hW h11, va_Nc.moved hW.alike h12, va_Nc.moved hW.alike h13, va_Nc.moved hW.alike h14, va_Nw.warmD hW h15, va_Nw.warmD hW h16, va_Nw.warmD hW h17⟩
theorem kC.calling {U : State} {g : JFrame} {mk : MethodId} {a : Array Value} (h : kC U) : kC (U.calling g mk a) := by
  have hv : (U.calling g mk a).vm = U.vm := rfl
  obtain ⟨⟨a1, h1⟩, ⟨a2, h2⟩, ⟨a3, h3⟩, ⟨a4, h4⟩, ⟨a5, h5⟩, ⟨a6, h6⟩, ⟨a7, h7⟩, ⟨a8, h8⟩, h9, h10, h11, h12, h13, h14, h15, h16, h17⟩ := h
  exact ⟨⟨a1, vk_R.same hv h1⟩, ⟨a2, vk_R.same hv h2⟩, ⟨a3, vk_R.same hv h3⟩, ⟨a4, vk_R.same hv h4⟩, ⟨a5, vk_R.same hv h5⟩, ⟨a6, vk_R.same hv h6⟩, ⟨a7, vk_R.same hv h7⟩, ⟨a8, vk_R.same hv h8⟩, va_Nw.same rfl rfl h9, va_Nw.same rfl rfl h10, va_Nw.same rfl rfl h11, va_Nc.moved (u := U) (U := U.calling g mk a) (Vm.Alike.refl U.vm) h12, va_Nc.moved (u := U) (U := U.calling g mk a) (Vm.Alike.refl U.vm) h13, va_Nc.moved (u := U) (U := U.calling g mk a) (Vm.Alike.refl U.vm) h14, va_Nw.same rfl rfl h15, va_Nw.same rfl rfl h16, va_Nw.same rfl rfl h17⟩
/-- what a throw needs of the state: the two statics below the heap's end, and the tables' words -/
def kT (U : State) : Prop := vx_Zq Bundle.tN "UNASSIGNED_STACK" Bundle.steD (fun q : Nat => U.heap.size ≤ q) U U.heap ∧ vx_Zq Bundle.tN "SUPPRESSED_SENTINEL" Bundle.listD (fun q : Nat => U.heap.size ≤ q) U U.heap ∧ kC U
theorem kT.calling {U : State} {g : JFrame} {mk : MethodId} {a : Array Value} (h : kT U) : kT (U.calling g mk a) := ⟨vx_Zq.moved (u := U) (U := U.calling g mk a) (Vm.Alike.refl U.vm) h.1, vx_Zq.moved (u := U) (U := U.calling g mk a) (Vm.Alike.refl U.vm) h.2.1, h.2.2.calling⟩
/-- .. in a later heap, where what was there stands -/
theorem kT.at {s U : State} {H : Heap} {locs : List Loc} (h : kT s) (hS : va_S (fun q : Nat => s.heap.size ≤ q) s.heap H locs) (hU : U.heap = H) (hW : s.WarmedH U.vm) : kT U := by
  have e1 := vx_Zq.narrow (B := fun q : Nat => H.size ≤ q) (vx_Zq.moved hW.alike (vx_Zq.kept h.1 hS.2.1)) (fun q hq => Nat.le_trans hS.1 hq)
  have e2 := vx_Zq.narrow (B := fun q : Nat => H.size ≤ q) (vx_Zq.moved hW.alike (vx_Zq.kept h.2.1 hS.2.1)) (fun q hq => Nat.le_trans hS.1 hq)
  subst hU
  exact ⟨e1, e2, h.2.2.warm hW⟩
def pT (E : gE) (W : va_W) (sz : Nat) (U : State) : Prop := U.heap.size = sz ∧ va_P E.1 vwCl W U.heap ∧ kS E U ∧ va_D (fun _ => True) W ∧ kT U
theorem pT_blind {av : List Value} {E : gE} {W : va_W} {sz : Nat} : FrameBlind (va_Pc av (pT E W sz)) := fun _ _ _ _ q => ⟨q.1, q.2.1, q.2.2.1, q.2.2.2.1.calling, q.2.2.2.2.1, q.2.2.2.2.2.calling⟩
abbrev qT (sz : Nat) : Array Value → State → Outcome → State → Prop := va_Qv (fun (_ : Unit) => False) (fun _ _ => True) (fun q : Nat => sz ≤ q)
abbrev xT (EN : String) (sz : Nat) : String → State → State → Prop := vx_X (fun (_ : Unit) => True) (fun E9 _ _ => E9 = EN) (fun q : Nat => sz ≤ q)
abbrev xL (A : Nat → Prop) : String → State → State → Prop := vx_X (fun (_ : Unit) => False) (fun _ _ _ => True) A
theorem nIx_no {v : Int32} {N : Nat} (hN : N < 2 ^ 31) (h : nIx v N) (h0 : ¬ v < 0) (h1 : v < nI N) : False := by
  obtain ⟨j, hj, rfl⟩ := nI_of3 hN h0 h1
  exact h j hj rfl
section OURS4
variable {p : Program} {l : Launch} {e : Env} {R : Room} {s : State} {m : MethodId} {args : Array Value} {below : List Frame} {meth : Method} {c : Code} {H : Heap} {locs : List Loc} {cells slots : Nat} {Q : State → Prop}
variable {cc : ByteArray} {pc : Nat} {ls : Array Slot} {rest st0 : List Value} {E : gE} {A : Nat → Prop} {H0 : Heap} {ws : va_W} {a : Nat}
variable {y : MethodName} {bytes : ByteArray} {maxL nL mc ms n index : Nat} {ret : Option FieldType} {wsy : List Cond} {rm : Room} {Ts : List Cond} {own C host : String} {b : Addr} {As : List Value}
/-- a call that throws, of a method that throws the same -/
theorem cl_T {EN : String} {Wl Wc : va_W} (S : CallFix p m c cc nL s args Ts own) (hM : vx_Met l y wsy rm (va_Pc (Value.ref b :: As) (pT E Wc s.heap.size)) (qT s.heap.size) (xT EN s.heap.size) 1 6 (fun q : Nat => s.heap.size ≤ q)) (cw : CallW R s args own C index y bytes maxL ret wsy rm 1 6 n) (hK : kS E s) (hT : kT s)
    (hP : va_P E.1 vwCl Wl s.heap) (hD : va_D (fun _ => True) Wl) (isC : List Nat) (hC0 : isC.filterMap (fun i => Wl[i]?) = Wc) (hC : isC.map (fun i => Wl[i]?) = Wc.map some) (hnC : va_nd isC = true)
    (hrv : ∃ cell : Cell, s.heap[b]? = some cell ∧ cell.vm.isStatics = false ∧ s.vm.findClass C = some cell.cls) (hn : As.length = n) (hsize : ls.size = nL) (hst : st0 = As.reverse ++ .ref b :: rest) (hWd : (rest.map fun v => v.category).sum ≤ 8) (hdg : decode cc pc = .ok (.invokevirtual index, 3)) (hf : 0 + 1 ≤ R.cells ∧ 0 + 6 ≤ R.slots)
    (hlocks : meth.locks = false) (hex : ∀ x ∈ c.exceptionTable.toList, False) : W p l e R s m args below meth c s.heap [] 0 0 (vx_MQ below (qT s.heap.size) (xT EN s.heap.size) args s 1 6 (fun q : Nat => s.heap.size ≤ q)) (F0 m pc ls st0) := by
  refine vx_callv (A0 := fun q : Nat => s.heap.size ≤ q) (vx_runV (As := As) (rest := rest) S hM cw ⟨pT_blind, hrv, fun U hU hW => ⟨rfl, by rw [hU], by rw [hU]; exact hP.sub isC hC0, hK.warm hW, hD.sub isC hnC hC, hT.at va_S.rf hU hW⟩⟩ rfl hn hsize hst (lv_room hWd) hdg hf) va_S.rf (fun q _ h => h) (fun q h => h) (fun q _ h => h) (fun E9 ce q9 u t H1 locs1 ht hvm hu hB hz hk hS h9 hv hcl => ?_) (fun u t H1 locs1 ht hvm hu => hu.elim)
  exact vx_out (fun x hx => (hex x hx).elim) hlocks h9 hv hcl (fun t' ht' _ => ⟨(), trivial, hB, by rw [ht']; exact hz, fun q h1 h2 => by rw [ht']; exact hk q h1 h2⟩) hS.2.2 (Nat.le_refl _) (Nat.le_refl _)
/-- a call that throws, caught or not: the world stands -/
theorem cl_C {EN : String} {Wl Wc : va_W} (S : CallFix p m c cc nL s args Ts own) (hM : vx_Met l y wsy rm (va_Pc (Value.ref b :: As) (pT E Wc s.heap.size)) (qT s.heap.size) (xT EN s.heap.size) 1 6 (fun q : Nat => s.heap.size ≤ q)) (cw : CallW R s args own C index y bytes maxL ret wsy rm 1 6 n) (hK : kS E s) (hT : kT s)
    (hP : va_P E.1 vwCl Wl s.heap) (hD : va_D A Wl) (hA : ∀ q, s.heap.size ≤ q → A q) (isC : List Nat) (hC0 : isC.filterMap (fun i => Wl[i]?) = Wc) (hC : isC.map (fun i => Wl[i]?) = Wc.map some) (hnC : va_nd isC = true)
    (hrv : ∃ cell : Cell, s.heap[b]? = some cell ∧ cell.vm.isStatics = false ∧ s.vm.findClass C = some cell.cls) (hn : As.length = n) (hsize : ls.size = nL) (hst : st0 = As.reverse ++ .ref b :: rest) (hWd : (rest.map fun v => v.category).sum ≤ 8) (hdg : decode cc pc = .ok (.invokevirtual index, 3)) (hf : 0 + 1 ≤ R.cells ∧ 0 + 6 ≤ R.slots)
    (kx : ∀ (ce : Cell) (q9 : Addr) (H1 : Heap) (locs1 : List Loc), va_P E.1 vwCl Wl H1 → va_S A s.heap H1 locs1 → H1[q9]? = some ce → ce.vm = .none → s.vm.findClass EN = some ce.cls → vx_W p l e R s m args below meth c H1 locs1 1 6 Q (F0 m pc ls rest) q9) : W p l e R s m args below meth c s.heap [] 0 0 Q (F0 m pc ls st0) := by
  refine vx_callv (A0 := A) (vx_runV (As := As) (rest := rest) S hM cw ⟨pT_blind, hrv, fun U hU hW => ⟨rfl, by rw [hU], by rw [hU]; exact hP.sub isC hC0, hK.warm hW, (hD.sub isC hnC hC).weaken (fun _ _ _ _ => trivial), hT.at va_S.rf hU hW⟩⟩ rfl hn hsize hst (lv_room hWd) hdg hf) va_S.rf (fun q _ h => hA q h) (fun q h => hA q h) (fun q _ h => hA q h) (fun E9 ce q9 u t H1 locs1 ht hvm hu hB hz hk hS h9 hv hcl => ?_) (fun u t H1 locs1 ht hvm hu => hu.elim)
  subst hB
  exact kx ce q9 H1 locs1 (va_P.kept hP (fun k q hq => hk q.1 (vx_lt hP hq) (Nat.not_le.mpr (vx_lt hP hq)))) hS h9 hv hcl
/-- the one long of a row -/
theorem k_last (hexec : p.tables.exec = Jvm.exec) (hb : c.code = cc) (hK : kS E s) (hP : va_P E.1 vwCl ws H) (hD : va_D A ws) (hS : va_S A H0 H locs) (q0 : Nat) {N : Nat} {f : Nat → Int64} (j : Nat) {x : Int64} (ha : ws[q0]? = some (a, .inl (E.2.2.2, N, .inr (.inl f)))) (hj : j < N) (hN : N < 2 ^ 31) (hdg : decode cc pc = .ok (.lastore, 1))
    (kk : ∀ (H1 : Heap) (locs1 : List Loc), va_P E.1 vwCl (ws.set q0 (a, .inl (E.2.2.2, N, .inr (.inl (vp_updL f j x))))) H1 → va_D A (ws.set q0 (a, .inl (E.2.2.2, N, .inr (.inl (vp_updL f j x))))) → va_S A H0 H1 locs1 → W p l e R s m args below meth c H1 locs1 cells slots Q (F0 m (pc + 1) ls rest)) : W p l e R s m args below meth c H locs cells slots Q (F0 m pc ls (.long x :: .int (nI j) :: .ref a :: rest)) := by
  refine va_last hexec hb hK.1 hP hD hS q0 2 ha rfl (vp_in_nI hj hN) hdg ?_
  rw [nI_clamp (by omega)]
  exact kk
end OURS4
theorem inF_mk {v a b : Int32} (h0 : ¬ v < a) (h1 : v ≤ b) : inF v a b = true := by
  unfold inF
  rw [decide_eq_false h0, decide_eq_false (Int32.not_lt.mpr h1)]
  rfl
def zL (b : Bool) : Int64 := if b then 1 else 0
