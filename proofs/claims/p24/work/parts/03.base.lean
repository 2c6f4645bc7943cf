/-! ===== Int32 by its bits: bt x i ===== -/
def bt (x : Int32) (i : Nat) : Bool := x.toBitVec.getLsbD i
theorem b_ext {x y : Int32} (h : ∀ i, i < 32 → bt x i = bt y i) : x = y := Int32.toBitVec_inj.mp (BitVec.eq_of_getLsbD_eq (fun i hi => h i hi))
theorem b_or (x y : Int32) (i : Nat) : bt (x ||| y) i = (bt x i || bt y i) := by unfold bt; rw [Int32.toBitVec_or, BitVec.getLsbD_or]
theorem b_and (x y : Int32) (i : Nat) : bt (x &&& y) i = (bt x i && bt y i) := by unfold bt; rw [Int32.toBitVec_and, BitVec.getLsbD_and]
theorem b_xor (x y : Int32) (i : Nat) : bt (x ^^^ y) i = (bt x i ^^ bt y i) := by unfold bt; rw [Int32.toBitVec_xor, BitVec.getLsbD_xor]
theorem b_big {x : Int32} {i : Nat} (h : 32 ≤ i) : bt x i = false := BitVec.getLsbD_of_ge _ _ h
theorem b_255 (i : Nat) : bt 255 i = decide (i < 8) := by
  rcases Nat.lt_or_ge i 32 with h | h
  · exact (by decide +kernel : ∀ i, i < 32 → bt 255 i = decide (i < 8)) i h
  · rw [b_big h, decide_eq_false (by omega)]
theorem b_65535 (i : Nat) : bt 65535 i = decide (i < 16) := by
  rcases Nat.lt_or_ge i 32 with h | h
  · exact (by decide +kernel : ∀ i, i < 32 → bt 65535 i = decide (i < 16)) i h
  · rw [b_big h, decide_eq_false (by omega)]
theorem b_m1 : ∀ i, i < 32 → bt (-1) i = true := by decide +kernel
theorem b_0 (i : Nat) : bt 0 i = false := BitVec.getLsbD_zero
theorem s_l : ∀ n, n < 32 → ((nI n &&& 31).toBitVec.smod 32).toNat = n := by decide +kernel
theorem s_u : ∀ n, n < 32 → (((nI n).toUInt32 &&& Int32.toUInt32 31).toBitVec % 32).toNat = n := by decide +kernel
theorem b_shl (n : Nat) (hn : n < 32) (x : Int32) {i : Nat} (hi : i < 32) : bt (x <<< (nI n &&& 31)) i = (decide (n ≤ i) && bt x (i - n)) := by
  unfold bt
  rw [Int32.toBitVec_shiftLeft]
  show (x.toBitVec <<< ((nI n &&& 31).toBitVec.smod 32).toNat).getLsbD i = _
  rw [s_l n hn, BitVec.getLsbD_shiftLeft]
  rcases Nat.lt_or_ge i n with h | h
  · simp [h, Nat.not_le.mpr h]
  · simp [hi, h, Nat.not_lt.mpr h]
theorem b_ushr (n : Nat) (hn : n < 32) (x : Int32) (i : Nat) : bt ((x.toUInt32 >>> ((nI n).toUInt32 &&& Int32.toUInt32 31)).toInt32) i = bt x (n + i) := by
  show (x.toUInt32 >>> ((nI n).toUInt32 &&& Int32.toUInt32 31)).toBitVec.getLsbD i = x.toUInt32.toBitVec.getLsbD (n + i)
  rw [UInt32.toBitVec_shiftRight]
  show (x.toUInt32.toBitVec >>> (((nI n).toUInt32 &&& Int32.toUInt32 31).toBitVec % 32).toNat).getLsbD i = _
  rw [s_u n hn, BitVec.getLsbD_ushiftRight]
theorem b_sshr (n : Nat) (hn : n < 32) (x : Int32) {i : Nat} (hi : i < 32) : bt (x >>> (nI n &&& 31)) i = if n + i < 32 then bt x (n + i) else bt x 31 := by
  unfold bt
  rw [Int32.toBitVec_shiftRight]
  show (x.toBitVec.sshiftRight ((nI n &&& 31).toBitVec.smod 32).toNat).getLsbD i = _
  rw [s_l n hn, BitVec.getLsbD_sshiftRight, BitVec.msb_eq_getLsbD_last]
  simp [hi]
theorem b_shl8 (x : Int32) {i : Nat} (hi : i < 32) : bt (x <<< ((8 : Int32) &&& 31)) i = (decide (8 ≤ i) && bt x (i - 8)) := b_shl 8 (by omega) x hi
theorem b_shl16 (x : Int32) {i : Nat} (hi : i < 32) : bt (x <<< ((16 : Int32) &&& 31)) i = (decide (16 ≤ i) && bt x (i - 16)) := b_shl 16 (by omega) x hi
theorem b_shl24 (x : Int32) {i : Nat} (hi : i < 32) : bt (x <<< ((24 : Int32) &&& 31)) i = (decide (24 ≤ i) && bt x (i - 24)) := b_shl 24 (by omega) x hi
theorem b_sshr8 (x : Int32) {i : Nat} (hi : i < 32) : bt (x >>> ((8 : Int32) &&& 31)) i = if 8 + i < 32 then bt x (8 + i) else bt x 31 := b_sshr 8 (by omega) x hi
theorem nf_sh : ∀ l, l < 32 → ((1 : Int32) <<< (nI l &&& 31)).toBitVec = BitVec.twoPow 32 l := by decide +kernel
/-! ===== ours: truth values as ints, one bit, rows of numbers ===== -/
def zI (b : Bool) : Int32 := if b then 1 else 0
theorem zI_f {b : Bool} (h : zI b = 0) : b = false := by cases b with | false => rfl | true => exact absurd h (by decide)
theorem zI_t {b : Bool} (h : ¬ zI b = 0) : b = true := by cases b with | true => rfl | false => exact absurd rfl h
theorem zI_nar (b : Bool) : narrow .boolean (.int (zI b)) = .int (zI b) := by cases b <;> rfl
theorem zI_vnar (b : Bool) : vp_nar .boolean (zI b) = zI b := by cases b <;> rfl
/-- the one bit j -/
def m1 (j : Nat) : Int32 := (1 : Int32) <<< (nI j &&& 31)
theorem bt_1 : ∀ i, i < 32 → bt 1 i = decide (i = 0) := by decide +kernel
theorem bt_m1 {j i : Nat} (hj : j < 32) (hi : i < 32) : bt (m1 j) i = decide (i = j) := by
  unfold m1
  rw [b_shl j hj 1 hi]
  by_cases h : j ≤ i
  · rw [bt_1 (i - j) (by omega)]
    simp only [h, decide_true, Bool.true_and]
    exact decide_eq_decide.mpr (by omega)
  · simp only [h, decide_false, Bool.false_and]
    exact (decide_eq_false (by omega)).symm
theorem bt_and0 {s : Int32} {j : Nat} (hj : j < 32) : (s &&& m1 j) = 0 ↔ bt s j = false := by
  constructor
  · intro h
    have h2 : bt (s &&& m1 j) j = bt 0 j := by rw [h]
    rw [b_and, bt_m1 hj hj, b_0] at h2
    simpa using h2
  · intro h
    refine b_ext fun i hi => ?_
    rw [b_and, bt_m1 hj hi, b_0]
    by_cases e : i = j
    · subst e; rw [h]; rfl
    · simp [e]
theorem bt_neg1 {i : Nat} (hi : i < 32) (x : Int32) : bt (x ^^^ (-1)) i = !bt x i := by rw [b_xor, b_m1 i hi]; cases bt x i <;> rfl
theorem bt_zero {x : Int32} : x = 0 ↔ ∀ i, i < 32 → bt x i = false := ⟨fun h i _ => by rw [h, b_0], fun h => b_ext fun i hi => by rw [h i hi, b_0]⟩
abbrev upN (f : Nat → Nat) (j x : Nat) : Nat → Nat := fun i => if i = j then x else f i
theorem upd_nI (f : Nat → Nat) (j x : Nat) : upd (fun i => nI (f i)) j (nI x) = fun i => nI (upN f j x i) := by
  funext i
  unfold upd
  show _ = nI (if i = j then x else f i)
  by_cases h : i = j
  · rw [if_pos h, if_pos h]
  · rw [if_neg h, if_neg h]
abbrev upB (f : Nat → Bool) (j : Nat) (x : Bool) : Nat → Bool := fun i => if i = j then x else f i
theorem upd_zI (f : Nat → Bool) (j : Nat) (x : Bool) : upd (fun i => zI (f i)) j (zI x) = fun i => zI (upB f j x i) := by
  funext i
  unfold upd
  show _ = zI (if i = j then x else f i)
  by_cases h : i = j
  · rw [if_pos h, if_pos h]
  · rw [if_neg h, if_neg h]
/-! ===== what the tables say for all methods; a method's start ===== -/
abbrev gE : Type := va_G × ClassId × ClassId × ClassId
def kS (E : gE) (U : State) : Prop := va_K E.1 vwCl [(E.2.1, .int)] U ∧ va_Nw (.methodLinkNest RX0 43 yX3_contains RX3) U ∧ va_Nw (.methodLinkNest RX1 25 yX3_contains RX3) U ∧ va_Nw (.methodLinkNest RX2 32 yX3_contains RX3) U
theorem kS.warm {E : gE} {s U : State} (hW : s.WarmedH U.vm) (h : kS E s) : kS E U := ⟨va_K.moved hW.alike h.1, va_Nw.warmM hW h.2.1, va_Nw.warmM hW h.2.2.1, va_Nw.warmM hW h.2.2.2⟩
theorem kS.calling {E : gE} {U : State} {g : JFrame} {mk : MethodId} {a : Array Value} (h : kS E U) : kS E (U.calling g mk a) := ⟨va_K.moved (u := U) (U := U.calling g mk a) (Vm.Alike.refl U.vm) h.1, va_Nw.same rfl rfl h.2.1, va_Nw.same rfl rfl h.2.2.1, va_Nw.same rfl rfl h.2.2.2⟩
def pR (E : gE) (W : va_W) (U : State) : Prop := va_P E.1 vwCl W U.heap ∧ kS E U
def pW (E : gE) (W : va_W) (sz : Nat) (U : State) : Prop := U.heap.size = sz ∧ va_P E.1 vwCl W U.heap ∧ kS E U ∧ va_D (fun _ => True) W
theorem pR_blind {av : List Value} {E : gE} {W : va_W} : FrameBlind (va_Pc av (pR E W)) := fun _ _ _ _ q => ⟨q.1, q.2.1, q.2.2.calling⟩
theorem pW_blind {av : List Value} {E : gE} {W : va_W} {sz : Nat} : FrameBlind (va_Pc av (pW E W sz)) := fun _ _ _ _ q => ⟨q.1, q.2.1, q.2.2.1, q.2.2.2.1.calling, q.2.2.2.2⟩
section OURS
variable {p : Program} {l : Launch} {e : Env} {R : Room} {s : State} {m : MethodId} {args : Array Value} {below : List Frame} {meth : Method} {c : Code} {H : Heap} {locs : List Loc} {cells slots : Nat} {Q : State → Prop}
variable {cc : ByteArray} {pc : Nat} {ls : Array Slot} {rest st0 : List Value} {E : gE} {A : Nat → Prop} {H0 : Heap} {ws : va_W} {a : Nat}
variable {y : MethodName} {bytes : ByteArray} {maxL nL mc ms n index : Nat} {ret : Option FieldType} {wsy : List Cond} {rm : Room} {Ts : List Cond} {own C host : String} {b : Addr} {As : List Value}
/-- rows at a number -/
theorem k_iald (hexec : p.tables.exec = Jvm.exec) (hb : c.code = cc) (hK : kS E s) (hP : va_P E.1 vwCl ws H) (q0 : Nat) {N : Nat} {f : Nat → Int32} (j : Nat) (ha : ws[q0]? = some (a, .inl (E.2.1, N, .inl f))) (hj : j < N) (hN : N < 2 ^ 31) (hdg : decode cc pc = .ok (.iaload, 1))
    (kk : W p l e R s m args below meth c H locs cells slots Q (F0 m (pc + 1) ls (.int (f j) :: rest))) : W p l e R s m args below meth c H locs cells slots Q (F0 m pc ls (.int (nI j) :: .ref a :: rest)) := by
  refine va_iald hexec hb hK.1 hP q0 0 ha rfl (vp_in_nI hj hN) hdg ?_
  rw [nI_clamp (by omega)]
  exact kk
theorem k_iast (hexec : p.tables.exec = Jvm.exec) (hb : c.code = cc) (hK : kS E s) (hP : va_P E.1 vwCl ws H) (hD : va_D A ws) (hS : va_S A H0 H locs) (q0 : Nat) {N : Nat} {f : Nat → Int32} (j : Nat) {x : Int32} (ha : ws[q0]? = some (a, .inl (E.2.1, N, .inl f))) (hj : j < N) (hN : N < 2 ^ 31) (hdg : decode cc pc = .ok (.iastore, 1))
    (kk : ∀ (H1 : Heap) (locs1 : List Loc), va_P E.1 vwCl (ws.set q0 (a, .inl (E.2.1, N, .inl (upd f j x)))) H1 → va_D A (ws.set q0 (a, .inl (E.2.1, N, .inl (upd f j x)))) → va_S A H0 H1 locs1 → W p l e R s m args below meth c H1 locs1 cells slots Q (F0 m (pc + 1) ls rest)) : W p l e R s m args below meth c H locs cells slots Q (F0 m pc ls (.int x :: .int (nI j) :: .ref a :: rest)) := by
  refine va_iast hexec hb hK.1 hP hD hS q0 0 ha rfl (vp_in_nI hj hN) hdg ?_
  rw [nI_clamp (by omega)]
  exact kk
theorem k_iastN (hexec : p.tables.exec = Jvm.exec) (hb : c.code = cc) (hK : kS E s) (hP : va_P E.1 vwCl ws H) (hD : va_D A ws) (hS : va_S A H0 H locs) (q0 : Nat) {N : Nat} {f : Nat → Nat} (j x : Nat) (ha : ws[q0]? = some (a, .inl (E.2.1, N, .inl (fun i => nI (f i))))) (hj : j < N) (hN : N < 2 ^ 31) (hdg : decode cc pc = .ok (.iastore, 1))
    (kk : ∀ (H1 : Heap) (locs1 : List Loc), va_P E.1 vwCl (ws.set q0 (a, .inl (E.2.1, N, .inl (fun i => nI (upN f j x i))))) H1 → va_D A (ws.set q0 (a, .inl (E.2.1, N, .inl (fun i => nI (upN f j x i))))) → va_S A H0 H1 locs1 → W p l e R s m args below meth c H1 locs1 cells slots Q (F0 m (pc + 1) ls rest)) : W p l e R s m args below meth c H locs cells slots Q (F0 m pc ls (.int (nI x) :: .int (nI j) :: .ref a :: rest)) := by
  refine k_iast hexec hb hK hP hD hS q0 j ha hj hN hdg ?_
  rw [upd_nI]
  exact kk
/-- a call of a method that only reads -/
theorem cl_S {Wc : va_W} {ans : Int32} (S : CallFix p m c cc nL s args Ts own) (hM : Met l y wsy rm (va_Pc (Value.ref b :: As) (pR E Wc)) (vp_Si (fun r => r = ans)) 0 0 (fun _ => False)) (cw : CallW R s args own C index y bytes maxL ret wsy rm 0 0 n) (hK : kS E s) (hP : va_P E.1 vwCl Wc H)
    (hrv : ∃ cell : Cell, H[b]? = some cell ∧ cell.vm.isStatics = false ∧ s.vm.findClass C = some cell.cls) (hn : As.length = n) (hsize : ls.size = nL) (hst : st0 = As.reverse ++ .ref b :: rest) (hWd : (rest.map fun v => v.category).sum ≤ 8) (hdg : decode cc pc = .ok (.invokevirtual index, 3)) (hf : cells ≤ R.cells ∧ slots ≤ R.slots)
    (kk : W p l e R s m args below meth c H locs cells slots Q (F0 m (pc + 3) ls (.int ans :: rest))) : W p l e R s m args below meth c H locs cells slots Q (F0 m pc ls st0) := by
  refine vp_callSi (va_Run.run (va_runV (As := As) (rest := rest) S hM cw ⟨pR_blind, hrv, fun U hU hW => ⟨rfl, by rw [hU]; exact hP, hK.warm hW⟩⟩ rfl hn hsize hst (lv_room hWd) hdg ⟨hf.1, hf.2⟩)) (fun r er => ?_)
  subst er
  exact kk
theorem cl_Sv {Wc : va_W} (S : CallFix p m c cc nL s args Ts own) (hM : Met l y wsy rm (va_Pc (Value.ref b :: As) (pR E Wc)) (va_Sv (fun _ => True)) 0 0 (fun _ => False)) (cw : CallW R s args own C index y bytes maxL ret wsy rm 0 0 n) (hK : kS E s) (hP : va_P E.1 vwCl Wc H)
    (hrv : ∃ cell : Cell, H[b]? = some cell ∧ cell.vm.isStatics = false ∧ s.vm.findClass C = some cell.cls) (hn : As.length = n) (hsize : ls.size = nL) (hst : st0 = As.reverse ++ .ref b :: rest) (hWd : (rest.map fun v => v.category).sum ≤ 8) (hdg : decode cc pc = .ok (.invokevirtual index, 3)) (hf : cells ≤ R.cells ∧ slots ≤ R.slots)
    (kk : W p l e R s m args below meth c H locs cells slots Q (F0 m (pc + 3) ls rest)) : W p l e R s m args below meth c H locs cells slots Q (F0 m pc ls st0) :=
  va_csv (va_Run.run (va_runV (As := As) (rest := rest) S hM cw ⟨pR_blind, hrv, fun U hU hW => ⟨rfl, by rw [hU]; exact hP, hK.warm hW⟩⟩ rfl hn hsize hst (lv_room hWd) hdg ⟨hf.1, hf.2⟩)) (fun _ => kk)
/-- .. a static one of the own class -/
theorem cl_SS {Wc : va_W} {ans : Int32} (S : CallFix p m c cc nL s args Ts own) (hM : Met l y wsy rm (va_Pc As (pR E Wc)) (vp_Si (fun r => r = ans)) 0 0 (fun _ => False)) (cw : CallB R s args own index y bytes maxL ret wsy rm 0 0 n ∧ (Cond.static y).before args s = true) (hK : kS E s) (hP : va_P E.1 vwCl Wc H)
    (hn : As.length = n) (hsize : ls.size = nL) (hst : st0 = As.reverse ++ rest) (hWd : (rest.map fun v => v.category).sum ≤ 8) (hdg : decode cc pc = .ok (.invokestatic index, 3)) (hf : cells ≤ R.cells ∧ slots ≤ R.slots)
    (kk : W p l e R s m args below meth c H locs cells slots Q (F0 m (pc + 3) ls (.int ans :: rest))) : W p l e R s m args below meth c H locs cells slots Q (F0 m pc ls st0) := by
  refine vp_callSi (va_Run.run (va_runS (As := As) (rest := rest) S hM cw ⟨pR_blind, fun U hU hW => ⟨rfl, by rw [hU]; exact hP, hK.warm hW⟩⟩ rfl hn hsize hst (lv_room hWd) hdg ⟨hf.1, hf.2⟩)) (fun r er => ?_)
  subst er
  exact kk
/-- .. a private static one of the nest's host -/
theorem cl_SN {Wc : va_W} {ans : Int32} (S : CallFix p m c cc nL s args Ts own) (hM : Met l y wsy rm (va_Pc As (pR E Wc)) (vp_Si (fun r => r = ans)) 0 0 (fun _ => False)) (cw : va_CN R s args own index y host bytes maxL ret wsy rm 0 0 n ∧ (Cond.static y).before args s = true ∧ True) (hK : kS E s) (hP : va_P E.1 vwCl Wc H)
    (hn : As.length = n) (hsize : ls.size = nL) (hst : st0 = As.reverse ++ rest) (hWd : (rest.map fun v => v.category).sum ≤ 8) (hdg : decode cc pc = .ok (.invokestatic index, 3)) (hf : cells ≤ R.cells ∧ slots ≤ R.slots)
    (kk : W p l e R s m args below meth c H locs cells slots Q (F0 m (pc + 3) ls (.int ans :: rest))) : W p l e R s m args below meth c H locs cells slots Q (F0 m pc ls st0) := by
  refine vp_callSi (va_Run.run (va_runSN (As := As) (rest := rest) S hM cw ⟨pR_blind, fun U hU hW => ⟨rfl, by rw [hU]; exact hP, hK.warm hW⟩⟩ rfl hn hsize hst (lv_room hWd) hdg ⟨hf.1, hf.2⟩)) (fun r er => ?_)
  subst er
  exact kk
/-- a method's end: its world -/
abbrev eW (E : gE) (A : Nat → Prop) (W' : va_W) (t : State) : Prop := va_P E.1 vwCl W' t.heap ∧ va_D A W'
/-- the caller's world behind a call: the rest, what came back, in the order that is wanted -/
theorem cl_join {Wl Wc Wr W1 W2 : va_W} {H1 : Heap} (hP : va_P E.1 vwCl Wl H) (hD : va_D A Wl) (isC isR pm : List Nat) (hC : isC.map (fun i => Wl[i]?) = Wc.map some) (hR : isR.map (fun i => Wl[i]?) = Wr.map some) (hn : va_nd isR = true) (hdis : ∀ i ∈ isR, i ∉ isC)
    (hm : pm.map (fun i => (Wr ++ W1)[i]?) = W2.map some) (hnm : va_nd pm = true)
    (hk : ∀ q : Nat, q < H.size → ¬ va_A Wc H.size q → H1[q]? = H[q]?) (hF : ∀ q, va_A Wc H.size q → A q) (hP1 : va_P E.1 vwCl W1 H1) (hD1 : va_D (va_A Wc H.size) W1) : va_P E.1 vwCl W2 H1 ∧ va_D A W2 := by
  obtain ⟨h1, h2⟩ := va_join (wr := Wr) (w1 := W1) hP hD isC isR hC hR hn hdis hk hF hP1 hD1
  refine ⟨?_, h2.sub pm hnm hm⟩
  intro k q hq
  have h3 : (W2.map some)[k]? = some (some q) := by rw [List.getElem?_map, hq]; rfl
  rw [← hm, List.getElem?_map] at h3
  cases h4 : pm[k]? with
  | none => rw [h4] at h3; cases h3
  | some i =>
    rw [h4] at h3
    exact h1 i q (Option.some.inj h3)
/-- a call of a method that writes -/
theorem cl_W {Wl Wc Wr W1 W2 : va_W} {ans : Int32} (S : CallFix p m c cc nL s args Ts own) (hM : Met l y wsy rm (va_Pc (Value.ref b :: As) (pW E Wc H.size)) (va_Qi (fun r (_ : Unit) => r = ans) (fun _ => eW E (va_A Wc H.size) W1) (va_A Wc H.size)) mc ms (va_A Wc H.size)) (cw : CallW R s args own C index y bytes maxL ret wsy rm mc ms n) (hK : kS E s)
    (hP : va_P E.1 vwCl Wl H) (hD : va_D A Wl) (hS : va_S A H0 H locs) (hA : ∀ q, H0.size ≤ q → A q) (isC isR pm : List Nat) (hC0 : isC.filterMap (fun i => Wl[i]?) = Wc) (hC : isC.map (fun i => Wl[i]?) = Wc.map some) (hnC : va_nd isC = true) (hR : isR.map (fun i => Wl[i]?) = Wr.map some) (hnd : va_nd isR = true) (hdis : ∀ i ∈ isR, i ∉ isC)
    (hm : pm.map (fun i => (Wr ++ W1)[i]?) = W2.map some) (hnm : va_nd pm = true)
    (hrv : ∃ cell : Cell, H[b]? = some cell ∧ cell.vm.isStatics = false ∧ s.vm.findClass C = some cell.cls) (hn : As.length = n) (hsize : ls.size = nL) (hst : st0 = As.reverse ++ .ref b :: rest) (hWd : (rest.map fun v => v.category).sum ≤ 8) (hdg : decode cc pc = .ok (.invokevirtual index, 3)) (hf : cells + mc ≤ R.cells ∧ slots + ms ≤ R.slots)
    (kk : ∀ (H1 : Heap) (locs1 : List Loc), va_P E.1 vwCl W2 H1 → va_D A W2 → va_S A H0 H1 locs1 → W p l e R s m args below meth c H1 locs1 (cells + mc) (slots + ms) Q (F0 m (pc + 3) ls (.int ans :: rest))) : W p l e R s m args below meth c H locs cells slots Q (F0 m pc ls st0) := by
  have hFc := va_free (wc := Wc) hD hS hA isC hC
  refine va_calli (va_runV (As := As) (rest := rest) S hM cw ⟨pW_blind, hrv, fun U hU hW => ⟨rfl, by rw [hU], by rw [hU]; exact hP.sub isC hC0, hK.warm hW, (hD.sub isC hnC hC).weaken (fun _ _ _ _ => trivial)⟩⟩ rfl hn hsize hst (lv_room hWd) hdg hf) hS (fun q _ h => hFc q h) hFc (fun r u t H1 locs1 ht hvm hw hB hz1 hk1 hS1 => ?_)
  subst hw
  obtain ⟨hP1, hD1⟩ := hB
  rw [ht] at hP1
  obtain ⟨hP2, hD2⟩ := cl_join hP hD isC isR pm hC hR hnd hdis hm hnm hk1 hFc hP1 hD1
  exact kk H1 locs1 hP2 hD2 hS1
theorem cl_Wv {Wl Wc Wr W1 W2 : va_W} (S : CallFix p m c cc nL s args Ts own) (hM : Met l y wsy rm (va_Pc (Value.ref b :: As) (pW E Wc H.size)) (va_Qv (fun (_ : Unit) => True) (fun _ => eW E (va_A Wc H.size) W1) (va_A Wc H.size)) mc ms (va_A Wc H.size)) (cw : CallW R s args own C index y bytes maxL ret wsy rm mc ms n) (hK : kS E s)
    (hP : va_P E.1 vwCl Wl H) (hD : va_D A Wl) (hS : va_S A H0 H locs) (hA : ∀ q, H0.size ≤ q → A q) (isC isR pm : List Nat) (hC0 : isC.filterMap (fun i => Wl[i]?) = Wc) (hC : isC.map (fun i => Wl[i]?) = Wc.map some) (hnC : va_nd isC = true) (hR : isR.map (fun i => Wl[i]?) = Wr.map some) (hnd : va_nd isR = true) (hdis : ∀ i ∈ isR, i ∉ isC)
    (hm : pm.map (fun i => (Wr ++ W1)[i]?) = W2.map some) (hnm : va_nd pm = true)
    (hrv : ∃ cell : Cell, H[b]? = some cell ∧ cell.vm.isStatics = false ∧ s.vm.findClass C = some cell.cls) (hn : As.length = n) (hsize : ls.size = nL) (hst : st0 = As.reverse ++ .ref b :: rest) (hWd : (rest.map fun v => v.category).sum ≤ 8) (hdg : decode cc pc = .ok (.invokevirtual index, 3)) (hf : cells + mc ≤ R.cells ∧ slots + ms ≤ R.slots)
    (kk : ∀ (H1 : Heap) (locs1 : List Loc), va_P E.1 vwCl W2 H1 → va_D A W2 → va_S A H0 H1 locs1 → W p l e R s m args below meth c H1 locs1 (cells + mc) (slots + ms) Q (F0 m (pc + 3) ls rest)) : W p l e R s m args below meth c H locs cells slots Q (F0 m pc ls st0) := by
  have hFc := va_free (wc := Wc) hD hS hA isC hC
  refine va_callv (va_runV (As := As) (rest := rest) S hM cw ⟨pW_blind, hrv, fun U hU hW => ⟨rfl, by rw [hU], by rw [hU]; exact hP.sub isC hC0, hK.warm hW, (hD.sub isC hnC hC).weaken (fun _ _ _ _ => trivial)⟩⟩ rfl hn hsize hst (lv_room hWd) hdg hf) hS (fun q _ h => hFc q h) hFc (fun u t H1 locs1 ht hvm hw hB hz1 hk1 hS1 => ?_)
  obtain ⟨hP1, hD1⟩ := hB
  rw [ht] at hP1
  obtain ⟨hP2, hD2⟩ := cl_join hP hD isC isR pm hC hR hnd hdis hm hnm hk1 hFc hP1 hD1
  exact kk H1 locs1 hP2 hD2 hS1
end OURS
