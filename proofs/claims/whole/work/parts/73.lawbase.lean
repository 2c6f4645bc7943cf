/-! ===== ours: the law ===== -/
abbrev lA (s : State) : Nat → Prop := fun q : Nat => s.heap.size ≤ q
def lwC (p : Program) (s : State) (m : MethodId) (c : Code) (b L : Nat) (xs : Nat → Int32) (E : gE) : Prop :=
  p.tables.exec = Jvm.exec ∧ c.code = code ∧ c.maxLocals = 7 ∧ s.vm.findClass RL = some m.cls ∧ (∀ w ∈ wsL_law, w.before #[Value.ref b] s = true) ∧ va_X b L xs s s.heap ∧ b < s.heap.size ∧ L ≤ 1536 ∧ kS E s ∧ kT s
theorem nIx_or (v : Int32) (N : Nat) : (∃ j, j < N ∧ v = nI j) ∨ nIx v N := by
  by_cases h : ∃ j, j < N ∧ v = nI j
  · exact Or.inl h
  · exact Or.inr (fun j hj e => h ⟨j, hj, e⟩)
theorem lcmp0 {x y : Int64} (h : x = y) : lg_cmp x y = 0 := (lg_cmp_eq x y).mpr h
theorem i3_c (x : Int32) : x + 3 - 3 = x := Int32.toBitVec_inj.mp (by simp only [Int32.toBitVec_sub, Int32.toBitVec_add]; bv_omega)
theorem ge3 {a L : Nat} (ha : a ≤ 2000) (hL : L ≤ 1536) : nI L - 3 < nI a ↔ L < a + 3 := by
  rcases Nat.lt_or_ge L 3 with h | h
  · refine ⟨fun _ => by omega, fun _ => ?_⟩
    rw [Int32.lt_iff_toInt_lt, nI_toInt (by omega)]
    have h3 : L = 0 ∨ L = 1 ∨ L = 2 := by omega
    rcases h3 with rfl | rfl | rfl
    · rw [show (nI 0 - 3).toInt = -3 from by decide]; omega
    · rw [show (nI 1 - 3).toInt = -2 from by decide]; omega
    · rw [show (nI 2 - 3).toInt = -1 from by decide]; omega
  · obtain ⟨k, rfl⟩ : ∃ k, L = k + 3 := ⟨L - 3, by omega⟩
    rw [show nI (k + 3) - 3 = nI k from by rw [← nI_add k 3]; exact i3_c _, nI_ltI (by omega) (by omega)]
    omega
section OURS5
variable {p : Program} {l : Launch} {e : Env} {R : Room} {s : State} {m : MethodId} {args : Array Value} {below : List Frame} {meth : Method} {c : Code} {H : Heap} {locs : List Loc} {cells slots : Nat} {Q : State → Prop}
variable {cc : ByteArray} {pc : Nat} {ls : Array Slot} {rest st0 : List Value} {E : gE} {A : Nat → Prop} {H0 : Heap} {ws : va_W} {a : Nat}
variable {y : MethodName} {bytes : ByteArray} {maxL nL mc ms n index : Nat} {ret : Option FieldType} {wsy : List Cond} {rm : Room} {Ts : List Cond} {own C host : String} {b : Addr} {As : List Value}
/-- the script at a place -/
theorem k_sld (hexec : p.tables.exec = Jvm.exec) (hb : c.code = cc) {L : Nat} {xs : Nat → Int32} (hX : va_X b L xs s s.heap) (hbl : b < s.heap.size) (hS : va_S (lA s) s.heap H locs) (j : Nat) {v : Int32} (hv : xs j = v) (hj : j < L) (hL : L ≤ 1536) (hdg : decode cc pc = .ok (.iaload, 1))
    (kk : W p l e R s m args below meth c H locs cells slots Q (F0 m (pc + 1) ls (.int v :: rest))) : W p l e R s m args below meth c H locs cells slots Q (F0 m pc ls (.int (nI j) :: .ref b :: rest)) := by
  subst hv
  refine va_sld hexec hb hX hbl (Nat.not_le.mpr hbl) hS (vp_in_nI hj (by omega)) hdg ?_
  rw [nI_clamp (by omega)]
  exact kk
/-- a long of a row -/
theorem k_lald (hexec : p.tables.exec = Jvm.exec) (hb : c.code = cc) (hK : kS E s) (hP : va_P E.1 vwCl ws H) (q0 : Nat) {N : Nat} {f : Nat → Int64} (j : Nat) {v : Int64} (hv : f j = v) (ha : ws[q0]? = some (a, .inl (E.2.2.2, N, .inr (.inl f)))) (hj : j < N) (hN : N < 2 ^ 31) (hdg : decode cc pc = .ok (.laload, 1))
    (kk : W p l e R s m args below meth c H locs cells slots Q (F0 m (pc + 1) ls (.long v :: rest))) : W p l e R s m args below meth c H locs cells slots Q (F0 m pc ls (.int (nI j) :: .ref a :: rest)) := by
  subst hv
  refine va_lald hexec hb hK.1 hP q0 2 ha rfl (vp_in_nI hj hN) hdg ?_
  rw [nI_clamp (by omega)]
  exact kk
/-- a call of one of the law's own methods -/
theorem cl_L {hh : List (Nat × Nat × Nat × Nat)} {Wl Wc Wr W1 W2 : va_W} {ans : Int32} (S : CallFix p m c cc nL s args Ts own) (hM : vx_Met l y wsy rm (va_Pc As (pT E Wc H.size)) (va_Qi (fun r (_ : Unit) => r = ans) (fun _ => eW E (va_A Wc H.size) W1) (va_A Wc H.size)) (xL (va_A Wc H.size)) mc ms (va_A Wc H.size)) (cw : vx_CSW R s args own index y bytes maxL ret hh wsy rm mc ms n) (hK : kS E s) (hT : kT s)
    (hP : va_P E.1 vwCl Wl H) (hD : va_D (lA s) Wl) (hS : va_S (lA s) s.heap H locs) (isC isR pm : List Nat) (hC0 : isC.filterMap (fun i => Wl[i]?) = Wc) (hC : isC.map (fun i => Wl[i]?) = Wc.map some) (hnC : va_nd isC = true) (hR : isR.map (fun i => Wl[i]?) = Wr.map some) (hnd : va_nd isR = true) (hdis : ∀ i ∈ isR, i ∉ isC)
    (hm : pm.map (fun i => (Wr ++ W1)[i]?) = W2.map some) (hnm : va_nd pm = true)
    (hn : As.length = n) (hsize : ls.size = nL) (hst : st0 = As.reverse ++ rest) (hWd : (rest.map fun v => v.category).sum ≤ 8) (hdg : decode cc pc = .ok (.invokestatic index, 3)) (hf : cells + mc ≤ R.cells ∧ slots + ms ≤ R.slots)
    (kk : ∀ (H1 : Heap) (locs1 : List Loc), va_P E.1 vwCl W2 H1 → va_D (lA s) W2 → va_S (lA s) s.heap H1 locs1 → W p l e R s m args below meth c H1 locs1 (cells + mc) (slots + ms) Q (F0 m (pc + 3) ls (.int ans :: rest))) : W p l e R s m args below meth c H locs cells slots Q (F0 m pc ls st0) := by
  have hFc := va_free (wc := Wc) hD hS (fun q h => h) isC hC
  refine vx_calli (A0 := lA s) (vx_runSX (As := As) (rest := rest) S hM cw ⟨pT_blind, fun U hU hW => ⟨rfl, by rw [hU], by rw [hU]; exact hP.sub isC hC0, hK.warm hW, (hD.sub isC hnC hC).weaken (fun _ _ _ _ => trivial), hT.at hS hU hW⟩⟩ rfl hn hsize hst (lv_room hWd) hdg hf) hS (fun q _ h => hFc q h) hFc (fun q _ h => hFc q h) (fun E9 ce q9 u t H1 locs1 ht hvm hu => hu.elim) (fun r u t H1 locs1 ht hvm hw hB hz1 hk1 hS1 => ?_)
  subst hw
  obtain ⟨hP1, hD1⟩ := hB
  rw [ht] at hP1
  obtain ⟨hP2, hD2⟩ := cl_join hP hD isC isR pm hC hR hnd hdis hm hnm hk1 hFc hP1 hD1
  exact kk H1 locs1 hP2 hD2 hS1
end OURS5
