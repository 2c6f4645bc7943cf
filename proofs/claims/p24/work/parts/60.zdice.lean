/-! ===== ours: the script, and what is thrown of it ===== -/
def pX (b L : Nat) (xs : Nat → Int32) (U : State) : Prop := va_X b L xs U U.heap ∧ b < U.heap.size
theorem pX_blind {av : List Value} {b L : Nat} {xs : Nat → Int32} : FrameBlind (va_Pc av (pX b L xs)) := fun _ _ _ _ q => ⟨q.1, va_X.moved (Vm.Alike.refl _) q.2.1, q.2.2⟩
set_option maxHeartbeats 4000000 in
set_option maxRecDepth 100000 in
theorem c_L_dice (l : Launch) (b L : Nat) (xs : Nat → Int32) (k : Nat) (hk : k < L) (hL : L ≤ 260) (h0 : xs k = 0) : Met l yL_dice wsL_dice ({ frames := 0, cells := 0, slots := 0, locals := 0 }) (va_Pc [.ref b, .int (nI k)] (pX b L xs)) (vp_Si (fun r => r = 0)) 0 0 (fun _ => False) := by
  refine Met.ofW (cc := cL_dice) (maxL := 2) (ret := (some .int)) (by decide) rfl ?_
  intro p e s m args below meth c s₁ B hml hv
  obtain ⟨rfl, hX, hbl⟩ := hv
  have hx := B.exec
  have hb := B.bytes
  have hr := B.returns
  have hts := atoms_spec (ws := wsL_dice) B.pre
  have hown : s.vm.findClass RL = some m.cls := findClass_of_methodNamed B.named
  have hlocks := B.notSynchronized
  have hl := lv_entry ([.ref b, .int (nI k)]) (n := 2) (Nat.le_of_ble_eq_true rfl)
  rw [lg_entry_eq]
  generalize (lg_sl ([.ref b, .int (nI k)]) ++ List.replicate (2 - (lg_sl ([.ref b, .int (nI k)])).length) Slot.unset).toArray = ls at hl ⊢
  have hl : lv_has ls 2 [(0, .ref b), (1, .int (nI k))] := hl
  have hS : va_S (fun q : Nat => s.heap.size ≤ q) s.heap s.heap [] := va_S.rf
  refine lv_iload_n hx hb dL_dice_0 rfl (lv_at hl 1 rfl) ?_
  refine lv_aload_n hx hb dL_dice_1 rfl (lv_at hl 0 rfl) ?_
  refine va_slen hx hb hX hbl (Nat.not_le.mpr hbl) hS dL_dice_2 ?_
  refine lv_icmp_ge (tgt := 12) hx hb dL_dice_3 (by decide) (fun c3 => ?_) (fun c3 => ?_)
  · have c3 : nI L ≤ nI k := c3
    rw [nI_leI (by omega) (by omega)] at c3
    exact absurd hk (Nat.not_lt.mpr c3)
  · refine lv_aload_n hx hb dL_dice_6 rfl (lv_at hl 0 rfl) ?_
    refine lv_iload_n hx hb dL_dice_7 rfl (lv_at hl 1 rfl) ?_
    refine va_sld hx hb hX hbl (Nat.not_le.mpr hbl) hS (vp_in_nI hk (by omega)) dL_dice_8 ?_
    rw [nI_clamp (by omega), h0]
    refine lv_goto (tgt := 31) hx hb dL_dice_9 (by decide) ?_
    refine lv_ldc (v := 2147483647) hx hb hown (hts (.constant RL 8 (2147483647)) (List.mem_of_getElem? (i := 2) rfl)) dL_dice_31 ?_
    refine lv_iand hx hb dL_dice_33 ?_
    have e9 : ((0 : Int32) &&& 2147483647) = 0 := by decide
    exact W.iret (v := (0 : Int32) &&& 2147483647) hx hb hr (fun t ht hW => ⟨_, rfl, e9, ht⟩) (fun q h => absurd h List.not_mem_nil) dL_dice_34
theorem va_Str {A : Nat → Prop} {H0 H H1 : Heap} {locs locs1 : List Loc} (h1 : va_S A H0 H locs) (h2 : va_S A H H1 locs1) : va_S A H0 H1 locs1 := ⟨Nat.le_trans h1.1 h2.1, fun q hq hA => (h2.2.1 q (Nat.lt_of_lt_of_le hq h1.1) hA).trans (h1.2.1 q hq hA), h2.2.2⟩
theorem rem_0 : ∀ k, k < 15 → 1 ≤ k → (0 : Int32) - 0 / nI k * nI k = 0 := by decide +kernel
theorem nI_ne0z {k : Nat} (h : 1 ≤ k) (hk : k < 2 ^ 31) : ¬ nI k = 0 := fun z => absurd ((nI_eq (a := k) (b := 0) hk (by decide)).mp z) (by omega)
abbrev lA (s : State) : Nat → Prop := fun q : Nat => s.heap.size ≤ q
section OURS7
variable {p : Program} {l : Launch} {e : Env} {R : Room} {s : State} {m : MethodId} {args : Array Value} {below : List Frame} {meth : Method} {c : Code} {H : Heap} {locs : List Loc} {cells slots : Nat} {Q : State → Prop}
variable {cc : ByteArray} {pc : Nat} {ls : Array Slot} {rest st0 : List Value} {E : gE} {A : Nat → Prop} {H0 : Heap} {ws : va_W} {a : Nat}
variable {y : MethodName} {bytes : ByteArray} {maxL nL mc ms n index : Nat} {ret : Option FieldType} {wsy : List Cond} {rm : Room} {Ts : List Cond} {own C host : String} {b : Addr} {As : List Value}
theorem cl_D {L : Nat} {xs : Nat → Int32} {ans : Int32} (S : CallFix p m c cc nL s args Ts own) (hM : Met l y wsy rm (va_Pc As (pX b L xs)) (vp_Si (fun r => r = ans)) 0 0 (fun _ => False)) (cw : CallB R s args own index y bytes maxL ret wsy rm 0 0 n ∧ (Cond.static y).before args s = true) (hX : va_X b L xs s s.heap) (hbl : b < s.heap.size) (hS : va_S (lA s) s.heap H locs)
    (hn : As.length = n) (hsize : ls.size = nL) (hst : st0 = As.reverse ++ rest) (hWd : (rest.map fun v => v.category).sum ≤ 8) (hdg : decode cc pc = .ok (.invokestatic index, 3)) (hf : cells ≤ R.cells ∧ slots ≤ R.slots)
    (kk : W p l e R s m args below meth c H locs cells slots Q (F0 m (pc + 3) ls (.int ans :: rest))) : W p l e R s m args below meth c H locs cells slots Q (F0 m pc ls st0) := by
  refine vp_callSi (va_Run.run (va_runS (As := As) (rest := rest) S hM cw ⟨pX_blind, fun U hU hW => ⟨rfl, va_X.moved hW.alike (by rw [hU]; exact hX.kept (hS.2.1 b hbl (Nat.not_le.mpr hbl))), by rw [hU]; exact Nat.lt_of_lt_of_le hbl hS.1⟩⟩ rfl hn hsize hst (lv_room hWd) hdg ⟨hf.1, hf.2⟩)) (fun r er => ?_)
  subst er
  exact kk
/-- a row's place set, the heap not less -/
theorem k_iastz (hexec : p.tables.exec = Jvm.exec) (hb : c.code = cc) (hK : kS E s) (hP : va_P E.1 vwCl ws H) (hD : va_D A ws) (hS : va_S A H0 H locs) (q0 : Nat) {N : Nat} {f : Nat → Int32} (j : Nat) {x : Int32} (ha : ws[q0]? = some (a, .inl (E.2.1, N, .inl f))) (hj : j < N) (hN : N < 2 ^ 31) (hdg : decode cc pc = .ok (.iastore, 1))
    (kk : ∀ (H1 : Heap) (locs1 : List Loc), va_P E.1 vwCl (ws.set q0 (a, .inl (E.2.1, N, .inl (upd f j x)))) H1 → va_D A (ws.set q0 (a, .inl (E.2.1, N, .inl (upd f j x)))) → va_S A H0 H1 locs1 → H.size ≤ H1.size → W p l e R s m args below meth c H1 locs1 cells slots Q (F0 m (pc + 1) ls rest)) : W p l e R s m args below meth c H locs cells slots Q (F0 m pc ls (.int x :: .int (nI j) :: .ref a :: rest)) :=
  k_iast hexec hb hK hP hD (show va_S A H H locs from ⟨Nat.le_refl _, fun _ _ _ => rfl, hS.2.2⟩) q0 j ha hj hN hdg (fun H1 locs1 h1 h2 h3 => kk H1 locs1 h1 h2 (va_Str hS h3) h3.1)
end OURS7
