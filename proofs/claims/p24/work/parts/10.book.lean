set_option maxHeartbeats 4000000 in
set_option maxRecDepth 100000 in
theorem c_X3_contains (l : Launch) (E : gE)  (x : Int32) (j : Nat) (hj : j < 32) : Met l yX3_contains wsX3_contains ({ frames := 0, cells := 0, slots := 0, locals := 0 }) (va_Pc [.int x, .int (nI j)] (pR E [])) (vp_Si (fun r => r = zI (bt x j))) 0 0 (fun _ => False) := by
  refine Met.ofW (cc := cX3_contains) (maxL := 2) (ret := (some .boolean)) (by decide) rfl ?_
  intro p e s m args below meth c s₁ B hml hv
  obtain ⟨rfl, hP, hK⟩ := hv
  have hx := B.exec
  have hb := B.bytes
  have hr := B.returns
  have hts := atoms_spec (ws := wsX3_contains) B.pre
  have hown : s.vm.findClass RX3 = some m.cls := findClass_of_methodNamed B.named
  have hlocks := B.notSynchronized
  have hP : va_P E.1 vwCl [] s.heap := hP
  have hl := lv_entry ([.int x, .int (nI j)]) (n := 2) (Nat.le_of_ble_eq_true rfl)
  rw [lg_entry_eq]
  generalize (lg_sl ([.int x, .int (nI j)]) ++ List.replicate (2 - (lg_sl ([.int x, .int (nI j)])).length) Slot.unset).toArray = ls at hl ⊢
  have hl : lv_has ls 2 [(0, .int x), (1, .int (nI j))] := hl
  refine lv_iload_n hx hb dX3_contains_0 rfl (lv_at hl 0 rfl) ?_
  refine lv_iconst (v := 1) hx hb dX3_contains_1 (by decide) ?_
  refine lv_iload_n hx hb dX3_contains_2 rfl (lv_at hl 1 rfl) ?_
  refine lv_ishl hx hb dX3_contains_3 ?_
  refine lv_topi (fun y9 ey9 => ?_)
  obtain rfl : y9 = m1 j := ey9.trans (rfl)
  refine lv_iand hx hb dX3_contains_4 ?_
  refine lv_if_eq (tgt := 12) hx hb dX3_contains_5 (by decide) (fun c_5 => ?_) (fun c_5 => ?_)
  · skip
    refine lv_iconst (v := 0) hx hb dX3_contains_12 (by decide) ?_
    have e9 : (0 : Int32) = zI (bt x j) := by rw [(bt_and0 hj).mp c_5]; rfl
    exact W.zret (v := 0) hx hb hr (rfl) (fun t ht hW => ⟨_, rfl, e9, ht⟩) (fun q h => absurd h List.not_mem_nil) dX3_contains_13
  · skip
    refine lv_iconst (v := 1) hx hb dX3_contains_8 (by decide) ?_
    refine lv_goto (tgt := 13) hx hb dX3_contains_9 (by decide) ?_
    have e9 : (1 : Int32) = zI (bt x j) := by rw [bt_t hj c_5]; rfl
    exact W.zret (v := 1) hx hb hr (rfl) (fun t ht hW => ⟨_, rfl, e9, ht⟩) (fun q h => absurd h List.not_mem_nil) dX3_contains_13
set_option maxHeartbeats 4000000 in
set_option maxRecDepth 100000 in
theorem c_X3_without (l : Launch) (E : gE)  (x : Int32) (j : Nat) (hj : j < 32) : Met l yX3_without wsX3_without ({ frames := 0, cells := 0, slots := 0, locals := 0 }) (va_Pc [.int x, .int (nI j)] (pR E [])) (vp_Si (fun r => r = x &&& (m1 j ^^^ (-1)))) 0 0 (fun _ => False) := by
  refine Met.ofW (cc := cX3_without) (maxL := 2) (ret := (some .int)) (by decide) rfl ?_
  intro p e s m args below meth c s₁ B hml hv
  obtain ⟨rfl, hP, hK⟩ := hv
  have hx := B.exec
  have hb := B.bytes
  have hr := B.returns
  have hts := atoms_spec (ws := wsX3_without) B.pre
  have hown : s.vm.findClass RX3 = some m.cls := findClass_of_methodNamed B.named
  have hlocks := B.notSynchronized
  have hP : va_P E.1 vwCl [] s.heap := hP
  have hl := lv_entry ([.int x, .int (nI j)]) (n := 2) (Nat.le_of_ble_eq_true rfl)
  rw [lg_entry_eq]
  generalize (lg_sl ([.int x, .int (nI j)]) ++ List.replicate (2 - (lg_sl ([.int x, .int (nI j)])).length) Slot.unset).toArray = ls at hl ⊢
  have hl : lv_has ls 2 [(0, .int x), (1, .int (nI j))] := hl
  refine lv_iload_n hx hb dX3_without_0 rfl (lv_at hl 0 rfl) ?_
  refine lv_iconst (v := 1) hx hb dX3_without_1 (by decide) ?_
  refine lv_iload_n hx hb dX3_without_2 rfl (lv_at hl 1 rfl) ?_
  refine lv_ishl hx hb dX3_without_3 ?_
  refine lv_topi (fun y9 ey9 => ?_)
  obtain rfl : y9 = m1 j := ey9.trans (rfl)
  refine lv_iconst (v := (-1)) hx hb dX3_without_4 (by decide) ?_
  refine lv_ixor hx hb dX3_without_5 ?_
  refine lv_iand hx hb dX3_without_6 ?_
  have e9 : (x &&& ((m1 j) ^^^ (-1)) : Int32) = x &&& (m1 j ^^^ (-1)) := by rfl
  exact W.iret (v := x &&& ((m1 j) ^^^ (-1))) hx hb hr (fun t ht hW => ⟨_, rfl, e9, ht⟩) (fun q h => absurd h List.not_mem_nil) dX3_without_7
set_option maxHeartbeats 4000000 in
set_option maxRecDepth 100000 in
theorem c_X1_size (l : Launch) (E : gE) (qK : Nat) (qS : Nat) (nf : Nat) (wd : Int32) (fl : Int32) (src : Nat → Nat) : Met l yX1_size wsX1_size ({ frames := 0, cells := 0, slots := 0, locals := 0 }) (va_Pc [.ref qK] (pR E [(qK, .inr (1, [.ref qS, .int (nI nf), .int wd, .int fl])), (qS, .inl (E.2.1, 14, .inl (fun w9 => nI (src w9))))])) (vp_Si (fun r => r = nI nf)) 0 0 (fun _ => False) := by
  refine Met.ofW (cc := cX1_size) (maxL := 1) (ret := (some .int)) (by decide) rfl ?_
  intro p e s m args below meth c s₁ B hml hv
  obtain ⟨rfl, hP, hK⟩ := hv
  have hx := B.exec
  have hb := B.bytes
  have hr := B.returns
  have hts := atoms_spec (ws := wsX1_size) B.pre
  have hown : s.vm.findClass RX1 = some m.cls := findClass_of_methodNamed B.named
  have hlocks := B.notSynchronized
  have hP : va_P E.1 vwCl [(qK, .inr (1, [.ref qS, .int (nI nf), .int wd, .int fl])), (qS, .inl (E.2.1, 14, .inl (fun w9 => nI (src w9))))] s.heap := hP
  have hl := lv_entry ([.ref qK]) (n := 1) (Nat.le_of_ble_eq_true rfl)
  rw [lg_entry_eq]
  generalize (lg_sl ([.ref qK]) ++ List.replicate (1 - (lg_sl ([.ref qK])).length) Slot.unset).toArray = ls at hl ⊢
  have hl : lv_has ls 1 [(0, .ref qK)] := hl
  refine lv_aload_n hx hb dX1_size_0 rfl (lv_at hl 0 rfl) ?_
  refine va_get (D := E.1) (ci := 1) (v := .int (nI nf)) (C := RX1) (T := TX1) (N := 4) hx hb hts (fun _ h => List.mem_cons_of_mem _ (List.mem_append_right _ h)) hown hK.1 hP 0 rfl rfl 1 (by decide) (hts (.fieldLink RX1 15 "Quarrelboard$FactBook" "count" "I") (List.mem_of_getElem? (i := 1) rfl)) (fun _ h9 => h9) rfl dX1_size_1 ?_
  have e9 : (nI nf : Int32) = nI nf := by rfl
  exact W.iret (v := nI nf) hx hb hr (fun t ht hW => ⟨_, rfl, e9, ht⟩) (fun q h => absurd h List.not_mem_nil) dX1_size_4
set_option maxHeartbeats 4000000 in
set_option maxRecDepth 100000 in
theorem c_X1_hasAll (l : Launch) (E : gE) (qK : Nat) (qS : Nat) (nf : Nat) (wd : Int32) (fl : Int32) (src : Nat → Nat) (f : Int32) (hn : nf ≤ 14) : Met l yX1_hasAll wsX1_hasAll ({ frames := 0, cells := 0, slots := 0, locals := 0 }) (va_Pc [.ref qK, .int f] (pR E [(qK, .inr (1, [.ref qS, .int (nI nf), .int wd, .int fl])), (qS, .inl (E.2.1, 14, .inl (fun w9 => nI (src w9))))])) (vp_Si (fun r => r = zI (hasF f nf))) 0 0 (fun _ => False) := by
  refine Met.ofW (cc := cX1_hasAll) (maxL := 2) (ret := (some .boolean)) (by decide) rfl ?_
  intro p e s m args below meth c s₁ B hml hv
  obtain ⟨rfl, hP, hK⟩ := hv
  have hx := B.exec
  have hb := B.bytes
  have hr := B.returns
  have hts := atoms_spec (ws := wsX1_hasAll) B.pre
  have hown : s.vm.findClass RX1 = some m.cls := findClass_of_methodNamed B.named
  have hlocks := B.notSynchronized
  have hP : va_P E.1 vwCl [(qK, .inr (1, [.ref qS, .int (nI nf), .int wd, .int fl])), (qS, .inl (E.2.1, 14, .inl (fun w9 => nI (src w9))))] s.heap := hP
  have hl := lv_entry ([.ref qK, .int f]) (n := 2) (Nat.le_of_ble_eq_true rfl)
  rw [lg_entry_eq]
  generalize (lg_sl ([.ref qK, .int f]) ++ List.replicate (2 - (lg_sl ([.ref qK, .int f])).length) Slot.unset).toArray = ls at hl ⊢
  have hl : lv_has ls 2 [(0, .ref qK), (1, .int f)] := hl
  refine lv_iload_n hx hb dX1_hasAll_0 rfl (lv_at hl 1 rfl) ?_
  refine lv_if_lt (tgt := 18) hx hb dX1_hasAll_1 (by decide) (fun c_1 => ?_) (fun c_1 => ?_)
  · skip
    refine lv_iconst (v := 0) hx hb dX1_hasAll_18 (by decide) ?_
    have e9 : (0 : Int32) = zI (hasF f nf) := by simp only [zI, hasF, c_1, decide_true, decide_false, Bool.and_true, Bool.false_and, Bool.true_and, Bool.and_false, Bool.not_true, Bool.not_false, Bool.or_true, Bool.true_or, Bool.false_or, Bool.or_false, if_true, if_false, Bool.false_eq_true]
    exact W.zret (v := 0) hx hb hr (rfl) (fun t ht hW => ⟨_, rfl, e9, ht⟩) (fun q h => absurd h List.not_mem_nil) dX1_hasAll_19
  · skip
    refine lv_iload_n hx hb dX1_hasAll_4 rfl (lv_at hl 1 rfl) ?_
    refine lv_iconst (v := 1) hx hb dX1_hasAll_5 (by decide) ?_
    refine lv_aload_n hx hb dX1_hasAll_6 rfl (lv_at hl 0 rfl) ?_
    refine va_get (D := E.1) (ci := 1) (v := .int (nI nf)) (C := RX1) (T := TX1) (N := 4) hx hb hts (fun _ h => List.mem_cons_of_mem _ (List.mem_append_right _ h)) hown hK.1 hP 0 rfl rfl 1 (by decide) (hts (.fieldLink RX1 15 "Quarrelboard$FactBook" "count" "I") (List.mem_of_getElem? (i := 1) rfl)) (fun _ h9 => h9) rfl dX1_hasAll_7 ?_
    refine lv_ishl hx hb dX1_hasAll_10 ?_
    refine lv_topi (fun y9 ey9 => ?_)
    obtain rfl : y9 = m1 nf := ey9.trans (rfl)
    refine lv_icmp_ge (tgt := 18) hx hb dX1_hasAll_11 (by decide) (fun c_11 => ?_) (fun c_11 => ?_)
    · skip
      refine lv_iconst (v := 0) hx hb dX1_hasAll_18 (by decide) ?_
      have e9 : (0 : Int32) = zI (hasF f nf) := by simp only [zI, hasF, c_1, c_11, decide_true, decide_false, Bool.and_true, Bool.false_and, Bool.true_and, Bool.and_false, Bool.not_true, Bool.not_false, Bool.or_true, Bool.true_or, Bool.false_or, Bool.or_false, if_true, if_false, Bool.false_eq_true]
      exact W.zret (v := 0) hx hb hr (rfl) (fun t ht hW => ⟨_, rfl, e9, ht⟩) (fun q h => absurd h List.not_mem_nil) dX1_hasAll_19
    · skip
      refine lv_iconst (v := 1) hx hb dX1_hasAll_14 (by decide) ?_
      refine lv_goto (tgt := 19) hx hb dX1_hasAll_15 (by decide) ?_
      have e9 : (1 : Int32) = zI (hasF f nf) := by simp only [zI, hasF, c_1, c_11, decide_true, decide_false, Bool.and_true, Bool.false_and, Bool.true_and, Bool.and_false, Bool.not_true, Bool.not_false, Bool.or_true, Bool.true_or, Bool.false_or, Bool.or_false, if_true, if_false, Bool.false_eq_true]
      exact W.zret (v := 1) hx hb hr (rfl) (fun t ht hW => ⟨_, rfl, e9, ht⟩) (fun q h => absurd h List.not_mem_nil) dX1_hasAll_19
set_option maxHeartbeats 4000000 in
set_option maxRecDepth 100000 in
theorem c_X1_add_no (l : Launch) (E : gE) (qK : Nat) (qS : Nat) (nf : Nat) (wd : Int32) (fl : Int32) (src : Nat → Nat) (sN : Nat) (hn : 14 ≤ nf) (hn2 : nf ≤ 14) : Met l yX1_add wsX1_add ({ frames := 0, cells := 0, slots := 0, locals := 0 }) (va_Pc [.ref qK, .int (nI sN)] (pR E [(qK, .inr (1, [.ref qS, .int (nI nf), .int wd, .int fl])), (qS, .inl (E.2.1, 14, .inl (fun w9 => nI (src w9))))])) (vp_Si (fun r => r = (-1))) 0 0 (fun _ => False) := by
  refine Met.ofW (cc := cX1_add) (maxL := 3) (ret := (some .int)) (by decide) rfl ?_
  intro p e s m args below meth c s₁ B hml hv
  obtain ⟨rfl, hP, hK⟩ := hv
  have hx := B.exec
  have hb := B.bytes
  have hr := B.returns
  have hts := atoms_spec (ws := wsX1_add) B.pre
  have hown : s.vm.findClass RX1 = some m.cls := findClass_of_methodNamed B.named
  have hlocks := B.notSynchronized
  have hP : va_P E.1 vwCl [(qK, .inr (1, [.ref qS, .int (nI nf), .int wd, .int fl])), (qS, .inl (E.2.1, 14, .inl (fun w9 => nI (src w9))))] s.heap := hP
  have hl := lv_entry ([.ref qK, .int (nI sN)]) (n := 3) (Nat.le_of_ble_eq_true rfl)
  rw [lg_entry_eq]
  generalize (lg_sl ([.ref qK, .int (nI sN)]) ++ List.replicate (3 - (lg_sl ([.ref qK, .int (nI sN)])).length) Slot.unset).toArray = ls at hl ⊢
  have hl : lv_has ls 3 [(0, .ref qK), (1, .int (nI sN))] := hl
  refine lv_aload_n hx hb dX1_add_0 rfl (lv_at hl 0 rfl) ?_
  refine va_get (D := E.1) (ci := 1) (v := .int (nI nf)) (C := RX1) (T := TX1) (N := 4) hx hb hts (fun _ h => List.mem_cons_of_mem _ (List.mem_append_right _ h)) hown hK.1 hP 0 rfl rfl 1 (by decide) (hts (.fieldLink RX1 15 "Quarrelboard$FactBook" "count" "I") (List.mem_of_getElem? (i := 1) rfl)) (fun _ h9 => h9) rfl dX1_add_1 ?_
  refine lv_bipush (v := 14) hx hb dX1_add_4 (by decide) ?_
  refine lv_icmp_lt (tgt := 11) hx hb dX1_add_6 (by decide) (fun c_6 => ?_) (fun c_6 => ?_)
  · have c_6 : nI nf < nI 14 := c_6
    have c_6 := (nI_ltI (a := nf) (b := 14) (by omega) (by omega)).mp c_6
    exact absurd c_6 (by omega)
  · have c_6 : ¬ (nI nf < nI 14) := c_6
    have c_6 : ¬ (nf < 14) := fun h9 => c_6 ((nI_ltI (a := nf) (b := 14) (by omega) (by omega)).mpr h9)
    refine lv_iconst (v := (-1)) hx hb dX1_add_9 (by decide) ?_
    have e9 : ((-1) : Int32) = (-1) := by rfl
    exact W.iret (v := (-1)) hx hb hr (fun t ht hW => ⟨_, rfl, e9, ht⟩) (fun q h => absurd h List.not_mem_nil) dX1_add_10
set_option maxHeartbeats 4000000 in
set_option maxRecDepth 100000 in
theorem c_X1_add (l : Launch) (E : gE) (qK : Nat) (qS : Nat) (nf : Nat) (wd : Int32) (fl : Int32) (src : Nat → Nat) (sz : Nat) (sN : Nat) (hn : nf < 14) : Met l yX1_add wsX1_add ({ frames := 0, cells := 0, slots := 0, locals := 0 }) (va_Pc [.ref qK, .int (nI sN)] (pW E [(qK, .inr (1, [.ref qS, .int (nI nf), .int wd, .int fl])), (qS, .inl (E.2.1, 14, .inl (fun w9 => nI (src w9))))] sz)) (va_Qi (fun r (_ : Unit) => r = nI nf) (fun _ => eW E (va_A [(qK, .inr (1, [.ref qS, .int (nI nf), .int wd, .int fl])), (qS, .inl (E.2.1, 14, .inl (fun w9 => nI (src w9))))] sz) [(qK, .inr (1, [.ref qS, .int (nI (nf + 1)), .int wd, .int fl])), (qS, .inl (E.2.1, 14, .inl (fun w9 => nI ((upN src nf sN) w9))))]) (va_A [(qK, .inr (1, [.ref qS, .int (nI nf), .int wd, .int fl])), (qS, .inl (E.2.1, 14, .inl (fun w9 => nI (src w9))))] sz)) 0 0 (va_A [(qK, .inr (1, [.ref qS, .int (nI nf), .int wd, .int fl])), (qS, .inl (E.2.1, 14, .inl (fun w9 => nI (src w9))))] sz) := by
  refine Met.ofW (cc := cX1_add) (maxL := 3) (ret := (some .int)) (by decide) rfl ?_
  intro p e s m args below meth c s₁ B hml hv
  obtain ⟨rfl, hsz, hP, hK, hD0⟩ := hv
  have hx := B.exec
  have hb := B.bytes
  have hr := B.returns
  have hts := atoms_spec (ws := wsX1_add) B.pre
  have hown : s.vm.findClass RX1 = some m.cls := findClass_of_methodNamed B.named
  have hlocks := B.notSynchronized
  subst hsz
  have hD := hD0.self (sz := s.heap.size)
  generalize hAe : va_A [(qK, .inr (1, [.ref qS, .int (nI nf), .int wd, .int fl])), (qS, .inl (E.2.1, 14, .inl (fun w9 => nI (src w9))))] s.heap.size = A at hD ⊢
  have hA : ∀ q : Nat, s.heap.size ≤ q → A q := fun q h => by rw [← hAe]; exact Or.inr h
  have hS : va_S A s.heap s.heap [] := va_S.rf
  have hl := lv_entry ([.ref qK, .int (nI sN)]) (n := 3) (Nat.le_of_ble_eq_true rfl)
  rw [lg_entry_eq]
  generalize (lg_sl ([.ref qK, .int (nI sN)]) ++ List.replicate (3 - (lg_sl ([.ref qK, .int (nI sN)])).length) Slot.unset).toArray = ls at hl ⊢
  have hl : lv_has ls 3 [(0, .ref qK), (1, .int (nI sN))] := hl
  refine lv_aload_n hx hb dX1_add_0 rfl (lv_at hl 0 rfl) ?_
  refine va_get (D := E.1) (ci := 1) (v := .int (nI nf)) (C := RX1) (T := TX1) (N := 4) hx hb hts (fun _ h => List.mem_cons_of_mem _ (List.mem_append_right _ h)) hown hK.1 hP 0 rfl rfl 1 (by decide) (hts (.fieldLink RX1 15 "Quarrelboard$FactBook" "count" "I") (List.mem_of_getElem? (i := 1) rfl)) (fun _ h9 => h9) rfl dX1_add_1 ?_
  refine lv_bipush (v := 14) hx hb dX1_add_4 (by decide) ?_
  refine lv_icmp_lt (tgt := 11) hx hb dX1_add_6 (by decide) (fun c_6 => ?_) (fun c_6 => ?_)
  · have c_6 : nI nf < nI 14 := c_6
    have c_6 := (nI_ltI (a := nf) (b := 14) (by omega) (by omega)).mp c_6
    refine lv_aload_n hx hb dX1_add_11 rfl (lv_at hl 0 rfl) ?_
    refine va_get (D := E.1) (ci := 1) (v := .int (nI nf)) (C := RX1) (T := TX1) (N := 4) hx hb hts (fun _ h => List.mem_cons_of_mem _ (List.mem_append_right _ h)) hown hK.1 hP 0 rfl rfl 1 (by decide) (hts (.fieldLink RX1 15 "Quarrelboard$FactBook" "count" "I") (List.mem_of_getElem? (i := 1) rfl)) (fun _ h9 => h9) rfl dX1_add_12 ?_
    refine lv_istore_n (lv' := [(2, .int (nI nf)), (0, .ref qK), (1, .int (nI sN))]) hx hb dX1_add_15 rfl hl (by decide) rfl (fun ls hl => ?_)
    refine lv_aload_n hx hb dX1_add_16 rfl (lv_at hl 1 rfl) ?_
    refine va_get (D := E.1) (ci := 1) (v := .ref qS) (C := RX1) (T := TX1) (N := 4) hx hb hts (fun _ h => List.mem_cons_of_mem _ (List.mem_append_right _ h)) hown hK.1 hP 0 rfl rfl 0 (by decide) (hts (.fieldLink RX1 9 "Quarrelboard$FactBook" "sources" "[I") (List.mem_of_getElem? (i := 2) rfl)) (fun _ h9 => h9) rfl dX1_add_17 ?_
    refine lv_iload_n hx hb dX1_add_20 rfl (lv_at hl 0 rfl) ?_
    refine lv_iload_n hx hb dX1_add_21 rfl (lv_at hl 2 rfl) ?_
    refine k_iastN hx hb hK hP hD hS 1 (f := src) nf sN rfl (by omega) (by decide) dX1_add_22 (fun H locs hP hD hS => ?_)
    have hP : va_P E.1 vwCl [(qK, .inr (1, [.ref qS, .int (nI nf), .int wd, .int fl])), (qS, .inl (E.2.1, 14, .inl (fun w9 => nI ((upN src nf sN) w9))))] H := hP
    have hD : va_D A [(qK, .inr (1, [.ref qS, .int (nI nf), .int wd, .int fl])), (qS, .inl (E.2.1, 14, .inl (fun w9 => nI ((upN src nf sN) w9))))] := hD
    refine lv_aload_n hx hb dX1_add_23 rfl (lv_at hl 1 rfl) ?_
    refine lv_dup hx hb dX1_add_24 rfl ?_
    refine va_get (D := E.1) (ci := 1) (v := .int (nI nf)) (C := RX1) (T := TX1) (N := 4) hx hb hts (fun _ h => List.mem_cons_of_mem _ (List.mem_append_right _ h)) hown hK.1 hP 0 rfl rfl 1 (by decide) (hts (.fieldLink RX1 15 "Quarrelboard$FactBook" "count" "I") (List.mem_of_getElem? (i := 1) rfl)) (fun _ h9 => h9) rfl dX1_add_25 ?_
    refine lv_iconst (v := 1) hx hb dX1_add_28 (by decide) ?_
    refine lv_iadd hx hb dX1_add_29 ?_
    refine lv_topi (fun y9 ey9 => ?_)
    obtain rfl : y9 = nI (nf + 1) := ey9.trans (nI_1 _)
    refine va_put (D := E.1) (ci := 1) (v := .int (nI (nf + 1))) (ty := .int) (C := RX1) (T := TX1) (N := 4) hx hb hts (fun _ h => List.mem_cons_of_mem _ (List.mem_append_right _ h)) tyX1 tyX1_ok nmX1 hown hK.1 hP hD hS 0 rfl rfl 1 (by decide) (hts (.fieldLink RX1 15 "Quarrelboard$FactBook" "count" "I") (List.mem_of_getElem? (i := 1) rfl)) (fun _ h9 => h9) rfl (by decide +kernel) rfl rfl (Nat.le_of_ble_eq_true rfl) dX1_add_30 (fun H locs hP hD hS => ?_)
    have hP : va_P E.1 vwCl [(qK, .inr (1, [.ref qS, .int (nI (nf + 1)), .int wd, .int fl])), (qS, .inl (E.2.1, 14, .inl (fun w9 => nI ((upN src nf sN) w9))))] H := hP
    have hD : va_D A [(qK, .inr (1, [.ref qS, .int (nI (nf + 1)), .int wd, .int fl])), (qS, .inl (E.2.1, 14, .inl (fun w9 => nI ((upN src nf sN) w9))))] := hD
    refine lv_iload_n hx hb dX1_add_33 rfl (lv_at hl 0 rfl) ?_
    have e9 : (nI nf : Int32) = nI nf := by rfl
    have hP9 : va_P E.1 vwCl [(qK, .inr (1, [.ref qS, .int (nI (nf + 1)), .int wd, .int fl])), (qS, .inl (E.2.1, 14, .inl (fun w9 => nI ((upN src nf sN) w9))))] H := by exact hP
    have hD9 : va_D A [(qK, .inr (1, [.ref qS, .int (nI (nf + 1)), .int wd, .int fl])), (qS, .inl (E.2.1, 14, .inl (fun w9 => nI ((upN src nf sN) w9))))] := by exact hD
    exact W.iret (v := nI nf) hx hb hr (fun t ht hW => ⟨⟨_, (), rfl, e9, by rw [ht]; exact hP9, hD9⟩, hS.F ht⟩) hS.2.2 dX1_add_34
  · have c_6 : ¬ (nI nf < nI 14) := c_6
    have c_6 : ¬ (nf < 14) := fun h9 => c_6 ((nI_ltI (a := nf) (b := 14) (by omega) (by omega)).mpr h9)
    exact absurd c_6 (by omega)
set_option maxHeartbeats 4000000 in
set_option maxRecDepth 100000 in
theorem c_X1_flipSource (l : Launch) (E : gE) (qK : Nat) (qS : Nat) (nf : Nat) (wd : Int32) (fl : Int32) (src : Nat → Nat) (sz : Nat) (j : Nat) (hj : j < 32) : Met l yX1_flipSource wsX1_flipSource ({ frames := 1, cells := 0, slots := 0, locals := 21 }) (va_Pc [.ref qK, .int (nI j)] (pW E [(qK, .inr (1, [.ref qS, .int (nI nf), .int wd, .int fl])), (qS, .inl (E.2.1, 14, .inl (fun w9 => nI (src w9))))] sz)) (va_Qi (fun r (_ : Unit) => r = zI (!bt (fl ^^^ m1 j) j)) (fun _ => eW E (va_A [(qK, .inr (1, [.ref qS, .int (nI nf), .int wd, .int fl])), (qS, .inl (E.2.1, 14, .inl (fun w9 => nI (src w9))))] sz) [(qK, .inr (1, [.ref qS, .int (nI nf), .int wd, .int (fl ^^^ m1 j)])), (qS, .inl (E.2.1, 14, .inl (fun w9 => nI (src w9))))]) (va_A [(qK, .inr (1, [.ref qS, .int (nI nf), .int wd, .int fl])), (qS, .inl (E.2.1, 14, .inl (fun w9 => nI (src w9))))] sz)) 0 0 (va_A [(qK, .inr (1, [.ref qS, .int (nI nf), .int wd, .int fl])), (qS, .inl (E.2.1, 14, .inl (fun w9 => nI (src w9))))] sz) := by
  refine Met.ofW (cc := cX1_flipSource) (maxL := 2) (ret := (some .boolean)) (by decide) rfl ?_
  intro p e s m args below meth c s₁ B hml hv
  obtain ⟨rfl, hsz, hP, hK, hD0⟩ := hv
  have hx := B.exec
  have hb := B.bytes
  have hr := B.returns
  have hts := atoms_spec (ws := wsX1_flipSource) B.pre
  have hown : s.vm.findClass RX1 = some m.cls := findClass_of_methodNamed B.named
  have hlocks := B.notSynchronized
  subst hsz
  have hD := hD0.self (sz := s.heap.size)
  generalize hAe : va_A [(qK, .inr (1, [.ref qS, .int (nI nf), .int wd, .int fl])), (qS, .inl (E.2.1, 14, .inl (fun w9 => nI (src w9))))] s.heap.size = A at hD ⊢
  have hA : ∀ q : Nat, s.heap.size ≤ q → A q := fun q h => by rw [← hAe]; exact Or.inr h
  have hS : va_S A s.heap s.heap [] := va_S.rf
  have hl := lv_entry ([.ref qK, .int (nI j)]) (n := 2) (Nat.le_of_ble_eq_true rfl)
  rw [lg_entry_eq]
  generalize (lg_sl ([.ref qK, .int (nI j)]) ++ List.replicate (2 - (lg_sl ([.ref qK, .int (nI j)])).length) Slot.unset).toArray = ls at hl ⊢
  have hl : lv_has ls 2 [(0, .ref qK), (1, .int (nI j))] := hl
  refine lv_aload_n hx hb dX1_flipSource_0 rfl (lv_at hl 0 rfl) ?_
  refine lv_dup hx hb dX1_flipSource_1 rfl ?_
  refine va_get (D := E.1) (ci := 1) (v := .int fl) (C := RX1) (T := TX1) (N := 4) hx hb hts (fun _ h => List.mem_cons_of_mem _ (List.mem_append_right _ h)) hown hK.1 hP 0 rfl rfl 3 (by decide) (hts (.fieldLink RX1 22 "Quarrelboard$FactBook" "fallenSources" "I") (List.mem_of_getElem? (i := 1) rfl)) (fun _ h9 => h9) rfl dX1_flipSource_2 ?_
  refine lv_iconst (v := 1) hx hb dX1_flipSource_5 (by decide) ?_
  refine lv_iload_n hx hb dX1_flipSource_6 rfl (lv_at hl 1 rfl) ?_
  refine lv_ishl hx hb dX1_flipSource_7 ?_
  refine lv_topi (fun y9 ey9 => ?_)
  obtain rfl : y9 = m1 j := ey9.trans (rfl)
  refine lv_ixor hx hb dX1_flipSource_8 ?_
  refine va_put (D := E.1) (ci := 1) (v := .int (fl ^^^ (m1 j))) (ty := .int) (C := RX1) (T := TX1) (N := 4) hx hb hts (fun _ h => List.mem_cons_of_mem _ (List.mem_append_right _ h)) tyX1 tyX1_ok nmX1 hown hK.1 hP hD hS 0 rfl rfl 3 (by decide) (hts (.fieldLink RX1 22 "Quarrelboard$FactBook" "fallenSources" "I") (List.mem_of_getElem? (i := 1) rfl)) (fun _ h9 => h9) rfl (by decide +kernel) rfl rfl (Nat.le_of_ble_eq_true rfl) dX1_flipSource_9 (fun H locs hP hD hS => ?_)
  have hP : va_P E.1 vwCl [(qK, .inr (1, [.ref qS, .int (nI nf), .int wd, .int (fl ^^^ (m1 j))])), (qS, .inl (E.2.1, 14, .inl (fun w9 => nI (src w9))))] H := hP
  have hD : va_D A [(qK, .inr (1, [.ref qS, .int (nI nf), .int wd, .int (fl ^^^ (m1 j))])), (qS, .inl (E.2.1, 14, .inl (fun w9 => nI (src w9))))] := hD
  refine lv_aload_n hx hb dX1_flipSource_12 rfl (lv_at hl 0 rfl) ?_
  refine va_get (D := E.1) (ci := 1) (v := .int (fl ^^^ (m1 j))) (C := RX1) (T := TX1) (N := 4) hx hb hts (fun _ h => List.mem_cons_of_mem _ (List.mem_append_right _ h)) hown hK.1 hP 0 rfl rfl 3 (by decide) (hts (.fieldLink RX1 22 "Quarrelboard$FactBook" "fallenSources" "I") (List.mem_of_getElem? (i := 1) rfl)) (fun _ h9 => h9) rfl dX1_flipSource_13 ?_
  refine lv_iload_n hx hb dX1_flipSource_16 rfl (lv_at hl 1 rfl) ?_
  refine cl_SN (Wc := []) (As := [.int (fl ^^^ (m1 j)), .int (nI j)]) (rest := []) ⟨hx, hb, hml, hown, hts⟩ (c_X3_contains l E  (fl ^^^ (m1 j)) j (by omega)) ⟨va_cnB 2 hts gX1_flipSource_X3_contains_n25 rfl rfl rfl hK.2.2.1 (hts (.initialized RX3) (List.mem_of_getElem? (i := 3) rfl)) (by decide +kernel) ⟨Nat.le_of_ble_eq_true rfl, Nat.le_of_ble_eq_true rfl⟩, hts (.static yX3_contains) (List.mem_of_getElem? (i := 2) rfl), trivial⟩ hK (hP.sub [] rfl) rfl hl.1 rfl (Nat.le_of_ble_eq_true rfl) dX1_flipSource_17 ⟨Nat.zero_le _, Nat.zero_le _⟩ ?_
  refine lv_if_ne (tgt := 27) hx hb dX1_flipSource_20 (by decide) (fun c_20 => ?_) (fun c_20 => ?_)
  · have c_20 := zI_t c_20
    refine lv_iconst (v := 0) hx hb dX1_flipSource_27 (by decide) ?_
    have e9 : (0 : Int32) = zI (!bt (fl ^^^ m1 j) j) := by rw [c_20]; rfl
    have hP9 : va_P E.1 vwCl [(qK, .inr (1, [.ref qS, .int (nI nf), .int wd, .int (fl ^^^ m1 j)])), (qS, .inl (E.2.1, 14, .inl (fun w9 => nI (src w9))))] H := by exact hP
    have hD9 : va_D A [(qK, .inr (1, [.ref qS, .int (nI nf), .int wd, .int (fl ^^^ m1 j)])), (qS, .inl (E.2.1, 14, .inl (fun w9 => nI (src w9))))] := by exact hD
    exact W.zret (v := 0) hx hb hr (rfl) (fun t ht hW => ⟨⟨_, (), rfl, e9, by rw [ht]; exact hP9, hD9⟩, hS.F ht⟩) hS.2.2 dX1_flipSource_28
  · have c_20 := zI_f c_20
    refine lv_iconst (v := 1) hx hb dX1_flipSource_23 (by decide) ?_
    refine lv_goto (tgt := 28) hx hb dX1_flipSource_24 (by decide) ?_
    have e9 : (1 : Int32) = zI (!bt (fl ^^^ m1 j) j) := by rw [c_20]; rfl
    have hP9 : va_P E.1 vwCl [(qK, .inr (1, [.ref qS, .int (nI nf), .int wd, .int (fl ^^^ m1 j)])), (qS, .inl (E.2.1, 14, .inl (fun w9 => nI (src w9))))] H := by exact hP
    have hD9 : va_D A [(qK, .inr (1, [.ref qS, .int (nI nf), .int wd, .int (fl ^^^ m1 j)])), (qS, .inl (E.2.1, 14, .inl (fun w9 => nI (src w9))))] := by exact hD
    exact W.zret (v := 1) hx hb hr (rfl) (fun t ht hW => ⟨⟨_, (), rfl, e9, by rw [ht]; exact hP9, hD9⟩, hS.F ht⟩) hS.2.2 dX1_flipSource_28
set_option maxHeartbeats 4000000 in
set_option maxRecDepth 100000 in
theorem c_X1_standing (l : Launch) (E : gE) (qK : Nat) (qS : Nat) (nf : Nat) (wd : Int32) (fl : Int32) (src : Nat → Nat) (hn : nf ≤ 14) (hs : ∀ i, i < nf → src i < 32) : Met l yX1_standing wsX1_standing ({ frames := 1, cells := 0, slots := 0, locals := 21 }) (va_Pc [.ref qK] (pR E [(qK, .inr (1, [.ref qS, .int (nI nf), .int wd, .int fl])), (qS, .inl (E.2.1, 14, .inl (fun w9 => nI (src w9))))])) (vp_Si (fun r => r = stC src wd fl nf)) 0 0 (fun _ => False) := by
  refine Met.ofW (cc := cX1_standing) (maxL := 3) (ret := (some .int)) (by decide) rfl ?_
  intro p e s m args below meth c s₁ B hml hv
  obtain ⟨rfl, hP, hK⟩ := hv
  have hx := B.exec
  have hb := B.bytes
  have hr := B.returns
  have hts := atoms_spec (ws := wsX1_standing) B.pre
  have hown : s.vm.findClass RX1 = some m.cls := findClass_of_methodNamed B.named
  have hlocks := B.notSynchronized
  have hP : va_P E.1 vwCl [(qK, .inr (1, [.ref qS, .int (nI nf), .int wd, .int fl])), (qS, .inl (E.2.1, 14, .inl (fun w9 => nI (src w9))))] s.heap := hP
  have hl := lv_entry ([.ref qK]) (n := 3) (Nat.le_of_ble_eq_true rfl)
  rw [lg_entry_eq]
  generalize (lg_sl ([.ref qK]) ++ List.replicate (3 - (lg_sl ([.ref qK])).length) Slot.unset).toArray = ls at hl ⊢
  have hl : lv_has ls 3 [(0, .ref qK)] := hl
  refine lv_iconst (v := 0) hx hb dX1_standing_0 (by decide) ?_
  refine lv_istore_n (lv' := [(1, .int 0), (0, .ref qK)]) hx hb dX1_standing_1 rfl hl (by decide) rfl (fun ls hl => ?_)
  refine lv_iconst (v := 0) hx hb dX1_standing_2 (by decide) ?_
  refine lv_istore_n (lv' := [(2, .int 0), (1, .int 0), (0, .ref qK)]) hx hb dX1_standing_3 rfl hl (by decide) rfl (fun ls hl => ?_)
  have loop4 : ∀ (z4 k : Nat), k ≤ nf → nf + 1 ≤ k + z4 → ∀ (ls : Array Slot), lv_has ls 3 [(0, .ref qK), (1, .int (stC src wd fl k)), (2, .int (nI k))] → W p l e (headSpec wsX1_standing ({ frames := 1, cells := 0, slots := 0, locals := 21 })).room s m ([.ref qK] : List Value).toArray below meth c s.heap [] 0 0 (MQ below (vp_Si (fun r => r = stC src wd fl nf)) ([.ref qK] : List Value).toArray s 0 0 (fun _ => False)) (F0 m 4 ls []) := by
    intro z4
    induction z4 with
    | zero =>
      intro k hk4 hz4
      exact absurd hz4 (by omega)
    | succ z4 ih4 =>
      intro k hk4 hz4  ls hl
      refine lv_iload_n hx hb dX1_standing_4 rfl (lv_at hl 2 rfl) ?_
      refine lv_aload_n hx hb dX1_standing_5 rfl (lv_at hl 0 rfl) ?_
      refine va_get (D := E.1) (ci := 1) (v := .int (nI nf)) (C := RX1) (T := TX1) (N := 4) hx hb hts (fun _ h => List.mem_cons_of_mem _ (List.mem_append_right _ h)) hown hK.1 hP 0 rfl rfl 1 (by decide) (hts (.fieldLink RX1 15 "Quarrelboard$FactBook" "count" "I") (List.mem_of_getElem? (i := 1) rfl)) (fun _ h9 => h9) rfl dX1_standing_6 ?_
      refine lv_icmp_ge (tgt := 51) hx hb dX1_standing_9 (by decide) (fun c_9 => ?_) (fun c_9 => ?_)
      · have c_9 : nI nf ≤ nI k := c_9
        have c_9 := (nI_leI (a := nf) (b := k) (by omega) (by omega)).mp c_9
        refine lv_iload_n hx hb dX1_standing_51 rfl (lv_at hl 1 rfl) ?_
        have e9 : (stC src wd fl k : Int32) = stC src wd fl nf := by rw [show k = nf from by omega]
        exact W.iret (v := stC src wd fl k) hx hb hr (fun t ht hW => ⟨_, rfl, e9, ht⟩) (fun q h => absurd h List.not_mem_nil) dX1_standing_52
      · have c_9 : ¬ (nI nf ≤ nI k) := c_9
        have c_9 : ¬ (nf ≤ k) := fun h9 => c_9 ((nI_leI (a := nf) (b := k) (by omega) (by omega)).mpr h9)
        refine lv_aload_n hx hb dX1_standing_12 rfl (lv_at hl 0 rfl) ?_
        refine va_get (D := E.1) (ci := 1) (v := .int wd) (C := RX1) (T := TX1) (N := 4) hx hb hts (fun _ h => List.mem_cons_of_mem _ (List.mem_append_right _ h)) hown hK.1 hP 0 rfl rfl 2 (by decide) (hts (.fieldLink RX1 19 "Quarrelboard$FactBook" "withdrawn" "I") (List.mem_of_getElem? (i := 2) rfl)) (fun _ h9 => h9) rfl dX1_standing_13 ?_
        refine lv_iload_n hx hb dX1_standing_16 rfl (lv_at hl 2 rfl) ?_
        refine cl_SN (Wc := []) (As := [.int wd, .int (nI k)]) (rest := []) ⟨hx, hb, hml, hown, hts⟩ (c_X3_contains l E  wd k (by omega)) ⟨va_cnB 2 hts gX1_standing_X3_contains_n25 rfl rfl rfl hK.2.2.1 (hts (.initialized RX3) (List.mem_of_getElem? (i := 6) rfl)) (by decide +kernel) ⟨Nat.le_of_ble_eq_true rfl, Nat.le_of_ble_eq_true rfl⟩, hts (.static yX3_contains) (List.mem_of_getElem? (i := 5) rfl), trivial⟩ hK (hP.sub [] rfl) rfl hl.1 rfl (Nat.le_of_ble_eq_true rfl) dX1_standing_17 ⟨Nat.zero_le _, Nat.zero_le _⟩ ?_
        refine lv_if_ne (tgt := 45) hx hb dX1_standing_20 (by decide) (fun c_20 => ?_) (fun c_20 => ?_)
        · have c_20 := zI_t c_20
          refine lv_iinc (v := nI (k + 1)) (lv' := [(2, .int (nI (k + 1))), (0, .ref qK), (1, .int (stC src wd fl k))]) hx hb dX1_standing_45 hl (k := 2) rfl (nI_1 _) (by decide) rfl (fun ls hl => ?_)
          refine lv_goto (tgt := 4) hx hb dX1_standing_48 (by decide) ?_
          have hl : lv_has ls 3 [(0, .ref qK), (1, .int (stC src wd fl (k + 1))), (2, .int (nI (k + 1)))] := by rw [show stC src wd fl (k + 1) = stC src wd fl k from by simp [stC, c_20]]; exact lv_sub hl [1, 2, 0] rfl
          exact ih4 (k + 1) (by omega) (by omega)  ls hl
        · have c_20 := zI_f c_20
          refine lv_aload_n hx hb dX1_standing_23 rfl (lv_at hl 0 rfl) ?_
          refine va_get (D := E.1) (ci := 1) (v := .int fl) (C := RX1) (T := TX1) (N := 4) hx hb hts (fun _ h => List.mem_cons_of_mem _ (List.mem_append_right _ h)) hown hK.1 hP 0 rfl rfl 3 (by decide) (hts (.fieldLink RX1 22 "Quarrelboard$FactBook" "fallenSources" "I") (List.mem_of_getElem? (i := 3) rfl)) (fun _ h9 => h9) rfl dX1_standing_24 ?_
          refine lv_aload_n hx hb dX1_standing_27 rfl (lv_at hl 0 rfl) ?_
          refine va_get (D := E.1) (ci := 1) (v := .ref qS) (C := RX1) (T := TX1) (N := 4) hx hb hts (fun _ h => List.mem_cons_of_mem _ (List.mem_append_right _ h)) hown hK.1 hP 0 rfl rfl 0 (by decide) (hts (.fieldLink RX1 9 "Quarrelboard$FactBook" "sources" "[I") (List.mem_of_getElem? (i := 4) rfl)) (fun _ h9 => h9) rfl dX1_standing_28 ?_
          refine lv_iload_n hx hb dX1_standing_31 rfl (lv_at hl 2 rfl) ?_
          refine k_ialdN hx hb hK hP 1 (f := src) k rfl (by omega) (by decide) dX1_standing_32 ?_
          refine cl_SN (Wc := []) (As := [.int fl, .int (nI (src k))]) (rest := []) ⟨hx, hb, hml, hown, hts⟩ (c_X3_contains l E  fl (src k) (hs k (by omega))) ⟨va_cnB 2 hts gX1_standing_X3_contains_n25 rfl rfl rfl hK.2.2.1 (hts (.initialized RX3) (List.mem_of_getElem? (i := 6) rfl)) (by decide +kernel) ⟨Nat.le_of_ble_eq_true rfl, Nat.le_of_ble_eq_true rfl⟩, hts (.static yX3_contains) (List.mem_of_getElem? (i := 5) rfl), trivial⟩ hK (hP.sub [] rfl) rfl hl.1 rfl (Nat.le_of_ble_eq_true rfl) dX1_standing_33 ⟨Nat.zero_le _, Nat.zero_le _⟩ ?_
          refine lv_if_ne (tgt := 45) hx hb dX1_standing_36 (by decide) (fun c_36 => ?_) (fun c_36 => ?_)
          · have c_36 := zI_t c_36
            refine lv_iinc (v := nI (k + 1)) (lv' := [(2, .int (nI (k + 1))), (0, .ref qK), (1, .int (stC src wd fl k))]) hx hb dX1_standing_45 hl (k := 2) rfl (nI_1 _) (by decide) rfl (fun ls hl => ?_)
            refine lv_goto (tgt := 4) hx hb dX1_standing_48 (by decide) ?_
            have hl : lv_has ls 3 [(0, .ref qK), (1, .int (stC src wd fl (k + 1))), (2, .int (nI (k + 1)))] := by rw [show stC src wd fl (k + 1) = stC src wd fl k from by simp [stC, c_20, c_36]]; exact lv_sub hl [1, 2, 0] rfl
            exact ih4 (k + 1) (by omega) (by omega)  ls hl
          · have c_36 := zI_f c_36
            refine lv_iload_n hx hb dX1_standing_39 rfl (lv_at hl 1 rfl) ?_
            refine lv_iconst (v := 1) hx hb dX1_standing_40 (by decide) ?_
            refine lv_iload_n hx hb dX1_standing_41 rfl (lv_at hl 2 rfl) ?_
            refine lv_ishl hx hb dX1_standing_42 ?_
            refine lv_topi (fun y9 ey9 => ?_)
            obtain rfl : y9 = m1 k := ey9.trans (rfl)
            refine lv_ior hx hb dX1_standing_43 ?_
            refine lv_istore_n (lv' := [(1, .int ((stC src wd fl k) ||| (m1 k))), (0, .ref qK), (2, .int (nI k))]) hx hb dX1_standing_44 rfl hl (by decide) rfl (fun ls hl => ?_)
            refine lv_iinc (v := nI (k + 1)) (lv' := [(2, .int (nI (k + 1))), (1, .int ((stC src wd fl k) ||| (m1 k))), (0, .ref qK)]) hx hb dX1_standing_45 hl (k := 2) rfl (nI_1 _) (by decide) rfl (fun ls hl => ?_)
            refine lv_goto (tgt := 4) hx hb dX1_standing_48 (by decide) ?_
            have hl : lv_has ls 3 [(0, .ref qK), (1, .int (stC src wd fl (k + 1))), (2, .int (nI (k + 1)))] := by rw [show stC src wd fl (k + 1) = stC src wd fl k ||| m1 k from by simp [stC, c_20, c_36]]; exact lv_sub hl [2, 1, 0] rfl
            exact ih4 (k + 1) (by omega) (by omega)  ls hl
  have hl : lv_has ls 3 [(0, .ref qK), (1, .int (stC src wd fl 0)), (2, .int (nI 0))] := by exact lv_sub hl [2, 1, 0] rfl
  exact loop4 (nf + 1) 0 (by omega) (by omega)  ls hl
