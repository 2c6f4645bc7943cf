set_option maxHeartbeats 4000000 in
set_option maxRecDepth 100000 in
theorem c_X0_size (l : Launch) (E : gE) (qD : Nat) (qO : Nat) (qG : Nat) (qC : Nat) (qA : Nat) (qB : Nat) (n : Nat) (sp : Nat) (ow : Nat → Nat) (gf : Nat → Int32) (gc : Nat → Int32) (ak : Nat → Int32) (bk : Nat → Int32) : Met l yX0_size wsX0_size ({ frames := 0, cells := 0, slots := 0, locals := 0 }) (va_Pc [.ref qD] (pR E [(qD, .inr (0, [.ref qO, .ref qG, .ref qC, .ref qA, .ref qB, .int (nI n), .int (nI sp)])), (qO, .inl (E.2.1, 16, .inl (fun w9 => nI (ow w9)))), (qG, .inl (E.2.1, 16, .inl gf)), (qC, .inl (E.2.1, 16, .inl gc)), (qA, .inl (E.2.1, 16, .inl ak)), (qB, .inl (E.2.1, 3, .inl bk))])) (vp_Si (fun r => r = nI n)) 0 0 (fun _ => False) := by
  refine Met.ofW (cc := cX0_size) (maxL := 1) (ret := (some .int)) (by decide) rfl ?_
  intro p e s m args below meth c s₁ B hml hv
  obtain ⟨rfl, hP, hK⟩ := hv
  have hx := B.exec
  have hb := B.bytes
  have hr := B.returns
  have hts := atoms_spec (ws := wsX0_size) B.pre
  have hown : s.vm.findClass RX0 = some m.cls := findClass_of_methodNamed B.named
  have hlocks := B.notSynchronized
  have hP : va_P E.1 vwCl [(qD, .inr (0, [.ref qO, .ref qG, .ref qC, .ref qA, .ref qB, .int (nI n), .int (nI sp)])), (qO, .inl (E.2.1, 16, .inl (fun w9 => nI (ow w9)))), (qG, .inl (E.2.1, 16, .inl gf)), (qC, .inl (E.2.1, 16, .inl gc)), (qA, .inl (E.2.1, 16, .inl ak)), (qB, .inl (E.2.1, 3, .inl bk))] s.heap := hP
  have hl := lv_entry ([.ref qD]) (n := 1) (Nat.le_of_ble_eq_true rfl)
  rw [lg_entry_eq]
  generalize (lg_sl ([.ref qD]) ++ List.replicate (1 - (lg_sl ([.ref qD])).length) Slot.unset).toArray = ls at hl ⊢
  have hl : lv_has ls 1 [(0, .ref qD)] := hl
  refine lv_aload_n hx hb dX0_size_0 rfl (lv_at hl 0 rfl) ?_
  refine va_get (D := E.1) (ci := 0) (v := .int (nI n)) (C := RX0) (T := TX0) (N := 7) hx hb hts (fun _ h => List.mem_cons_of_mem _ (List.mem_append_right _ h)) hown hK.1 hP 0 rfl rfl 5 (by decide) (hts (.fieldLink RX0 33 "Quarrelboard$Debate" "count" "I") (List.mem_of_getElem? (i := 1) rfl)) (fun _ h9 => h9) rfl dX0_size_1 ?_
  have e9 : (nI n : Int32) = nI n := by rfl
  exact W.iret (v := nI n) hx hb hr (fun t ht hW => ⟨_, rfl, e9, ht⟩) (fun q h => absurd h List.not_mem_nil) dX0_size_4
set_option maxHeartbeats 4000000 in
set_option maxRecDepth 100000 in
theorem c_X0_speaker (l : Launch) (E : gE) (qD : Nat) (qO : Nat) (qG : Nat) (qC : Nat) (qA : Nat) (qB : Nat) (n : Nat) (sp : Nat) (ow : Nat → Nat) (gf : Nat → Int32) (gc : Nat → Int32) (ak : Nat → Int32) (bk : Nat → Int32) : Met l yX0_speaker wsX0_speaker ({ frames := 0, cells := 0, slots := 0, locals := 0 }) (va_Pc [.ref qD] (pR E [(qD, .inr (0, [.ref qO, .ref qG, .ref qC, .ref qA, .ref qB, .int (nI n), .int (nI sp)])), (qO, .inl (E.2.1, 16, .inl (fun w9 => nI (ow w9)))), (qG, .inl (E.2.1, 16, .inl gf)), (qC, .inl (E.2.1, 16, .inl gc)), (qA, .inl (E.2.1, 16, .inl ak)), (qB, .inl (E.2.1, 3, .inl bk))])) (vp_Si (fun r => r = nI sp)) 0 0 (fun _ => False) := by
  refine Met.ofW (cc := cX0_speaker) (maxL := 1) (ret := (some .int)) (by decide) rfl ?_
  intro p e s m args below meth c s₁ B hml hv
  obtain ⟨rfl, hP, hK⟩ := hv
  have hx := B.exec
  have hb := B.bytes
  have hr := B.returns
  have hts := atoms_spec (ws := wsX0_speaker) B.pre
  have hown : s.vm.findClass RX0 = some m.cls := findClass_of_methodNamed B.named
  have hlocks := B.notSynchronized
  have hP : va_P E.1 vwCl [(qD, .inr (0, [.ref qO, .ref qG, .ref qC, .ref qA, .ref qB, .int (nI n), .int (nI sp)])), (qO, .inl (E.2.1, 16, .inl (fun w9 => nI (ow w9)))), (qG, .inl (E.2.1, 16, .inl gf)), (qC, .inl (E.2.1, 16, .inl gc)), (qA, .inl (E.2.1, 16, .inl ak)), (qB, .inl (E.2.1, 3, .inl bk))] s.heap := hP
  have hl := lv_entry ([.ref qD]) (n := 1) (Nat.le_of_ble_eq_true rfl)
  rw [lg_entry_eq]
  generalize (lg_sl ([.ref qD]) ++ List.replicate (1 - (lg_sl ([.ref qD])).length) Slot.unset).toArray = ls at hl ⊢
  have hl : lv_has ls 1 [(0, .ref qD)] := hl
  refine lv_aload_n hx hb dX0_speaker_0 rfl (lv_at hl 0 rfl) ?_
  refine va_get (D := E.1) (ci := 0) (v := .int (nI sp)) (C := RX0) (T := TX0) (N := 7) hx hb hts (fun _ h => List.mem_cons_of_mem _ (List.mem_append_right _ h)) hown hK.1 hP 0 rfl rfl 6 (by decide) (hts (.fieldLink RX0 37 "Quarrelboard$Debate" "speaker" "I") (List.mem_of_getElem? (i := 1) rfl)) (fun _ h9 => h9) rfl dX0_speaker_1 ?_
  have e9 : (nI sp : Int32) = nI sp := by rfl
  exact W.iret (v := nI sp) hx hb hr (fun t ht hW => ⟨_, rfl, e9, ht⟩) (fun q h => absurd h List.not_mem_nil) dX0_speaker_4
set_option maxHeartbeats 4000000 in
set_option maxRecDepth 100000 in
theorem c_X0_secondsLeft (l : Launch) (E : gE) (qD : Nat) (qO : Nat) (qG : Nat) (qC : Nat) (qA : Nat) (qB : Nat) (n : Nat) (sp : Nat) (ow : Nat → Nat) (gf : Nat → Int32) (gc : Nat → Int32) (ak : Nat → Int32) (bk : Nat → Int32) (j : Nat) (hj : j < 3) : Met l yX0_secondsLeft wsX0_secondsLeft ({ frames := 0, cells := 0, slots := 0, locals := 0 }) (va_Pc [.ref qD, .int (nI j)] (pR E [(qD, .inr (0, [.ref qO, .ref qG, .ref qC, .ref qA, .ref qB, .int (nI n), .int (nI sp)])), (qO, .inl (E.2.1, 16, .inl (fun w9 => nI (ow w9)))), (qG, .inl (E.2.1, 16, .inl gf)), (qC, .inl (E.2.1, 16, .inl gc)), (qA, .inl (E.2.1, 16, .inl ak)), (qB, .inl (E.2.1, 3, .inl bk))])) (vp_Si (fun r => r = bk j)) 0 0 (fun _ => False) := by
  refine Met.ofW (cc := cX0_secondsLeft) (maxL := 2) (ret := (some .int)) (by decide) rfl ?_
  intro p e s m args below meth c s₁ B hml hv
  obtain ⟨rfl, hP, hK⟩ := hv
  have hx := B.exec
  have hb := B.bytes
  have hr := B.returns
  have hts := atoms_spec (ws := wsX0_secondsLeft) B.pre
  have hown : s.vm.findClass RX0 = some m.cls := findClass_of_methodNamed B.named
  have hlocks := B.notSynchronized
  have hP : va_P E.1 vwCl [(qD, .inr (0, [.ref qO, .ref qG, .ref qC, .ref qA, .ref qB, .int (nI n), .int (nI sp)])), (qO, .inl (E.2.1, 16, .inl (fun w9 => nI (ow w9)))), (qG, .inl (E.2.1, 16, .inl gf)), (qC, .inl (E.2.1, 16, .inl gc)), (qA, .inl (E.2.1, 16, .inl ak)), (qB, .inl (E.2.1, 3, .inl bk))] s.heap := hP
  have hl := lv_entry ([.ref qD, .int (nI j)]) (n := 2) (Nat.le_of_ble_eq_true rfl)
  rw [lg_entry_eq]
  generalize (lg_sl ([.ref qD, .int (nI j)]) ++ List.replicate (2 - (lg_sl ([.ref qD, .int (nI j)])).length) Slot.unset).toArray = ls at hl ⊢
  have hl : lv_has ls 2 [(0, .ref qD), (1, .int (nI j))] := hl
  refine lv_aload_n hx hb dX0_secondsLeft_0 rfl (lv_at hl 0 rfl) ?_
  refine va_get (D := E.1) (ci := 0) (v := .ref qB) (C := RX0) (T := TX0) (N := 7) hx hb hts (fun _ h => List.mem_cons_of_mem _ (List.mem_append_right _ h)) hown hK.1 hP 0 rfl rfl 4 (by decide) (hts (.fieldLink RX0 24 "Quarrelboard$Debate" "banks" "[I") (List.mem_of_getElem? (i := 1) rfl)) (fun _ h9 => h9) rfl dX0_secondsLeft_1 ?_
  refine lv_iload_n hx hb dX0_secondsLeft_4 rfl (lv_at hl 1 rfl) ?_
  refine k_iald hx hb hK hP 5 (f := bk) j rfl (by omega) (by decide) dX0_secondsLeft_5 ?_
  have e9 : (bk j : Int32) = bk j := by rfl
  exact W.iret (v := bk j) hx hb hr (fun t ht hW => ⟨_, rfl, e9, ht⟩) (fun q h => absurd h List.not_mem_nil) dX0_secondsLeft_6
set_option maxHeartbeats 4000000 in
set_option maxRecDepth 100000 in
theorem c_X0_ownerOf (l : Launch) (E : gE) (qD : Nat) (qO : Nat) (qG : Nat) (qC : Nat) (qA : Nat) (qB : Nat) (n : Nat) (sp : Nat) (ow : Nat → Nat) (gf : Nat → Int32) (gc : Nat → Int32) (ak : Nat → Int32) (bk : Nat → Int32) (j : Nat) (hj : j < 16) : Met l yX0_ownerOf wsX0_ownerOf ({ frames := 0, cells := 0, slots := 0, locals := 0 }) (va_Pc [.ref qD, .int (nI j)] (pR E [(qD, .inr (0, [.ref qO, .ref qG, .ref qC, .ref qA, .ref qB, .int (nI n), .int (nI sp)])), (qO, .inl (E.2.1, 16, .inl (fun w9 => nI (ow w9)))), (qG, .inl (E.2.1, 16, .inl gf)), (qC, .inl (E.2.1, 16, .inl gc)), (qA, .inl (E.2.1, 16, .inl ak)), (qB, .inl (E.2.1, 3, .inl bk))])) (vp_Si (fun r => r = nI (ow j))) 0 0 (fun _ => False) := by
  refine Met.ofW (cc := cX0_ownerOf) (maxL := 2) (ret := (some .int)) (by decide) rfl ?_
  intro p e s m args below meth c s₁ B hml hv
  obtain ⟨rfl, hP, hK⟩ := hv
  have hx := B.exec
  have hb := B.bytes
  have hr := B.returns
  have hts := atoms_spec (ws := wsX0_ownerOf) B.pre
  have hown : s.vm.findClass RX0 = some m.cls := findClass_of_methodNamed B.named
  have hlocks := B.notSynchronized
  have hP : va_P E.1 vwCl [(qD, .inr (0, [.ref qO, .ref qG, .ref qC, .ref qA, .ref qB, .int (nI n), .int (nI sp)])), (qO, .inl (E.2.1, 16, .inl (fun w9 => nI (ow w9)))), (qG, .inl (E.2.1, 16, .inl gf)), (qC, .inl (E.2.1, 16, .inl gc)), (qA, .inl (E.2.1, 16, .inl ak)), (qB, .inl (E.2.1, 3, .inl bk))] s.heap := hP
  have hl := lv_entry ([.ref qD, .int (nI j)]) (n := 2) (Nat.le_of_ble_eq_true rfl)
  rw [lg_entry_eq]
  generalize (lg_sl ([.ref qD, .int (nI j)]) ++ List.replicate (2 - (lg_sl ([.ref qD, .int (nI j)])).length) Slot.unset).toArray = ls at hl ⊢
  have hl : lv_has ls 2 [(0, .ref qD), (1, .int (nI j))] := hl
  refine lv_aload_n hx hb dX0_ownerOf_0 rfl (lv_at hl 0 rfl) ?_
  refine va_get (D := E.1) (ci := 0) (v := .ref qO) (C := RX0) (T := TX0) (N := 7) hx hb hts (fun _ h => List.mem_cons_of_mem _ (List.mem_append_right _ h)) hown hK.1 hP 0 rfl rfl 0 (by decide) (hts (.fieldLink RX0 9 "Quarrelboard$Debate" "owners" "[I") (List.mem_of_getElem? (i := 1) rfl)) (fun _ h9 => h9) rfl dX0_ownerOf_1 ?_
  refine lv_iload_n hx hb dX0_ownerOf_4 rfl (lv_at hl 1 rfl) ?_
  refine k_ialdN hx hb hK hP 1 (f := ow) j rfl (by omega) (by decide) dX0_ownerOf_5 ?_
  have e9 : (nI (ow j) : Int32) = nI (ow j) := by rfl
  exact W.iret (v := nI (ow j)) hx hb hr (fun t ht hW => ⟨_, rfl, e9, ht⟩) (fun q h => absurd h List.not_mem_nil) dX0_ownerOf_6
set_option maxHeartbeats 4000000 in
set_option maxRecDepth 100000 in
theorem c_X0_holds (l : Launch) (E : gE) (qD : Nat) (qO : Nat) (qG : Nat) (qC : Nat) (qA : Nat) (qB : Nat) (n : Nat) (sp : Nat) (ow : Nat → Nat) (gf : Nat → Int32) (gc : Nat → Int32) (ak : Nat → Int32) (bk : Nat → Int32) (i : Nat) (x : Int32) (y : Int32) (z : Int32) (hi : i < 16) : Met l yX0_holds wsX0_holds ({ frames := 0, cells := 0, slots := 0, locals := 0 }) (va_Pc [.ref qD, .int (nI i), .int x, .int y, .int z] (pR E [(qD, .inr (0, [.ref qO, .ref qG, .ref qC, .ref qA, .ref qB, .int (nI n), .int (nI sp)])), (qO, .inl (E.2.1, 16, .inl (fun w9 => nI (ow w9)))), (qG, .inl (E.2.1, 16, .inl gf)), (qC, .inl (E.2.1, 16, .inl gc)), (qA, .inl (E.2.1, 16, .inl ak)), (qB, .inl (E.2.1, 3, .inl bk))])) (vp_Si (fun r => r = zI (hO gf gc ak i x y z))) 0 0 (fun _ => False) := by
  refine Met.ofW (cc := cX0_holds) (maxL := 5) (ret := (some .boolean)) (by decide) rfl ?_
  intro p e s m args below meth c s₁ B hml hv
  obtain ⟨rfl, hP, hK⟩ := hv
  have hx := B.exec
  have hb := B.bytes
  have hr := B.returns
  have hts := atoms_spec (ws := wsX0_holds) B.pre
  have hown : s.vm.findClass RX0 = some m.cls := findClass_of_methodNamed B.named
  have hlocks := B.notSynchronized
  have hP : va_P E.1 vwCl [(qD, .inr (0, [.ref qO, .ref qG, .ref qC, .ref qA, .ref qB, .int (nI n), .int (nI sp)])), (qO, .inl (E.2.1, 16, .inl (fun w9 => nI (ow w9)))), (qG, .inl (E.2.1, 16, .inl gf)), (qC, .inl (E.2.1, 16, .inl gc)), (qA, .inl (E.2.1, 16, .inl ak)), (qB, .inl (E.2.1, 3, .inl bk))] s.heap := hP
  have hl := lv_entry ([.ref qD, .int (nI i), .int x, .int y, .int z]) (n := 5) (Nat.le_of_ble_eq_true rfl)
  rw [lg_entry_eq]
  generalize (lg_sl ([.ref qD, .int (nI i), .int x, .int y, .int z]) ++ List.replicate (5 - (lg_sl ([.ref qD, .int (nI i), .int x, .int y, .int z])).length) Slot.unset).toArray = ls at hl ⊢
  have hl : lv_has ls 5 [(0, .ref qD), (1, .int (nI i)), (2, .int x), (3, .int y), (4, .int z)] := hl
  refine lv_aload_n hx hb dX0_holds_0 rfl (lv_at hl 0 rfl) ?_
  refine va_get (D := E.1) (ci := 0) (v := .ref qG) (C := RX0) (T := TX0) (N := 7) hx hb hts (fun _ h => List.mem_cons_of_mem _ (List.mem_append_right _ h)) hown hK.1 hP 0 rfl rfl 1 (by decide) (hts (.fieldLink RX0 15 "Quarrelboard$Debate" "groundFacts" "[I") (List.mem_of_getElem? (i := 1) rfl)) (fun _ h9 => h9) rfl dX0_holds_1 ?_
  refine lv_iload_n hx hb dX0_holds_4 rfl (lv_at hl 1 rfl) ?_
  refine k_iald hx hb hK hP 2 (f := gf) i rfl (by omega) (by decide) dX0_holds_5 ?_
  refine lv_iload_n hx hb dX0_holds_6 rfl (lv_at hl 2 rfl) ?_
  refine lv_iconst (v := (-1)) hx hb dX0_holds_7 (by decide) ?_
  refine lv_ixor hx hb dX0_holds_8 ?_
  refine lv_iand hx hb dX0_holds_9 ?_
  refine lv_if_ne (tgt := 44) hx hb dX0_holds_10 (by decide) (fun c_10 => ?_) (fun c_10 => ?_)
  · skip
    refine lv_iconst (v := 0) hx hb dX0_holds_44 (by decide) ?_
    have e9 : (0 : Int32) = zI (hO gf gc ak i x y z) := by simp only [zI, hO, c_10, decide_true, decide_false, Bool.and_true, Bool.false_and, Bool.true_and, Bool.and_false, Bool.not_true, Bool.not_false, Bool.or_true, Bool.true_or, Bool.false_or, Bool.or_false, if_true, if_false, Bool.false_eq_true]
    exact W.zret (v := 0) hx hb hr (rfl) (fun t ht hW => ⟨_, rfl, e9, ht⟩) (fun q h => absurd h List.not_mem_nil) dX0_holds_45
  · skip
    refine lv_aload_n hx hb dX0_holds_13 rfl (lv_at hl 0 rfl) ?_
    refine va_get (D := E.1) (ci := 0) (v := .ref qC) (C := RX0) (T := TX0) (N := 7) hx hb hts (fun _ h => List.mem_cons_of_mem _ (List.mem_append_right _ h)) hown hK.1 hP 0 rfl rfl 2 (by decide) (hts (.fieldLink RX0 18 "Quarrelboard$Debate" "groundClaims" "[I") (List.mem_of_getElem? (i := 2) rfl)) (fun _ h9 => h9) rfl dX0_holds_14 ?_
    refine lv_iload_n hx hb dX0_holds_17 rfl (lv_at hl 1 rfl) ?_
    refine k_iald hx hb hK hP 3 (f := gc) i rfl (by omega) (by decide) dX0_holds_18 ?_
    refine lv_iload_n hx hb dX0_holds_19 rfl (lv_at hl 3 rfl) ?_
    refine lv_iconst (v := (-1)) hx hb dX0_holds_20 (by decide) ?_
    refine lv_ixor hx hb dX0_holds_21 ?_
    refine lv_iand hx hb dX0_holds_22 ?_
    refine lv_if_ne (tgt := 44) hx hb dX0_holds_23 (by decide) (fun c_23 => ?_) (fun c_23 => ?_)
    · skip
      refine lv_iconst (v := 0) hx hb dX0_holds_44 (by decide) ?_
      have e9 : (0 : Int32) = zI (hO gf gc ak i x y z) := by simp only [zI, hO, c_10, c_23, decide_true, decide_false, Bool.and_true, Bool.false_and, Bool.true_and, Bool.and_false, Bool.not_true, Bool.not_false, Bool.or_true, Bool.true_or, Bool.false_or, Bool.or_false, if_true, if_false, Bool.false_eq_true]
      exact W.zret (v := 0) hx hb hr (rfl) (fun t ht hW => ⟨_, rfl, e9, ht⟩) (fun q h => absurd h List.not_mem_nil) dX0_holds_45
    · skip
      refine lv_aload_n hx hb dX0_holds_26 rfl (lv_at hl 0 rfl) ?_
      refine va_get (D := E.1) (ci := 0) (v := .ref qA) (C := RX0) (T := TX0) (N := 7) hx hb hts (fun _ h => List.mem_cons_of_mem _ (List.mem_append_right _ h)) hown hK.1 hP 0 rfl rfl 3 (by decide) (hts (.fieldLink RX0 21 "Quarrelboard$Debate" "attackers" "[I") (List.mem_of_getElem? (i := 3) rfl)) (fun _ h9 => h9) rfl dX0_holds_27 ?_
      refine lv_iload_n hx hb dX0_holds_30 rfl (lv_at hl 1 rfl) ?_
      refine k_iald hx hb hK hP 4 (f := ak) i rfl (by omega) (by decide) dX0_holds_31 ?_
      refine lv_iload hx hb dX0_holds_32 (lv_at hl 4 rfl) ?_
      refine lv_iconst (v := (-1)) hx hb dX0_holds_34 (by decide) ?_
      refine lv_ixor hx hb dX0_holds_35 ?_
      refine lv_iand hx hb dX0_holds_36 ?_
      refine lv_if_ne (tgt := 44) hx hb dX0_holds_37 (by decide) (fun c_37 => ?_) (fun c_37 => ?_)
      · skip
        refine lv_iconst (v := 0) hx hb dX0_holds_44 (by decide) ?_
        have e9 : (0 : Int32) = zI (hO gf gc ak i x y z) := by simp only [zI, hO, c_10, c_23, c_37, decide_true, decide_false, Bool.and_true, Bool.false_and, Bool.true_and, Bool.and_false, Bool.not_true, Bool.not_false, Bool.or_true, Bool.true_or, Bool.false_or, Bool.or_false, if_true, if_false, Bool.false_eq_true]
        exact W.zret (v := 0) hx hb hr (rfl) (fun t ht hW => ⟨_, rfl, e9, ht⟩) (fun q h => absurd h List.not_mem_nil) dX0_holds_45
      · skip
        refine lv_iconst (v := 1) hx hb dX0_holds_40 (by decide) ?_
        refine lv_goto (tgt := 45) hx hb dX0_holds_41 (by decide) ?_
        have e9 : (1 : Int32) = zI (hO gf gc ak i x y z) := by simp only [zI, hO, c_10, c_23, c_37, decide_true, decide_false, Bool.and_true, Bool.false_and, Bool.true_and, Bool.and_false, Bool.not_true, Bool.not_false, Bool.or_true, Bool.true_or, Bool.false_or, Bool.or_false, if_true, if_false, Bool.false_eq_true]
        exact W.zret (v := 1) hx hb hr (rfl) (fun t ht hW => ⟨_, rfl, e9, ht⟩) (fun q h => absurd h List.not_mem_nil) dX0_holds_45
set_option maxHeartbeats 4000000 in
set_option maxRecDepth 100000 in
theorem c_X0_fails (l : Launch) (E : gE) (qD : Nat) (qO : Nat) (qG : Nat) (qC : Nat) (qA : Nat) (qB : Nat) (n : Nat) (sp : Nat) (ow : Nat → Nat) (gf : Nat → Int32) (gc : Nat → Int32) (ak : Nat → Int32) (bk : Nat → Int32) (i : Nat) (x : Int32) (y : Int32) (z : Int32) (hi : i < 16) : Met l yX0_fails wsX0_fails ({ frames := 0, cells := 0, slots := 0, locals := 0 }) (va_Pc [.ref qD, .int (nI i), .int x, .int y, .int z] (pR E [(qD, .inr (0, [.ref qO, .ref qG, .ref qC, .ref qA, .ref qB, .int (nI n), .int (nI sp)])), (qO, .inl (E.2.1, 16, .inl (fun w9 => nI (ow w9)))), (qG, .inl (E.2.1, 16, .inl gf)), (qC, .inl (E.2.1, 16, .inl gc)), (qA, .inl (E.2.1, 16, .inl ak)), (qB, .inl (E.2.1, 3, .inl bk))])) (vp_Si (fun r => r = zI (fA gf gc ak i x y z))) 0 0 (fun _ => False) := by
  refine Met.ofW (cc := cX0_fails) (maxL := 5) (ret := (some .boolean)) (by decide) rfl ?_
  intro p e s m args below meth c s₁ B hml hv
  obtain ⟨rfl, hP, hK⟩ := hv
  have hx := B.exec
  have hb := B.bytes
  have hr := B.returns
  have hts := atoms_spec (ws := wsX0_fails) B.pre
  have hown : s.vm.findClass RX0 = some m.cls := findClass_of_methodNamed B.named
  have hlocks := B.notSynchronized
  have hP : va_P E.1 vwCl [(qD, .inr (0, [.ref qO, .ref qG, .ref qC, .ref qA, .ref qB, .int (nI n), .int (nI sp)])), (qO, .inl (E.2.1, 16, .inl (fun w9 => nI (ow w9)))), (qG, .inl (E.2.1, 16, .inl gf)), (qC, .inl (E.2.1, 16, .inl gc)), (qA, .inl (E.2.1, 16, .inl ak)), (qB, .inl (E.2.1, 3, .inl bk))] s.heap := hP
  have hl := lv_entry ([.ref qD, .int (nI i), .int x, .int y, .int z]) (n := 5) (Nat.le_of_ble_eq_true rfl)
  rw [lg_entry_eq]
  generalize (lg_sl ([.ref qD, .int (nI i), .int x, .int y, .int z]) ++ List.replicate (5 - (lg_sl ([.ref qD, .int (nI i), .int x, .int y, .int z])).length) Slot.unset).toArray = ls at hl ⊢
  have hl : lv_has ls 5 [(0, .ref qD), (1, .int (nI i)), (2, .int x), (3, .int y), (4, .int z)] := hl
  refine lv_aload_n hx hb dX0_fails_0 rfl (lv_at hl 0 rfl) ?_
  refine va_get (D := E.1) (ci := 0) (v := .ref qG) (C := RX0) (T := TX0) (N := 7) hx hb hts (fun _ h => List.mem_cons_of_mem _ (List.mem_append_right _ h)) hown hK.1 hP 0 rfl rfl 1 (by decide) (hts (.fieldLink RX0 15 "Quarrelboard$Debate" "groundFacts" "[I") (List.mem_of_getElem? (i := 1) rfl)) (fun _ h9 => h9) rfl dX0_fails_1 ?_
  refine lv_iload_n hx hb dX0_fails_4 rfl (lv_at hl 1 rfl) ?_
  refine k_iald hx hb hK hP 2 (f := gf) i rfl (by omega) (by decide) dX0_fails_5 ?_
  refine lv_iload_n hx hb dX0_fails_6 rfl (lv_at hl 2 rfl) ?_
  refine lv_iconst (v := (-1)) hx hb dX0_fails_7 (by decide) ?_
  refine lv_ixor hx hb dX0_fails_8 ?_
  refine lv_iand hx hb dX0_fails_9 ?_
  refine lv_if_ne (tgt := 36) hx hb dX0_fails_10 (by decide) (fun c_10 => ?_) (fun c_10 => ?_)
  · skip
    refine lv_iconst (v := 1) hx hb dX0_fails_36 (by decide) ?_
    refine lv_goto (tgt := 41) hx hb dX0_fails_37 (by decide) ?_
    have e9 : (1 : Int32) = zI (fA gf gc ak i x y z) := by simp only [zI, fA, c_10, decide_true, decide_false, Bool.and_true, Bool.false_and, Bool.true_and, Bool.and_false, Bool.not_true, Bool.not_false, Bool.or_true, Bool.true_or, Bool.false_or, Bool.or_false, if_true, if_false, Bool.false_eq_true]
    exact W.zret (v := 1) hx hb hr (rfl) (fun t ht hW => ⟨_, rfl, e9, ht⟩) (fun q h => absurd h List.not_mem_nil) dX0_fails_41
  · skip
    refine lv_aload_n hx hb dX0_fails_13 rfl (lv_at hl 0 rfl) ?_
    refine va_get (D := E.1) (ci := 0) (v := .ref qC) (C := RX0) (T := TX0) (N := 7) hx hb hts (fun _ h => List.mem_cons_of_mem _ (List.mem_append_right _ h)) hown hK.1 hP 0 rfl rfl 2 (by decide) (hts (.fieldLink RX0 18 "Quarrelboard$Debate" "groundClaims" "[I") (List.mem_of_getElem? (i := 2) rfl)) (fun _ h9 => h9) rfl dX0_fails_14 ?_
    refine lv_iload_n hx hb dX0_fails_17 rfl (lv_at hl 1 rfl) ?_
    refine k_iald hx hb hK hP 3 (f := gc) i rfl (by omega) (by decide) dX0_fails_18 ?_
    refine lv_iload hx hb dX0_fails_19 (lv_at hl 4 rfl) ?_
    refine lv_iand hx hb dX0_fails_21 ?_
    refine lv_if_ne (tgt := 36) hx hb dX0_fails_22 (by decide) (fun c_22 => ?_) (fun c_22 => ?_)
    · skip
      refine lv_iconst (v := 1) hx hb dX0_fails_36 (by decide) ?_
      refine lv_goto (tgt := 41) hx hb dX0_fails_37 (by decide) ?_
      have e9 : (1 : Int32) = zI (fA gf gc ak i x y z) := by simp only [zI, fA, c_10, c_22, decide_true, decide_false, Bool.and_true, Bool.false_and, Bool.true_and, Bool.and_false, Bool.not_true, Bool.not_false, Bool.or_true, Bool.true_or, Bool.false_or, Bool.or_false, if_true, if_false, Bool.false_eq_true]
      exact W.zret (v := 1) hx hb hr (rfl) (fun t ht hW => ⟨_, rfl, e9, ht⟩) (fun q h => absurd h List.not_mem_nil) dX0_fails_41
    · skip
      refine lv_aload_n hx hb dX0_fails_25 rfl (lv_at hl 0 rfl) ?_
      refine va_get (D := E.1) (ci := 0) (v := .ref qA) (C := RX0) (T := TX0) (N := 7) hx hb hts (fun _ h => List.mem_cons_of_mem _ (List.mem_append_right _ h)) hown hK.1 hP 0 rfl rfl 3 (by decide) (hts (.fieldLink RX0 21 "Quarrelboard$Debate" "attackers" "[I") (List.mem_of_getElem? (i := 3) rfl)) (fun _ h9 => h9) rfl dX0_fails_26 ?_
      refine lv_iload_n hx hb dX0_fails_29 rfl (lv_at hl 1 rfl) ?_
      refine k_iald hx hb hK hP 4 (f := ak) i rfl (by omega) (by decide) dX0_fails_30 ?_
      refine lv_iload_n hx hb dX0_fails_31 rfl (lv_at hl 3 rfl) ?_
      refine lv_iand hx hb dX0_fails_32 ?_
      refine lv_if_eq (tgt := 40) hx hb dX0_fails_33 (by decide) (fun c_33 => ?_) (fun c_33 => ?_)
      · skip
        refine lv_iconst (v := 0) hx hb dX0_fails_40 (by decide) ?_
        have e9 : (0 : Int32) = zI (fA gf gc ak i x y z) := by simp only [zI, fA, c_10, c_22, c_33, decide_true, decide_false, Bool.and_true, Bool.false_and, Bool.true_and, Bool.and_false, Bool.not_true, Bool.not_false, Bool.or_true, Bool.true_or, Bool.false_or, Bool.or_false, if_true, if_false, Bool.false_eq_true]
        exact W.zret (v := 0) hx hb hr (rfl) (fun t ht hW => ⟨_, rfl, e9, ht⟩) (fun q h => absurd h List.not_mem_nil) dX0_fails_41
      · skip
        refine lv_iconst (v := 1) hx hb dX0_fails_36 (by decide) ?_
        refine lv_goto (tgt := 41) hx hb dX0_fails_37 (by decide) ?_
        have e9 : (1 : Int32) = zI (fA gf gc ak i x y z) := by simp only [zI, fA, c_10, c_22, c_33, decide_true, decide_false, Bool.and_true, Bool.false_and, Bool.true_and, Bool.and_false, Bool.not_true, Bool.not_false, Bool.or_true, Bool.true_or, Bool.false_or, Bool.or_false, if_true, if_false, Bool.false_eq_true]
        exact W.zret (v := 1) hx hb hr (rfl) (fun t ht hW => ⟨_, rfl, e9, ht⟩) (fun q h => absurd h List.not_mem_nil) dX0_fails_41
set_option maxHeartbeats 4000000 in
set_option maxRecDepth 100000 in
theorem c_X0_matters (l : Launch) (E : gE) (qD : Nat) (qO : Nat) (qG : Nat) (qC : Nat) (qA : Nat) (qB : Nat) (n : Nat) (sp : Nat) (ow : Nat → Nat) (gf : Nat → Int32) (gc : Nat → Int32) (ak : Nat → Int32) (bk : Nat → Int32) (i : Nat) (j : Nat) (hi : i < 16) (hj : j < 32) : Met l yX0_matters wsX0_matters ({ frames := 1, cells := 0, slots := 0, locals := 21 }) (va_Pc [.ref qD, .int (nI i), .int (nI j)] (pR E [(qD, .inr (0, [.ref qO, .ref qG, .ref qC, .ref qA, .ref qB, .int (nI n), .int (nI sp)])), (qO, .inl (E.2.1, 16, .inl (fun w9 => nI (ow w9)))), (qG, .inl (E.2.1, 16, .inl gf)), (qC, .inl (E.2.1, 16, .inl gc)), (qA, .inl (E.2.1, 16, .inl ak)), (qB, .inl (E.2.1, 3, .inl bk))])) (vp_Si (fun r => r = zI (bt (gc i ||| ak i) j))) 0 0 (fun _ => False) := by
  refine Met.ofW (cc := cX0_matters) (maxL := 3) (ret := (some .boolean)) (by decide) rfl ?_
  intro p e s m args below meth c s₁ B hml hv
  obtain ⟨rfl, hP, hK⟩ := hv
  have hx := B.exec
  have hb := B.bytes
  have hr := B.returns
  have hts := atoms_spec (ws := wsX0_matters) B.pre
  have hown : s.vm.findClass RX0 = some m.cls := findClass_of_methodNamed B.named
  have hlocks := B.notSynchronized
  have hP : va_P E.1 vwCl [(qD, .inr (0, [.ref qO, .ref qG, .ref qC, .ref qA, .ref qB, .int (nI n), .int (nI sp)])), (qO, .inl (E.2.1, 16, .inl (fun w9 => nI (ow w9)))), (qG, .inl (E.2.1, 16, .inl gf)), (qC, .inl (E.2.1, 16, .inl gc)), (qA, .inl (E.2.1, 16, .inl ak)), (qB, .inl (E.2.1, 3, .inl bk))] s.heap := hP
  have hl := lv_entry ([.ref qD, .int (nI i), .int (nI j)]) (n := 3) (Nat.le_of_ble_eq_true rfl)
  rw [lg_entry_eq]
  generalize (lg_sl ([.ref qD, .int (nI i), .int (nI j)]) ++ List.replicate (3 - (lg_sl ([.ref qD, .int (nI i), .int (nI j)])).length) Slot.unset).toArray = ls at hl ⊢
  have hl : lv_has ls 3 [(0, .ref qD), (1, .int (nI i)), (2, .int (nI j))] := hl
  refine lv_aload_n hx hb dX0_matters_0 rfl (lv_at hl 0 rfl) ?_
  refine va_get (D := E.1) (ci := 0) (v := .ref qC) (C := RX0) (T := TX0) (N := 7) hx hb hts (fun _ h => List.mem_cons_of_mem _ (List.mem_append_right _ h)) hown hK.1 hP 0 rfl rfl 2 (by decide) (hts (.fieldLink RX0 18 "Quarrelboard$Debate" "groundClaims" "[I") (List.mem_of_getElem? (i := 1) rfl)) (fun _ h9 => h9) rfl dX0_matters_1 ?_
  refine lv_iload_n hx hb dX0_matters_4 rfl (lv_at hl 1 rfl) ?_
  refine k_iald hx hb hK hP 3 (f := gc) i rfl (by omega) (by decide) dX0_matters_5 ?_
  refine lv_aload_n hx hb dX0_matters_6 rfl (lv_at hl 0 rfl) ?_
  refine va_get (D := E.1) (ci := 0) (v := .ref qA) (C := RX0) (T := TX0) (N := 7) hx hb hts (fun _ h => List.mem_cons_of_mem _ (List.mem_append_right _ h)) hown hK.1 hP 0 rfl rfl 3 (by decide) (hts (.fieldLink RX0 21 "Quarrelboard$Debate" "attackers" "[I") (List.mem_of_getElem? (i := 2) rfl)) (fun _ h9 => h9) rfl dX0_matters_7 ?_
  refine lv_iload_n hx hb dX0_matters_10 rfl (lv_at hl 1 rfl) ?_
  refine k_iald hx hb hK hP 4 (f := ak) i rfl (by omega) (by decide) dX0_matters_11 ?_
  refine lv_ior hx hb dX0_matters_12 ?_
  refine lv_iload_n hx hb dX0_matters_13 rfl (lv_at hl 2 rfl) ?_
  refine cl_SN (Wc := []) (As := [.int ((gc i) ||| (ak i)), .int (nI j)]) (rest := []) ⟨hx, hb, hml, hown, hts⟩ (c_X3_contains l E  ((gc i) ||| (ak i)) j (by omega)) ⟨va_cnB 2 hts gX0_matters_X3_contains_n43 rfl rfl rfl hK.2.1 (hts (.initialized RX3) (List.mem_of_getElem? (i := 4) rfl)) (by decide +kernel) ⟨Nat.le_of_ble_eq_true rfl, Nat.le_of_ble_eq_true rfl⟩, hts (.static yX3_contains) (List.mem_of_getElem? (i := 3) rfl), trivial⟩ hK (hP.sub [] rfl) rfl hl.1 rfl (Nat.le_of_ble_eq_true rfl) dX0_matters_14 ⟨Nat.zero_le _, Nat.zero_le _⟩ ?_
  have e9 : (zI (bt ((gc i) ||| (ak i)) j) : Int32) = zI (bt (gc i ||| ak i) j) := by rfl
  exact W.zret (v := zI (bt ((gc i) ||| (ak i)) j)) hx hb hr (zI_nar (bt ((gc i) ||| (ak i)) j)) (fun t ht hW => ⟨_, rfl, e9, ht⟩) (fun q h => absurd h List.not_mem_nil) dX0_matters_17
set_option maxHeartbeats 4000000 in
set_option maxRecDepth 100000 in
theorem c_X0_countOf (l : Launch) (E : gE) (qD : Nat) (qO : Nat) (qG : Nat) (qC : Nat) (qA : Nat) (qB : Nat) (n : Nat) (sp : Nat) (ow : Nat → Nat) (gf : Nat → Int32) (gc : Nat → Int32) (ak : Nat → Int32) (bk : Nat → Int32) (q : Nat) (x : Int32) (hn : n ≤ 16) (hq : q < 3) (ho : ∀ i, i < n → ow i < 3) : Met l yX0_countOf wsX0_countOf ({ frames := 1, cells := 0, slots := 0, locals := 21 }) (va_Pc [.ref qD, .int (nI q), .int x] (pR E [(qD, .inr (0, [.ref qO, .ref qG, .ref qC, .ref qA, .ref qB, .int (nI n), .int (nI sp)])), (qO, .inl (E.2.1, 16, .inl (fun w9 => nI (ow w9)))), (qG, .inl (E.2.1, 16, .inl gf)), (qC, .inl (E.2.1, 16, .inl gc)), (qA, .inl (E.2.1, 16, .inl ak)), (qB, .inl (E.2.1, 3, .inl bk))])) (vp_Si (fun r => r = nI (cnF ow q x n))) 0 0 (fun _ => False) := by
  refine Met.ofW (cc := cX0_countOf) (maxL := 5) (ret := (some .int)) (by decide) rfl ?_
  intro p e s m args below meth c s₁ B hml hv
  obtain ⟨rfl, hP, hK⟩ := hv
  have hx := B.exec
  have hb := B.bytes
  have hr := B.returns
  have hts := atoms_spec (ws := wsX0_countOf) B.pre
  have hown : s.vm.findClass RX0 = some m.cls := findClass_of_methodNamed B.named
  have hlocks := B.notSynchronized
  have hP : va_P E.1 vwCl [(qD, .inr (0, [.ref qO, .ref qG, .ref qC, .ref qA, .ref qB, .int (nI n), .int (nI sp)])), (qO, .inl (E.2.1, 16, .inl (fun w9 => nI (ow w9)))), (qG, .inl (E.2.1, 16, .inl gf)), (qC, .inl (E.2.1, 16, .inl gc)), (qA, .inl (E.2.1, 16, .inl ak)), (qB, .inl (E.2.1, 3, .inl bk))] s.heap := hP
  have hl := lv_entry ([.ref qD, .int (nI q), .int x]) (n := 5) (Nat.le_of_ble_eq_true rfl)
  rw [lg_entry_eq]
  generalize (lg_sl ([.ref qD, .int (nI q), .int x]) ++ List.replicate (5 - (lg_sl ([.ref qD, .int (nI q), .int x])).length) Slot.unset).toArray = ls at hl ⊢
  have hl : lv_has ls 5 [(0, .ref qD), (1, .int (nI q)), (2, .int x)] := hl
  refine lv_iconst (v := 0) hx hb dX0_countOf_0 (by decide) ?_
  refine lv_istore_n (lv' := [(3, .int 0), (0, .ref qD), (1, .int (nI q)), (2, .int x)]) hx hb dX0_countOf_1 rfl hl (by decide) rfl (fun ls hl => ?_)
  refine lv_iconst (v := 0) hx hb dX0_countOf_2 (by decide) ?_
  refine lv_istore (lv' := [(4, .int 0), (3, .int 0), (0, .ref qD), (1, .int (nI q)), (2, .int x)]) hx hb dX0_countOf_3 hl (by decide) rfl (fun ls hl => ?_)
  have loop5 : ∀ (z5 k : Nat), k ≤ n → n + 1 ≤ k + z5 → ∀ (ls : Array Slot), lv_has ls 5 [(0, .ref qD), (1, .int (nI q)), (2, .int x), (3, .int (nI (cnF ow q x k))), (4, .int (nI k))] → W p l e (headSpec wsX0_countOf ({ frames := 1, cells := 0, slots := 0, locals := 21 })).room s m ([.ref qD, .int (nI q), .int x] : List Value).toArray below meth c s.heap [] 0 0 (MQ below (vp_Si (fun r => r = nI (cnF ow q x n))) ([.ref qD, .int (nI q), .int x] : List Value).toArray s 0 0 (fun _ => False)) (F0 m 5 ls []) := by
    intro z5
    induction z5 with
    | zero =>
      intro k hk5 hz5
      exact absurd hz5 (by omega)
    | succ z5 ih5 =>
      intro k hk5 hz5  ls hl
      refine lv_iload hx hb dX0_countOf_5 (lv_at hl 4 rfl) ?_
      refine lv_aload_n hx hb dX0_countOf_7 rfl (lv_at hl 0 rfl) ?_
      refine va_get (D := E.1) (ci := 0) (v := .int (nI n)) (C := RX0) (T := TX0) (N := 7) hx hb hts (fun _ h => List.mem_cons_of_mem _ (List.mem_append_right _ h)) hown hK.1 hP 0 rfl rfl 5 (by decide) (hts (.fieldLink RX0 33 "Quarrelboard$Debate" "count" "I") (List.mem_of_getElem? (i := 1) rfl)) (fun _ h9 => h9) rfl dX0_countOf_8 ?_
      refine lv_icmp_ge (tgt := 43) hx hb dX0_countOf_11 (by decide) (fun c_11 => ?_) (fun c_11 => ?_)
      · have c_11 : nI n ≤ nI k := c_11
        have c_11 := (nI_leI (a := n) (b := k) (by omega) (by omega)).mp c_11
        refine lv_iload_n hx hb dX0_countOf_43 rfl (lv_at hl 3 rfl) ?_
        have e9 : (nI (cnF ow q x k) : Int32) = nI (cnF ow q x n) := by rw [show k = n from by omega]
        exact W.iret (v := nI (cnF ow q x k)) hx hb hr (fun t ht hW => ⟨_, rfl, e9, ht⟩) (fun q h => absurd h List.not_mem_nil) dX0_countOf_44
      · have c_11 : ¬ (nI n ≤ nI k) := c_11
        have c_11 : ¬ (n ≤ k) := fun h9 => c_11 ((nI_leI (a := n) (b := k) (by omega) (by omega)).mpr h9)
        refine lv_aload_n hx hb dX0_countOf_14 rfl (lv_at hl 0 rfl) ?_
        refine va_get (D := E.1) (ci := 0) (v := .ref qO) (C := RX0) (T := TX0) (N := 7) hx hb hts (fun _ h => List.mem_cons_of_mem _ (List.mem_append_right _ h)) hown hK.1 hP 0 rfl rfl 0 (by decide) (hts (.fieldLink RX0 9 "Quarrelboard$Debate" "owners" "[I") (List.mem_of_getElem? (i := 2) rfl)) (fun _ h9 => h9) rfl dX0_countOf_15 ?_
        refine lv_iload hx hb dX0_countOf_18 (lv_at hl 4 rfl) ?_
        refine k_ialdN hx hb hK hP 1 (f := ow) k rfl (by omega) (by decide) dX0_countOf_20 ?_
        refine lv_iload_n hx hb dX0_countOf_21 rfl (lv_at hl 1 rfl) ?_
        have ho9 := ho k (by omega)
        refine lv_icmp_ne (tgt := 37) hx hb dX0_countOf_22 (by decide) (fun c_22 => ?_) (fun c_22 => ?_)
        · have c_22 : ¬ (nI (ow k) = nI q) := c_22
          have c_22 : ¬ ((ow k) = q) := fun h9 => c_22 ((nI_eq (a := (ow k)) (b := q) (by omega) (by omega)).mpr h9)
          refine lv_iinc (v := nI (k + 1)) (lv' := [(4, .int (nI (k + 1))), (0, .ref qD), (1, .int (nI q)), (2, .int x), (3, .int (nI (cnF ow q x k)))]) hx hb dX0_countOf_37 hl (k := 4) rfl (nI_1 _) (by decide) rfl (fun ls hl => ?_)
          refine lv_goto (tgt := 5) hx hb dX0_countOf_40 (by decide) ?_
          have hl : lv_has ls 5 [(0, .ref qD), (1, .int (nI q)), (2, .int x), (3, .int (nI (cnF ow q x (k + 1)))), (4, .int (nI (k + 1)))] := by rw [show cnF ow q x (k + 1) = cnF ow q x k from by simp [cnF, c_22]]; exact lv_sub hl [1, 2, 3, 4, 0] rfl
          exact ih5 (k + 1) (by omega) (by omega)  ls hl
        · have c_22 : nI (ow k) = nI q := c_22
          have c_22 := (nI_eq (a := (ow k)) (b := q) (by omega) (by omega)).mp c_22
          refine lv_iload_n hx hb dX0_countOf_25 rfl (lv_at hl 2 rfl) ?_
          refine lv_iload hx hb dX0_countOf_26 (lv_at hl 4 rfl) ?_
          refine cl_SN (Wc := []) (As := [.int x, .int (nI k)]) (rest := []) ⟨hx, hb, hml, hown, hts⟩ (c_X3_contains l E  x k (by omega)) ⟨va_cnB 2 hts gX0_countOf_X3_contains_n43 rfl rfl rfl hK.2.1 (hts (.initialized RX3) (List.mem_of_getElem? (i := 4) rfl)) (by decide +kernel) ⟨Nat.le_of_ble_eq_true rfl, Nat.le_of_ble_eq_true rfl⟩, hts (.static yX3_contains) (List.mem_of_getElem? (i := 3) rfl), trivial⟩ hK (hP.sub [] rfl) rfl hl.1 rfl (Nat.le_of_ble_eq_true rfl) dX0_countOf_28 ⟨Nat.zero_le _, Nat.zero_le _⟩ ?_
          refine lv_if_eq (tgt := 37) hx hb dX0_countOf_31 (by decide) (fun c_31 => ?_) (fun c_31 => ?_)
          · have c_31 := zI_f c_31
            refine lv_iinc (v := nI (k + 1)) (lv' := [(4, .int (nI (k + 1))), (0, .ref qD), (1, .int (nI q)), (2, .int x), (3, .int (nI (cnF ow q x k)))]) hx hb dX0_countOf_37 hl (k := 4) rfl (nI_1 _) (by decide) rfl (fun ls hl => ?_)
            refine lv_goto (tgt := 5) hx hb dX0_countOf_40 (by decide) ?_
            have hl : lv_has ls 5 [(0, .ref qD), (1, .int (nI q)), (2, .int x), (3, .int (nI (cnF ow q x (k + 1)))), (4, .int (nI (k + 1)))] := by rw [show cnF ow q x (k + 1) = cnF ow q x k from by simp [cnF, c_22, c_31]]; exact lv_sub hl [1, 2, 3, 4, 0] rfl
            exact ih5 (k + 1) (by omega) (by omega)  ls hl
          · have c_31 := zI_t c_31
            refine lv_iinc (v := nI ((cnF ow q x k) + 1)) (lv' := [(3, .int (nI ((cnF ow q x k) + 1))), (0, .ref qD), (1, .int (nI q)), (2, .int x), (4, .int (nI k))]) hx hb dX0_countOf_34 hl (k := 3) rfl (nI_1 _) (by decide) rfl (fun ls hl => ?_)
            refine lv_iinc (v := nI (k + 1)) (lv' := [(4, .int (nI (k + 1))), (3, .int (nI ((cnF ow q x k) + 1))), (0, .ref qD), (1, .int (nI q)), (2, .int x)]) hx hb dX0_countOf_37 hl (k := 4) rfl (nI_1 _) (by decide) rfl (fun ls hl => ?_)
            refine lv_goto (tgt := 5) hx hb dX0_countOf_40 (by decide) ?_
            have hl : lv_has ls 5 [(0, .ref qD), (1, .int (nI q)), (2, .int x), (3, .int (nI (cnF ow q x (k + 1)))), (4, .int (nI (k + 1)))] := by rw [show cnF ow q x (k + 1) = cnF ow q x k + 1 from by simp [cnF, c_22, c_31]]; exact lv_sub hl [2, 3, 4, 1, 0] rfl
            exact ih5 (k + 1) (by omega) (by omega)  ls hl
  have hl : lv_has ls 5 [(0, .ref qD), (1, .int (nI q)), (2, .int x), (3, .int (nI (cnF ow q x 0))), (4, .int (nI 0))] := by exact lv_sub hl [2, 3, 4, 1, 0] rfl
  exact loop5 (n + 1) 0 (by omega) (by omega)  ls hl
