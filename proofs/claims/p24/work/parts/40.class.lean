set_option maxHeartbeats 4000000 in
set_option maxRecDepth 100000 in
theorem c_X3_checkSource_ok (l : Launch) (E : gE) (qX : Nat) (qK : Nat) (qD : Nat) (qJ : Nat) (qR : Nat) (cl : Int32) (rp : Nat → Int32) (qS : Nat) (nf : Nat) (wd : Int32) (fl : Int32) (src : Nat → Nat) (qQ : Nat) (qn : Nat) (sf : Int32) (jI : Int32) (jO : Int32) (qu : Nat → Nat) (qO : Nat) (qG : Nat) (qC : Nat) (qA : Nat) (qB : Nat) (n : Nat) (sp : Nat) (ow : Nat → Nat) (gf : Nat → Int32) (gc : Nat → Int32) (ak : Nat → Int32) (bk : Nat → Int32) (j : Nat) (hj : j < 6) : Met l yX3_checkSource wsX3_checkSource ({ frames := 0, cells := 0, slots := 0, locals := 0 }) (va_Pc [.ref qX, .int (nI j)] (pR E [(qX, .inr (3, [.ref qK, .ref qD, .ref qJ, .ref qR, .int cl])), (qR, .inl (E.2.1, 3, .inl rp)), (qK, .inr (1, [.ref qS, .int (nI nf), .int wd, .int fl])), (qS, .inl (E.2.1, 14, .inl (fun w9 => nI (src w9)))), (qJ, .inr (2, [.ref qD, .ref qQ, .int (nI qn), .int sf, .int jI, .int jO])), (qQ, .inl (E.2.1, 16, .inl (fun w9 => nI (qu w9)))), (qD, .inr (0, [.ref qO, .ref qG, .ref qC, .ref qA, .ref qB, .int (nI n), .int (nI sp)])), (qO, .inl (E.2.1, 16, .inl (fun w9 => nI (ow w9)))), (qG, .inl (E.2.1, 16, .inl gf)), (qC, .inl (E.2.1, 16, .inl gc)), (qA, .inl (E.2.1, 16, .inl ak)), (qB, .inl (E.2.1, 3, .inl bk))])) (va_Sv (fun _ => True)) 0 0 (fun _ => False) := by
  refine Met.ofW (cc := cX3_checkSource) (maxL := 2) (ret := none) (by decide) rfl ?_
  intro p e s m args below meth c s₁ B hml hv
  obtain ⟨rfl, hP, hK⟩ := hv
  have hx := B.exec
  have hb := B.bytes
  have hr := B.returns
  have hts := atoms_spec (ws := wsX3_checkSource) B.pre
  have hown : s.vm.findClass RX3 = some m.cls := findClass_of_methodNamed B.named
  have hlocks := B.notSynchronized
  have hP : va_P E.1 vwCl [(qX, .inr (3, [.ref qK, .ref qD, .ref qJ, .ref qR, .int cl])), (qR, .inl (E.2.1, 3, .inl rp)), (qK, .inr (1, [.ref qS, .int (nI nf), .int wd, .int fl])), (qS, .inl (E.2.1, 14, .inl (fun w9 => nI (src w9)))), (qJ, .inr (2, [.ref qD, .ref qQ, .int (nI qn), .int sf, .int jI, .int jO])), (qQ, .inl (E.2.1, 16, .inl (fun w9 => nI (qu w9)))), (qD, .inr (0, [.ref qO, .ref qG, .ref qC, .ref qA, .ref qB, .int (nI n), .int (nI sp)])), (qO, .inl (E.2.1, 16, .inl (fun w9 => nI (ow w9)))), (qG, .inl (E.2.1, 16, .inl gf)), (qC, .inl (E.2.1, 16, .inl gc)), (qA, .inl (E.2.1, 16, .inl ak)), (qB, .inl (E.2.1, 3, .inl bk))] s.heap := hP
  have hl := lv_entry ([.ref qX, .int (nI j)]) (n := 2) (Nat.le_of_ble_eq_true rfl)
  rw [lg_entry_eq]
  generalize (lg_sl ([.ref qX, .int (nI j)]) ++ List.replicate (2 - (lg_sl ([.ref qX, .int (nI j)])).length) Slot.unset).toArray = ls at hl ⊢
  have hl : lv_has ls 2 [(0, .ref qX), (1, .int (nI j))] := hl
  refine lv_iload_n hx hb dX3_checkSource_0 rfl (lv_at hl 1 rfl) ?_
  refine lv_if_lt (tgt := 10) hx hb dX3_checkSource_1 (by decide) (fun c_1 => ?_) (fun c_1 => ?_)
  · skip
    exact absurd c_1 (nI_pos (by omega))
  · skip
    refine lv_iload_n hx hb dX3_checkSource_4 rfl (lv_at hl 1 rfl) ?_
    refine lv_bipush (v := 6) hx hb dX3_checkSource_5 (by decide) ?_
    refine lv_icmp_lt (tgt := 20) hx hb dX3_checkSource_7 (by decide) (fun c_7 => ?_) (fun c_7 => ?_)
    · have c_7 : nI j < nI 6 := c_7
      have c_7 := (nI_ltI (a := j) (b := 6) (by omega) (by omega)).mp c_7
      exact W.vret hx hb hr (fun t ht hW => ⟨rfl, trivial, ht⟩) (fun q h => absurd h List.not_mem_nil) dX3_checkSource_20
    · have c_7 : ¬ (nI j < nI 6) := c_7
      have c_7 : ¬ (j < 6) := fun h9 => c_7 ((nI_ltI (a := j) (b := 6) (by omega) (by omega)).mpr h9)
      exact absurd hj c_7
set_option maxHeartbeats 4000000 in
set_option maxRecDepth 100000 in
theorem c_X3_checkFact_ok (l : Launch) (E : gE) (qX : Nat) (qK : Nat) (qD : Nat) (qJ : Nat) (qR : Nat) (cl : Int32) (rp : Nat → Int32) (qS : Nat) (nf : Nat) (wd : Int32) (fl : Int32) (src : Nat → Nat) (qQ : Nat) (qn : Nat) (sf : Int32) (jI : Int32) (jO : Int32) (qu : Nat → Nat) (qO : Nat) (qG : Nat) (qC : Nat) (qA : Nat) (qB : Nat) (n : Nat) (sp : Nat) (ow : Nat → Nat) (gf : Nat → Int32) (gc : Nat → Int32) (ak : Nat → Int32) (bk : Nat → Int32) (j : Nat) (hj : j < nf) (hn : nf ≤ 14) : Met l yX3_checkFact wsX3_checkFact ({ frames := 1, cells := 0, slots := 0, locals := 20 }) (va_Pc [.ref qX, .int (nI j)] (pR E [(qX, .inr (3, [.ref qK, .ref qD, .ref qJ, .ref qR, .int cl])), (qR, .inl (E.2.1, 3, .inl rp)), (qK, .inr (1, [.ref qS, .int (nI nf), .int wd, .int fl])), (qS, .inl (E.2.1, 14, .inl (fun w9 => nI (src w9)))), (qJ, .inr (2, [.ref qD, .ref qQ, .int (nI qn), .int sf, .int jI, .int jO])), (qQ, .inl (E.2.1, 16, .inl (fun w9 => nI (qu w9)))), (qD, .inr (0, [.ref qO, .ref qG, .ref qC, .ref qA, .ref qB, .int (nI n), .int (nI sp)])), (qO, .inl (E.2.1, 16, .inl (fun w9 => nI (ow w9)))), (qG, .inl (E.2.1, 16, .inl gf)), (qC, .inl (E.2.1, 16, .inl gc)), (qA, .inl (E.2.1, 16, .inl ak)), (qB, .inl (E.2.1, 3, .inl bk))])) (va_Sv (fun _ => True)) 0 0 (fun _ => False) := by
  refine Met.ofW (cc := cX3_checkFact) (maxL := 2) (ret := none) (by decide) rfl ?_
  intro p e s m args below meth c s₁ B hml hv
  obtain ⟨rfl, hP, hK⟩ := hv
  have hx := B.exec
  have hb := B.bytes
  have hr := B.returns
  have hts := atoms_spec (ws := wsX3_checkFact) B.pre
  have hown : s.vm.findClass RX3 = some m.cls := findClass_of_methodNamed B.named
  have hlocks := B.notSynchronized
  have hP : va_P E.1 vwCl [(qX, .inr (3, [.ref qK, .ref qD, .ref qJ, .ref qR, .int cl])), (qR, .inl (E.2.1, 3, .inl rp)), (qK, .inr (1, [.ref qS, .int (nI nf), .int wd, .int fl])), (qS, .inl (E.2.1, 14, .inl (fun w9 => nI (src w9)))), (qJ, .inr (2, [.ref qD, .ref qQ, .int (nI qn), .int sf, .int jI, .int jO])), (qQ, .inl (E.2.1, 16, .inl (fun w9 => nI (qu w9)))), (qD, .inr (0, [.ref qO, .ref qG, .ref qC, .ref qA, .ref qB, .int (nI n), .int (nI sp)])), (qO, .inl (E.2.1, 16, .inl (fun w9 => nI (ow w9)))), (qG, .inl (E.2.1, 16, .inl gf)), (qC, .inl (E.2.1, 16, .inl gc)), (qA, .inl (E.2.1, 16, .inl ak)), (qB, .inl (E.2.1, 3, .inl bk))] s.heap := hP
  have hl := lv_entry ([.ref qX, .int (nI j)]) (n := 2) (Nat.le_of_ble_eq_true rfl)
  rw [lg_entry_eq]
  generalize (lg_sl ([.ref qX, .int (nI j)]) ++ List.replicate (2 - (lg_sl ([.ref qX, .int (nI j)])).length) Slot.unset).toArray = ls at hl ⊢
  have hl : lv_has ls 2 [(0, .ref qX), (1, .int (nI j))] := hl
  refine lv_iload_n hx hb dX3_checkFact_0 rfl (lv_at hl 1 rfl) ?_
  refine lv_if_lt (tgt := 15) hx hb dX3_checkFact_1 (by decide) (fun c_1 => ?_) (fun c_1 => ?_)
  · skip
    exact absurd c_1 (nI_pos (by omega))
  · skip
    refine lv_iload_n hx hb dX3_checkFact_4 rfl (lv_at hl 1 rfl) ?_
    refine lv_aload_n hx hb dX3_checkFact_5 rfl (lv_at hl 0 rfl) ?_
    refine va_get (D := E.1) (ci := 3) (v := .ref qK) (C := RX3) (T := TX3) (N := 5) hx hb hts (fun _ h => List.mem_cons_of_mem _ (List.mem_append_left _ (List.mem_append_left _ (List.mem_append_right _ h)))) hown hK.1 hP 0 rfl rfl 0 (by decide) (hts (.fieldLink RX3 10 "Quarrelboard" "book" "LQuarrelboard$FactBook;") (List.mem_of_getElem? (i := 3) rfl)) (fun _ h9 => h9) rfl dX3_checkFact_6 ?_
    refine cl_S (Wc := [(qK, .inr (1, [.ref qS, .int (nI nf), .int wd, .int fl])), (qS, .inl (E.2.1, 14, .inl (fun w9 => nI (src w9))))]) (As := []) (rest := [.int (nI j)]) ⟨hx, hb, hml, hown, hts⟩ (c_X1_size l E qK qS nf wd fl src  ) (cwV 0 hts gX3_checkFact_X1_size rfl rfl rfl (by decide +kernel) ⟨Nat.le_of_ble_eq_true rfl, Nat.le_of_ble_eq_true rfl⟩) hK (hP.sub [2, 3] rfl) (va_recv hK.1 hP (ci := 1) (q0 := 2) rfl rfl) rfl hl.1 rfl (Nat.le_of_ble_eq_true rfl) dX3_checkFact_9 ⟨Nat.zero_le _, Nat.zero_le _⟩ ?_
    refine lv_icmp_lt (tgt := 25) hx hb dX3_checkFact_12 (by decide) (fun c_12 => ?_) (fun c_12 => ?_)
    · have c_12 : nI j < nI nf := c_12
      have c_12 := (nI_ltI (a := j) (b := nf) (by omega) (by omega)).mp c_12
      exact W.vret hx hb hr (fun t ht hW => ⟨rfl, trivial, ht⟩) (fun q h => absurd h List.not_mem_nil) dX3_checkFact_25
    · have c_12 : ¬ (nI j < nI nf) := c_12
      have c_12 : ¬ (j < nf) := fun h9 => c_12 ((nI_ltI (a := j) (b := nf) (by omega) (by omega)).mpr h9)
      exact absurd hj c_12
set_option maxHeartbeats 4000000 in
set_option maxRecDepth 100000 in
theorem c_X3_checkPlayer_ok (l : Launch) (E : gE) (qX : Nat) (qK : Nat) (qD : Nat) (qJ : Nat) (qR : Nat) (cl : Int32) (rp : Nat → Int32) (qS : Nat) (nf : Nat) (wd : Int32) (fl : Int32) (src : Nat → Nat) (qQ : Nat) (qn : Nat) (sf : Int32) (jI : Int32) (jO : Int32) (qu : Nat → Nat) (qO : Nat) (qG : Nat) (qC : Nat) (qA : Nat) (qB : Nat) (n : Nat) (sp : Nat) (ow : Nat → Nat) (gf : Nat → Int32) (gc : Nat → Int32) (ak : Nat → Int32) (bk : Nat → Int32) (j : Nat) (hj : j < 3) : Met l yX3_checkPlayer wsX3_checkPlayer ({ frames := 0, cells := 0, slots := 0, locals := 0 }) (va_Pc [.ref qX, .int (nI j)] (pR E [(qX, .inr (3, [.ref qK, .ref qD, .ref qJ, .ref qR, .int cl])), (qR, .inl (E.2.1, 3, .inl rp)), (qK, .inr (1, [.ref qS, .int (nI nf), .int wd, .int fl])), (qS, .inl (E.2.1, 14, .inl (fun w9 => nI (src w9)))), (qJ, .inr (2, [.ref qD, .ref qQ, .int (nI qn), .int sf, .int jI, .int jO])), (qQ, .inl (E.2.1, 16, .inl (fun w9 => nI (qu w9)))), (qD, .inr (0, [.ref qO, .ref qG, .ref qC, .ref qA, .ref qB, .int (nI n), .int (nI sp)])), (qO, .inl (E.2.1, 16, .inl (fun w9 => nI (ow w9)))), (qG, .inl (E.2.1, 16, .inl gf)), (qC, .inl (E.2.1, 16, .inl gc)), (qA, .inl (E.2.1, 16, .inl ak)), (qB, .inl (E.2.1, 3, .inl bk))])) (va_Sv (fun _ => True)) 0 0 (fun _ => False) := by
  refine Met.ofW (cc := cX3_checkPlayer) (maxL := 2) (ret := none) (by decide) rfl ?_
  intro p e s m args below meth c s₁ B hml hv
  obtain ⟨rfl, hP, hK⟩ := hv
  have hx := B.exec
  have hb := B.bytes
  have hr := B.returns
  have hts := atoms_spec (ws := wsX3_checkPlayer) B.pre
  have hown : s.vm.findClass RX3 = some m.cls := findClass_of_methodNamed B.named
  have hlocks := B.notSynchronized
  have hP : va_P E.1 vwCl [(qX, .inr (3, [.ref qK, .ref qD, .ref qJ, .ref qR, .int cl])), (qR, .inl (E.2.1, 3, .inl rp)), (qK, .inr (1, [.ref qS, .int (nI nf), .int wd, .int fl])), (qS, .inl (E.2.1, 14, .inl (fun w9 => nI (src w9)))), (qJ, .inr (2, [.ref qD, .ref qQ, .int (nI qn), .int sf, .int jI, .int jO])), (qQ, .inl (E.2.1, 16, .inl (fun w9 => nI (qu w9)))), (qD, .inr (0, [.ref qO, .ref qG, .ref qC, .ref qA, .ref qB, .int (nI n), .int (nI sp)])), (qO, .inl (E.2.1, 16, .inl (fun w9 => nI (ow w9)))), (qG, .inl (E.2.1, 16, .inl gf)), (qC, .inl (E.2.1, 16, .inl gc)), (qA, .inl (E.2.1, 16, .inl ak)), (qB, .inl (E.2.1, 3, .inl bk))] s.heap := hP
  have hl := lv_entry ([.ref qX, .int (nI j)]) (n := 2) (Nat.le_of_ble_eq_true rfl)
  rw [lg_entry_eq]
  generalize (lg_sl ([.ref qX, .int (nI j)]) ++ List.replicate (2 - (lg_sl ([.ref qX, .int (nI j)])).length) Slot.unset).toArray = ls at hl ⊢
  have hl : lv_has ls 2 [(0, .ref qX), (1, .int (nI j))] := hl
  refine lv_iload_n hx hb dX3_checkPlayer_0 rfl (lv_at hl 1 rfl) ?_
  refine lv_if_lt (tgt := 9) hx hb dX3_checkPlayer_1 (by decide) (fun c_1 => ?_) (fun c_1 => ?_)
  · skip
    exact absurd c_1 (nI_pos (by omega))
  · skip
    refine lv_iload_n hx hb dX3_checkPlayer_4 rfl (lv_at hl 1 rfl) ?_
    refine lv_iconst (v := 3) hx hb dX3_checkPlayer_5 (by decide) ?_
    refine lv_icmp_lt (tgt := 19) hx hb dX3_checkPlayer_6 (by decide) (fun c_6 => ?_) (fun c_6 => ?_)
    · have c_6 : nI j < nI 3 := c_6
      have c_6 := (nI_ltI (a := j) (b := 3) (by omega) (by omega)).mp c_6
      exact W.vret hx hb hr (fun t ht hW => ⟨rfl, trivial, ht⟩) (fun q h => absurd h List.not_mem_nil) dX3_checkPlayer_19
    · have c_6 : ¬ (nI j < nI 3) := c_6
      have c_6 : ¬ (j < 3) := fun h9 => c_6 ((nI_ltI (a := j) (b := 3) (by omega) (by omega)).mpr h9)
      exact absurd hj c_6
set_option maxHeartbeats 4000000 in
set_option maxRecDepth 100000 in
theorem c_X3_addFact_ok (l : Launch) (E : gE) (qX : Nat) (qK : Nat) (qD : Nat) (qJ : Nat) (qR : Nat) (cl : Int32) (rp : Nat → Int32) (qS : Nat) (nf : Nat) (wd : Int32) (fl : Int32) (src : Nat → Nat) (qQ : Nat) (qn : Nat) (sf : Int32) (jI : Int32) (jO : Int32) (qu : Nat → Nat) (qO : Nat) (qG : Nat) (qC : Nat) (qA : Nat) (qB : Nat) (n : Nat) (sp : Nat) (ow : Nat → Nat) (gf : Nat → Int32) (gc : Nat → Int32) (ak : Nat → Int32) (bk : Nat → Int32) (sz : Nat) (j : Nat) (hj : j < 6) (hn : nf < 14) : Met l yX3_addFact wsX3_addFact ({ frames := 1, cells := 0, slots := 0, locals := 22 }) (va_Pc [.ref qX, .int (nI j)] (pW E [(qX, .inr (3, [.ref qK, .ref qD, .ref qJ, .ref qR, .int cl])), (qR, .inl (E.2.1, 3, .inl rp)), (qK, .inr (1, [.ref qS, .int (nI nf), .int wd, .int fl])), (qS, .inl (E.2.1, 14, .inl (fun w9 => nI (src w9)))), (qJ, .inr (2, [.ref qD, .ref qQ, .int (nI qn), .int sf, .int jI, .int jO])), (qQ, .inl (E.2.1, 16, .inl (fun w9 => nI (qu w9)))), (qD, .inr (0, [.ref qO, .ref qG, .ref qC, .ref qA, .ref qB, .int (nI n), .int (nI sp)])), (qO, .inl (E.2.1, 16, .inl (fun w9 => nI (ow w9)))), (qG, .inl (E.2.1, 16, .inl gf)), (qC, .inl (E.2.1, 16, .inl gc)), (qA, .inl (E.2.1, 16, .inl ak)), (qB, .inl (E.2.1, 3, .inl bk))] sz)) (va_Qi (fun r (_ : Unit) => r = nI nf) (fun _ => eW E (va_A [(qX, .inr (3, [.ref qK, .ref qD, .ref qJ, .ref qR, .int cl])), (qR, .inl (E.2.1, 3, .inl rp)), (qK, .inr (1, [.ref qS, .int (nI nf), .int wd, .int fl])), (qS, .inl (E.2.1, 14, .inl (fun w9 => nI (src w9)))), (qJ, .inr (2, [.ref qD, .ref qQ, .int (nI qn), .int sf, .int jI, .int jO])), (qQ, .inl (E.2.1, 16, .inl (fun w9 => nI (qu w9)))), (qD, .inr (0, [.ref qO, .ref qG, .ref qC, .ref qA, .ref qB, .int (nI n), .int (nI sp)])), (qO, .inl (E.2.1, 16, .inl (fun w9 => nI (ow w9)))), (qG, .inl (E.2.1, 16, .inl gf)), (qC, .inl (E.2.1, 16, .inl gc)), (qA, .inl (E.2.1, 16, .inl ak)), (qB, .inl (E.2.1, 3, .inl bk))] sz) [(qX, .inr (3, [.ref qK, .ref qD, .ref qJ, .ref qR, .int cl])), (qR, .inl (E.2.1, 3, .inl rp)), (qK, .inr (1, [.ref qS, .int (nI (nf + 1)), .int wd, .int fl])), (qS, .inl (E.2.1, 14, .inl (fun w9 => nI ((upN src nf j) w9)))), (qJ, .inr (2, [.ref qD, .ref qQ, .int (nI qn), .int sf, .int jI, .int jO])), (qQ, .inl (E.2.1, 16, .inl (fun w9 => nI (qu w9)))), (qD, .inr (0, [.ref qO, .ref qG, .ref qC, .ref qA, .ref qB, .int (nI n), .int (nI sp)])), (qO, .inl (E.2.1, 16, .inl (fun w9 => nI (ow w9)))), (qG, .inl (E.2.1, 16, .inl gf)), (qC, .inl (E.2.1, 16, .inl gc)), (qA, .inl (E.2.1, 16, .inl ak)), (qB, .inl (E.2.1, 3, .inl bk))]) (va_A [(qX, .inr (3, [.ref qK, .ref qD, .ref qJ, .ref qR, .int cl])), (qR, .inl (E.2.1, 3, .inl rp)), (qK, .inr (1, [.ref qS, .int (nI nf), .int wd, .int fl])), (qS, .inl (E.2.1, 14, .inl (fun w9 => nI (src w9)))), (qJ, .inr (2, [.ref qD, .ref qQ, .int (nI qn), .int sf, .int jI, .int jO])), (qQ, .inl (E.2.1, 16, .inl (fun w9 => nI (qu w9)))), (qD, .inr (0, [.ref qO, .ref qG, .ref qC, .ref qA, .ref qB, .int (nI n), .int (nI sp)])), (qO, .inl (E.2.1, 16, .inl (fun w9 => nI (ow w9)))), (qG, .inl (E.2.1, 16, .inl gf)), (qC, .inl (E.2.1, 16, .inl gc)), (qA, .inl (E.2.1, 16, .inl ak)), (qB, .inl (E.2.1, 3, .inl bk))] sz)) 0 0 (va_A [(qX, .inr (3, [.ref qK, .ref qD, .ref qJ, .ref qR, .int cl])), (qR, .inl (E.2.1, 3, .inl rp)), (qK, .inr (1, [.ref qS, .int (nI nf), .int wd, .int fl])), (qS, .inl (E.2.1, 14, .inl (fun w9 => nI (src w9)))), (qJ, .inr (2, [.ref qD, .ref qQ, .int (nI qn), .int sf, .int jI, .int jO])), (qQ, .inl (E.2.1, 16, .inl (fun w9 => nI (qu w9)))), (qD, .inr (0, [.ref qO, .ref qG, .ref qC, .ref qA, .ref qB, .int (nI n), .int (nI sp)])), (qO, .inl (E.2.1, 16, .inl (fun w9 => nI (ow w9)))), (qG, .inl (E.2.1, 16, .inl gf)), (qC, .inl (E.2.1, 16, .inl gc)), (qA, .inl (E.2.1, 16, .inl ak)), (qB, .inl (E.2.1, 3, .inl bk))] sz) := by
  refine Met.ofW (cc := cX3_addFact) (maxL := 3) (ret := (some .int)) (by decide) rfl ?_
  intro p e s m args below meth c s₁ B hml hv
  obtain ⟨rfl, hsz, hP, hK, hD0⟩ := hv
  have hx := B.exec
  have hb := B.bytes
  have hr := B.returns
  have hts := atoms_spec (ws := wsX3_addFact) B.pre
  have hown : s.vm.findClass RX3 = some m.cls := findClass_of_methodNamed B.named
  have hlocks := B.notSynchronized
  subst hsz
  have hD := hD0.self (sz := s.heap.size)
  generalize hAe : va_A [(qX, .inr (3, [.ref qK, .ref qD, .ref qJ, .ref qR, .int cl])), (qR, .inl (E.2.1, 3, .inl rp)), (qK, .inr (1, [.ref qS, .int (nI nf), .int wd, .int fl])), (qS, .inl (E.2.1, 14, .inl (fun w9 => nI (src w9)))), (qJ, .inr (2, [.ref qD, .ref qQ, .int (nI qn), .int sf, .int jI, .int jO])), (qQ, .inl (E.2.1, 16, .inl (fun w9 => nI (qu w9)))), (qD, .inr (0, [.ref qO, .ref qG, .ref qC, .ref qA, .ref qB, .int (nI n), .int (nI sp)])), (qO, .inl (E.2.1, 16, .inl (fun w9 => nI (ow w9)))), (qG, .inl (E.2.1, 16, .inl gf)), (qC, .inl (E.2.1, 16, .inl gc)), (qA, .inl (E.2.1, 16, .inl ak)), (qB, .inl (E.2.1, 3, .inl bk))] s.heap.size = A at hD ⊢
  have hA : ∀ q : Nat, s.heap.size ≤ q → A q := fun q h => by rw [← hAe]; exact Or.inr h
  have hS : va_S A s.heap s.heap [] := va_S.rf
  have hl := lv_entry ([.ref qX, .int (nI j)]) (n := 3) (Nat.le_of_ble_eq_true rfl)
  rw [lg_entry_eq]
  generalize (lg_sl ([.ref qX, .int (nI j)]) ++ List.replicate (3 - (lg_sl ([.ref qX, .int (nI j)])).length) Slot.unset).toArray = ls at hl ⊢
  have hl : lv_has ls 3 [(0, .ref qX), (1, .int (nI j))] := hl
  refine lv_aload_n hx hb dX3_addFact_0 rfl (lv_at hl 0 rfl) ?_
  refine lv_iload_n hx hb dX3_addFact_1 rfl (lv_at hl 1 rfl) ?_
  refine cl_Sv (Wc := [(qX, .inr (3, [.ref qK, .ref qD, .ref qJ, .ref qR, .int cl])), (qR, .inl (E.2.1, 3, .inl rp)), (qK, .inr (1, [.ref qS, .int (nI nf), .int wd, .int fl])), (qS, .inl (E.2.1, 14, .inl (fun w9 => nI (src w9)))), (qJ, .inr (2, [.ref qD, .ref qQ, .int (nI qn), .int sf, .int jI, .int jO])), (qQ, .inl (E.2.1, 16, .inl (fun w9 => nI (qu w9)))), (qD, .inr (0, [.ref qO, .ref qG, .ref qC, .ref qA, .ref qB, .int (nI n), .int (nI sp)])), (qO, .inl (E.2.1, 16, .inl (fun w9 => nI (ow w9)))), (qG, .inl (E.2.1, 16, .inl gf)), (qC, .inl (E.2.1, 16, .inl gc)), (qA, .inl (E.2.1, 16, .inl ak)), (qB, .inl (E.2.1, 3, .inl bk))]) (As := [.int (nI j)]) (rest := []) ⟨hx, hb, hml, hown, hts⟩ (c_X3_checkSource_ok l E qX qK qD qJ qR cl rp qS nf wd fl src qQ qn sf jI jO qu qO qG qC qA qB n sp ow gf gc ak bk j hj) (cwV 1 hts gX3_addFact_X3_checkSource rfl rfl rfl (by decide +kernel) ⟨Nat.le_of_ble_eq_true rfl, Nat.le_of_ble_eq_true rfl⟩) hK (hP.sub [0, 1, 2, 3, 4, 5, 6, 7, 8, 9, 10, 11] rfl) (va_recv hK.1 hP (ci := 3) (q0 := 0) rfl rfl) rfl hl.1 rfl (Nat.le_of_ble_eq_true rfl) dX3_addFact_2 ⟨Nat.zero_le _, Nat.zero_le _⟩ ?_
  refine lv_aload_n hx hb dX3_addFact_5 rfl (lv_at hl 0 rfl) ?_
  refine va_get (D := E.1) (ci := 3) (v := .ref qK) (C := RX3) (T := TX3) (N := 5) hx hb hts (fun _ h => List.mem_cons_of_mem _ (List.mem_append_left _ (List.mem_append_left _ (List.mem_append_left _ (List.mem_append_right _ h))))) hown hK.1 hP 0 rfl rfl 0 (by decide) (hts (.fieldLink RX3 10 "Quarrelboard" "book" "LQuarrelboard$FactBook;") (List.mem_of_getElem? (i := 3) rfl)) (fun _ h9 => h9) rfl dX3_addFact_6 ?_
  refine lv_iload_n hx hb dX3_addFact_9 rfl (lv_at hl 1 rfl) ?_
  refine cl_W (Wl := [(qX, .inr (3, [.ref qK, .ref qD, .ref qJ, .ref qR, .int cl])), (qR, .inl (E.2.1, 3, .inl rp)), (qK, .inr (1, [.ref qS, .int (nI nf), .int wd, .int fl])), (qS, .inl (E.2.1, 14, .inl (fun w9 => nI (src w9)))), (qJ, .inr (2, [.ref qD, .ref qQ, .int (nI qn), .int sf, .int jI, .int jO])), (qQ, .inl (E.2.1, 16, .inl (fun w9 => nI (qu w9)))), (qD, .inr (0, [.ref qO, .ref qG, .ref qC, .ref qA, .ref qB, .int (nI n), .int (nI sp)])), (qO, .inl (E.2.1, 16, .inl (fun w9 => nI (ow w9)))), (qG, .inl (E.2.1, 16, .inl gf)), (qC, .inl (E.2.1, 16, .inl gc)), (qA, .inl (E.2.1, 16, .inl ak)), (qB, .inl (E.2.1, 3, .inl bk))]) (Wc := [(qK, .inr (1, [.ref qS, .int (nI nf), .int wd, .int fl])), (qS, .inl (E.2.1, 14, .inl (fun w9 => nI (src w9))))]) (Wr := [(qX, .inr (3, [.ref qK, .ref qD, .ref qJ, .ref qR, .int cl])), (qR, .inl (E.2.1, 3, .inl rp)), (qJ, .inr (2, [.ref qD, .ref qQ, .int (nI qn), .int sf, .int jI, .int jO])), (qQ, .inl (E.2.1, 16, .inl (fun w9 => nI (qu w9)))), (qD, .inr (0, [.ref qO, .ref qG, .ref qC, .ref qA, .ref qB, .int (nI n), .int (nI sp)])), (qO, .inl (E.2.1, 16, .inl (fun w9 => nI (ow w9)))), (qG, .inl (E.2.1, 16, .inl gf)), (qC, .inl (E.2.1, 16, .inl gc)), (qA, .inl (E.2.1, 16, .inl ak)), (qB, .inl (E.2.1, 3, .inl bk))]) (W1 := [(qK, .inr (1, [.ref qS, .int (nI (nf + 1)), .int wd, .int fl])), (qS, .inl (E.2.1, 14, .inl (fun w9 => nI ((upN src nf j) w9))))]) (W2 := [(qX, .inr (3, [.ref qK, .ref qD, .ref qJ, .ref qR, .int cl])), (qR, .inl (E.2.1, 3, .inl rp)), (qK, .inr (1, [.ref qS, .int (nI (nf + 1)), .int wd, .int fl])), (qS, .inl (E.2.1, 14, .inl (fun w9 => nI ((upN src nf j) w9)))), (qJ, .inr (2, [.ref qD, .ref qQ, .int (nI qn), .int sf, .int jI, .int jO])), (qQ, .inl (E.2.1, 16, .inl (fun w9 => nI (qu w9)))), (qD, .inr (0, [.ref qO, .ref qG, .ref qC, .ref qA, .ref qB, .int (nI n), .int (nI sp)])), (qO, .inl (E.2.1, 16, .inl (fun w9 => nI (ow w9)))), (qG, .inl (E.2.1, 16, .inl gf)), (qC, .inl (E.2.1, 16, .inl gc)), (qA, .inl (E.2.1, 16, .inl ak)), (qB, .inl (E.2.1, 3, .inl bk))]) (As := [.int (nI j)]) (rest := []) ⟨hx, hb, hml, hown, hts⟩ (c_X1_add l E qK qS nf wd fl src s.heap.size j (by omega)) (cwV 1 hts gX3_addFact_X1_add rfl rfl rfl (by decide +kernel) ⟨Nat.le_of_ble_eq_true rfl, Nat.le_of_ble_eq_true rfl⟩) hK hP hD hS hA [2, 3] [0, 1, 4, 5, 6, 7, 8, 9, 10, 11] [0, 1, 10, 11, 2, 3, 4, 5, 6, 7, 8, 9] rfl rfl (by decide) rfl (by decide) (by decide) rfl (by decide) (va_recv hK.1 hP (ci := 1) (q0 := 2) rfl rfl) rfl hl.1 rfl (Nat.le_of_ble_eq_true rfl) dX3_addFact_10 ⟨Nat.zero_le _, Nat.zero_le _⟩ (fun H locs hP hD hS => ?_)
  refine lv_istore_n (lv' := [(2, .int (nI nf)), (0, .ref qX), (1, .int (nI j))]) hx hb dX3_addFact_13 rfl hl (by decide) rfl (fun ls hl => ?_)
  refine lv_iload_n hx hb dX3_addFact_14 rfl (lv_at hl 0 rfl) ?_
  refine lv_iconst (v := (-1)) hx hb dX3_addFact_15 (by decide) ?_
  refine lv_icmp_ne (tgt := 29) hx hb dX3_addFact_16 (by decide) (fun c_16 => ?_) (fun c_16 => ?_)
  · skip
    refine lv_iload_n hx hb dX3_addFact_29 rfl (lv_at hl 0 rfl) ?_
    have e9 : (nI nf : Int32) = nI nf := by rfl
    have hP9 : va_P E.1 vwCl [(qX, .inr (3, [.ref qK, .ref qD, .ref qJ, .ref qR, .int cl])), (qR, .inl (E.2.1, 3, .inl rp)), (qK, .inr (1, [.ref qS, .int (nI (nf + 1)), .int wd, .int fl])), (qS, .inl (E.2.1, 14, .inl (fun w9 => nI ((upN src nf j) w9)))), (qJ, .inr (2, [.ref qD, .ref qQ, .int (nI qn), .int sf, .int jI, .int jO])), (qQ, .inl (E.2.1, 16, .inl (fun w9 => nI (qu w9)))), (qD, .inr (0, [.ref qO, .ref qG, .ref qC, .ref qA, .ref qB, .int (nI n), .int (nI sp)])), (qO, .inl (E.2.1, 16, .inl (fun w9 => nI (ow w9)))), (qG, .inl (E.2.1, 16, .inl gf)), (qC, .inl (E.2.1, 16, .inl gc)), (qA, .inl (E.2.1, 16, .inl ak)), (qB, .inl (E.2.1, 3, .inl bk))] H := by exact hP
    have hD9 : va_D A [(qX, .inr (3, [.ref qK, .ref qD, .ref qJ, .ref qR, .int cl])), (qR, .inl (E.2.1, 3, .inl rp)), (qK, .inr (1, [.ref qS, .int (nI (nf + 1)), .int wd, .int fl])), (qS, .inl (E.2.1, 14, .inl (fun w9 => nI ((upN src nf j) w9)))), (qJ, .inr (2, [.ref qD, .ref qQ, .int (nI qn), .int sf, .int jI, .int jO])), (qQ, .inl (E.2.1, 16, .inl (fun w9 => nI (qu w9)))), (qD, .inr (0, [.ref qO, .ref qG, .ref qC, .ref qA, .ref qB, .int (nI n), .int (nI sp)])), (qO, .inl (E.2.1, 16, .inl (fun w9 => nI (ow w9)))), (qG, .inl (E.2.1, 16, .inl gf)), (qC, .inl (E.2.1, 16, .inl gc)), (qA, .inl (E.2.1, 16, .inl ak)), (qB, .inl (E.2.1, 3, .inl bk))] := by exact hD
    exact W.iret (v := nI nf) hx hb hr (fun t ht hW => ⟨⟨_, (), rfl, e9, by rw [ht]; exact hP9, hD9⟩, hS.F ht⟩) hS.2.2 dX3_addFact_30
  · skip
    exact absurd c_16 (nI_nm1 (by omega))
set_option maxHeartbeats 4000000 in
set_option maxRecDepth 100000 in
theorem c_X3_toggleSource_ok (l : Launch) (E : gE) (qX : Nat) (qK : Nat) (qD : Nat) (qJ : Nat) (qR : Nat) (cl : Int32) (rp : Nat → Int32) (qS : Nat) (nf : Nat) (wd : Int32) (fl : Int32) (src : Nat → Nat) (qQ : Nat) (qn : Nat) (sf : Int32) (jI : Int32) (jO : Int32) (qu : Nat → Nat) (qO : Nat) (qG : Nat) (qC : Nat) (qA : Nat) (qB : Nat) (n : Nat) (sp : Nat) (ow : Nat → Nat) (gf : Nat → Int32) (gc : Nat → Int32) (ak : Nat → Int32) (bk : Nat → Int32) (sz : Nat) (j : Nat) (hj : j < 6) : Met l yX3_toggleSource wsX3_toggleSource ({ frames := 2, cells := 0, slots := 0, locals := 42 }) (va_Pc [.ref qX, .int (nI j)] (pW E [(qX, .inr (3, [.ref qK, .ref qD, .ref qJ, .ref qR, .int cl])), (qR, .inl (E.2.1, 3, .inl rp)), (qK, .inr (1, [.ref qS, .int (nI nf), .int wd, .int fl])), (qS, .inl (E.2.1, 14, .inl (fun w9 => nI (src w9)))), (qJ, .inr (2, [.ref qD, .ref qQ, .int (nI qn), .int sf, .int jI, .int jO])), (qQ, .inl (E.2.1, 16, .inl (fun w9 => nI (qu w9)))), (qD, .inr (0, [.ref qO, .ref qG, .ref qC, .ref qA, .ref qB, .int (nI n), .int (nI sp)])), (qO, .inl (E.2.1, 16, .inl (fun w9 => nI (ow w9)))), (qG, .inl (E.2.1, 16, .inl gf)), (qC, .inl (E.2.1, 16, .inl gc)), (qA, .inl (E.2.1, 16, .inl ak)), (qB, .inl (E.2.1, 3, .inl bk))] sz)) (va_Qi (fun r (_ : Unit) => r = zI (!bt (fl ^^^ m1 j) j)) (fun _ => eW E (va_A [(qX, .inr (3, [.ref qK, .ref qD, .ref qJ, .ref qR, .int cl])), (qR, .inl (E.2.1, 3, .inl rp)), (qK, .inr (1, [.ref qS, .int (nI nf), .int wd, .int fl])), (qS, .inl (E.2.1, 14, .inl (fun w9 => nI (src w9)))), (qJ, .inr (2, [.ref qD, .ref qQ, .int (nI qn), .int sf, .int jI, .int jO])), (qQ, .inl (E.2.1, 16, .inl (fun w9 => nI (qu w9)))), (qD, .inr (0, [.ref qO, .ref qG, .ref qC, .ref qA, .ref qB, .int (nI n), .int (nI sp)])), (qO, .inl (E.2.1, 16, .inl (fun w9 => nI (ow w9)))), (qG, .inl (E.2.1, 16, .inl gf)), (qC, .inl (E.2.1, 16, .inl gc)), (qA, .inl (E.2.1, 16, .inl ak)), (qB, .inl (E.2.1, 3, .inl bk))] sz) [(qX, .inr (3, [.ref qK, .ref qD, .ref qJ, .ref qR, .int cl])), (qR, .inl (E.2.1, 3, .inl rp)), (qK, .inr (1, [.ref qS, .int (nI nf), .int wd, .int (fl ^^^ m1 j)])), (qS, .inl (E.2.1, 14, .inl (fun w9 => nI (src w9)))), (qJ, .inr (2, [.ref qD, .ref qQ, .int (nI qn), .int sf, .int jI, .int jO])), (qQ, .inl (E.2.1, 16, .inl (fun w9 => nI (qu w9)))), (qD, .inr (0, [.ref qO, .ref qG, .ref qC, .ref qA, .ref qB, .int (nI n), .int (nI sp)])), (qO, .inl (E.2.1, 16, .inl (fun w9 => nI (ow w9)))), (qG, .inl (E.2.1, 16, .inl gf)), (qC, .inl (E.2.1, 16, .inl gc)), (qA, .inl (E.2.1, 16, .inl ak)), (qB, .inl (E.2.1, 3, .inl bk))]) (va_A [(qX, .inr (3, [.ref qK, .ref qD, .ref qJ, .ref qR, .int cl])), (qR, .inl (E.2.1, 3, .inl rp)), (qK, .inr (1, [.ref qS, .int (nI nf), .int wd, .int fl])), (qS, .inl (E.2.1, 14, .inl (fun w9 => nI (src w9)))), (qJ, .inr (2, [.ref qD, .ref qQ, .int (nI qn), .int sf, .int jI, .int jO])), (qQ, .inl (E.2.1, 16, .inl (fun w9 => nI (qu w9)))), (qD, .inr (0, [.ref qO, .ref qG, .ref qC, .ref qA, .ref qB, .int (nI n), .int (nI sp)])), (qO, .inl (E.2.1, 16, .inl (fun w9 => nI (ow w9)))), (qG, .inl (E.2.1, 16, .inl gf)), (qC, .inl (E.2.1, 16, .inl gc)), (qA, .inl (E.2.1, 16, .inl ak)), (qB, .inl (E.2.1, 3, .inl bk))] sz)) 0 0 (va_A [(qX, .inr (3, [.ref qK, .ref qD, .ref qJ, .ref qR, .int cl])), (qR, .inl (E.2.1, 3, .inl rp)), (qK, .inr (1, [.ref qS, .int (nI nf), .int wd, .int fl])), (qS, .inl (E.2.1, 14, .inl (fun w9 => nI (src w9)))), (qJ, .inr (2, [.ref qD, .ref qQ, .int (nI qn), .int sf, .int jI, .int jO])), (qQ, .inl (E.2.1, 16, .inl (fun w9 => nI (qu w9)))), (qD, .inr (0, [.ref qO, .ref qG, .ref qC, .ref qA, .ref qB, .int (nI n), .int (nI sp)])), (qO, .inl (E.2.1, 16, .inl (fun w9 => nI (ow w9)))), (qG, .inl (E.2.1, 16, .inl gf)), (qC, .inl (E.2.1, 16, .inl gc)), (qA, .inl (E.2.1, 16, .inl ak)), (qB, .inl (E.2.1, 3, .inl bk))] sz) := by
  refine Met.ofW (cc := cX3_toggleSource) (maxL := 2) (ret := (some .boolean)) (by decide) rfl ?_
  intro p e s m args below meth c s₁ B hml hv
  obtain ⟨rfl, hsz, hP, hK, hD0⟩ := hv
  have hx := B.exec
  have hb := B.bytes
  have hr := B.returns
  have hts := atoms_spec (ws := wsX3_toggleSource) B.pre
  have hown : s.vm.findClass RX3 = some m.cls := findClass_of_methodNamed B.named
  have hlocks := B.notSynchronized
  subst hsz
  have hD := hD0.self (sz := s.heap.size)
  generalize hAe : va_A [(qX, .inr (3, [.ref qK, .ref qD, .ref qJ, .ref qR, .int cl])), (qR, .inl (E.2.1, 3, .inl rp)), (qK, .inr (1, [.ref qS, .int (nI nf), .int wd, .int fl])), (qS, .inl (E.2.1, 14, .inl (fun w9 => nI (src w9)))), (qJ, .inr (2, [.ref qD, .ref qQ, .int (nI qn), .int sf, .int jI, .int jO])), (qQ, .inl (E.2.1, 16, .inl (fun w9 => nI (qu w9)))), (qD, .inr (0, [.ref qO, .ref qG, .ref qC, .ref qA, .ref qB, .int (nI n), .int (nI sp)])), (qO, .inl (E.2.1, 16, .inl (fun w9 => nI (ow w9)))), (qG, .inl (E.2.1, 16, .inl gf)), (qC, .inl (E.2.1, 16, .inl gc)), (qA, .inl (E.2.1, 16, .inl ak)), (qB, .inl (E.2.1, 3, .inl bk))] s.heap.size = A at hD ⊢
  have hA : ∀ q : Nat, s.heap.size ≤ q → A q := fun q h => by rw [← hAe]; exact Or.inr h
  have hS : va_S A s.heap s.heap [] := va_S.rf
  have hl := lv_entry ([.ref qX, .int (nI j)]) (n := 2) (Nat.le_of_ble_eq_true rfl)
  rw [lg_entry_eq]
  generalize (lg_sl ([.ref qX, .int (nI j)]) ++ List.replicate (2 - (lg_sl ([.ref qX, .int (nI j)])).length) Slot.unset).toArray = ls at hl ⊢
  have hl : lv_has ls 2 [(0, .ref qX), (1, .int (nI j))] := hl
  refine lv_aload_n hx hb dX3_toggleSource_0 rfl (lv_at hl 0 rfl) ?_
  refine lv_iload_n hx hb dX3_toggleSource_1 rfl (lv_at hl 1 rfl) ?_
  refine cl_Sv (Wc := [(qX, .inr (3, [.ref qK, .ref qD, .ref qJ, .ref qR, .int cl])), (qR, .inl (E.2.1, 3, .inl rp)), (qK, .inr (1, [.ref qS, .int (nI nf), .int wd, .int fl])), (qS, .inl (E.2.1, 14, .inl (fun w9 => nI (src w9)))), (qJ, .inr (2, [.ref qD, .ref qQ, .int (nI qn), .int sf, .int jI, .int jO])), (qQ, .inl (E.2.1, 16, .inl (fun w9 => nI (qu w9)))), (qD, .inr (0, [.ref qO, .ref qG, .ref qC, .ref qA, .ref qB, .int (nI n), .int (nI sp)])), (qO, .inl (E.2.1, 16, .inl (fun w9 => nI (ow w9)))), (qG, .inl (E.2.1, 16, .inl gf)), (qC, .inl (E.2.1, 16, .inl gc)), (qA, .inl (E.2.1, 16, .inl ak)), (qB, .inl (E.2.1, 3, .inl bk))]) (As := [.int (nI j)]) (rest := []) ⟨hx, hb, hml, hown, hts⟩ (c_X3_checkSource_ok l E qX qK qD qJ qR cl rp qS nf wd fl src qQ qn sf jI jO qu qO qG qC qA qB n sp ow gf gc ak bk j hj) (cwV 1 hts gX3_toggleSource_X3_checkSource rfl rfl rfl (by decide +kernel) ⟨Nat.le_of_ble_eq_true rfl, Nat.le_of_ble_eq_true rfl⟩) hK (hP.sub [0, 1, 2, 3, 4, 5, 6, 7, 8, 9, 10, 11] rfl) (va_recv hK.1 hP (ci := 3) (q0 := 0) rfl rfl) rfl hl.1 rfl (Nat.le_of_ble_eq_true rfl) dX3_toggleSource_2 ⟨Nat.zero_le _, Nat.zero_le _⟩ ?_
  refine lv_aload_n hx hb dX3_toggleSource_5 rfl (lv_at hl 0 rfl) ?_
  refine va_get (D := E.1) (ci := 3) (v := .ref qK) (C := RX3) (T := TX3) (N := 5) hx hb hts (fun _ h => List.mem_cons_of_mem _ (List.mem_append_left _ (List.mem_append_left _ (List.mem_append_right _ h)))) hown hK.1 hP 0 rfl rfl 0 (by decide) (hts (.fieldLink RX3 10 "Quarrelboard" "book" "LQuarrelboard$FactBook;") (List.mem_of_getElem? (i := 1) rfl)) (fun _ h9 => h9) rfl dX3_toggleSource_6 ?_
  refine lv_iload_n hx hb dX3_toggleSource_9 rfl (lv_at hl 1 rfl) ?_
  refine cl_W (Wl := [(qX, .inr (3, [.ref qK, .ref qD, .ref qJ, .ref qR, .int cl])), (qR, .inl (E.2.1, 3, .inl rp)), (qK, .inr (1, [.ref qS, .int (nI nf), .int wd, .int fl])), (qS, .inl (E.2.1, 14, .inl (fun w9 => nI (src w9)))), (qJ, .inr (2, [.ref qD, .ref qQ, .int (nI qn), .int sf, .int jI, .int jO])), (qQ, .inl (E.2.1, 16, .inl (fun w9 => nI (qu w9)))), (qD, .inr (0, [.ref qO, .ref qG, .ref qC, .ref qA, .ref qB, .int (nI n), .int (nI sp)])), (qO, .inl (E.2.1, 16, .inl (fun w9 => nI (ow w9)))), (qG, .inl (E.2.1, 16, .inl gf)), (qC, .inl (E.2.1, 16, .inl gc)), (qA, .inl (E.2.1, 16, .inl ak)), (qB, .inl (E.2.1, 3, .inl bk))]) (Wc := [(qK, .inr (1, [.ref qS, .int (nI nf), .int wd, .int fl])), (qS, .inl (E.2.1, 14, .inl (fun w9 => nI (src w9))))]) (Wr := [(qX, .inr (3, [.ref qK, .ref qD, .ref qJ, .ref qR, .int cl])), (qR, .inl (E.2.1, 3, .inl rp)), (qJ, .inr (2, [.ref qD, .ref qQ, .int (nI qn), .int sf, .int jI, .int jO])), (qQ, .inl (E.2.1, 16, .inl (fun w9 => nI (qu w9)))), (qD, .inr (0, [.ref qO, .ref qG, .ref qC, .ref qA, .ref qB, .int (nI n), .int (nI sp)])), (qO, .inl (E.2.1, 16, .inl (fun w9 => nI (ow w9)))), (qG, .inl (E.2.1, 16, .inl gf)), (qC, .inl (E.2.1, 16, .inl gc)), (qA, .inl (E.2.1, 16, .inl ak)), (qB, .inl (E.2.1, 3, .inl bk))]) (W1 := [(qK, .inr (1, [.ref qS, .int (nI nf), .int wd, .int (fl ^^^ m1 j)])), (qS, .inl (E.2.1, 14, .inl (fun w9 => nI (src w9))))]) (W2 := [(qX, .inr (3, [.ref qK, .ref qD, .ref qJ, .ref qR, .int cl])), (qR, .inl (E.2.1, 3, .inl rp)), (qK, .inr (1, [.ref qS, .int (nI nf), .int wd, .int (fl ^^^ m1 j)])), (qS, .inl (E.2.1, 14, .inl (fun w9 => nI (src w9)))), (qJ, .inr (2, [.ref qD, .ref qQ, .int (nI qn), .int sf, .int jI, .int jO])), (qQ, .inl (E.2.1, 16, .inl (fun w9 => nI (qu w9)))), (qD, .inr (0, [.ref qO, .ref qG, .ref qC, .ref qA, .ref qB, .int (nI n), .int (nI sp)])), (qO, .inl (E.2.1, 16, .inl (fun w9 => nI (ow w9)))), (qG, .inl (E.2.1, 16, .inl gf)), (qC, .inl (E.2.1, 16, .inl gc)), (qA, .inl (E.2.1, 16, .inl ak)), (qB, .inl (E.2.1, 3, .inl bk))]) (As := [.int (nI j)]) (rest := []) ⟨hx, hb, hml, hown, hts⟩ (c_X1_flipSource l E qK qS nf wd fl src s.heap.size j (by omega)) (cwV 1 hts gX3_toggleSource_X1_flipSource rfl rfl rfl (by decide +kernel) ⟨Nat.le_of_ble_eq_true rfl, Nat.le_of_ble_eq_true rfl⟩) hK hP hD hS hA [2, 3] [0, 1, 4, 5, 6, 7, 8, 9, 10, 11] [0, 1, 10, 11, 2, 3, 4, 5, 6, 7, 8, 9] rfl rfl (by decide) rfl (by decide) (by decide) rfl (by decide) (va_recv hK.1 hP (ci := 1) (q0 := 2) rfl rfl) rfl hl.1 rfl (Nat.le_of_ble_eq_true rfl) dX3_toggleSource_10 ⟨Nat.zero_le _, Nat.zero_le _⟩ (fun H locs hP hD hS => ?_)
  have e9 : (zI (!bt (fl ^^^ m1 j) j) : Int32) = zI (!bt (fl ^^^ m1 j) j) := by rfl
  have hP9 : va_P E.1 vwCl [(qX, .inr (3, [.ref qK, .ref qD, .ref qJ, .ref qR, .int cl])), (qR, .inl (E.2.1, 3, .inl rp)), (qK, .inr (1, [.ref qS, .int (nI nf), .int wd, .int (fl ^^^ m1 j)])), (qS, .inl (E.2.1, 14, .inl (fun w9 => nI (src w9)))), (qJ, .inr (2, [.ref qD, .ref qQ, .int (nI qn), .int sf, .int jI, .int jO])), (qQ, .inl (E.2.1, 16, .inl (fun w9 => nI (qu w9)))), (qD, .inr (0, [.ref qO, .ref qG, .ref qC, .ref qA, .ref qB, .int (nI n), .int (nI sp)])), (qO, .inl (E.2.1, 16, .inl (fun w9 => nI (ow w9)))), (qG, .inl (E.2.1, 16, .inl gf)), (qC, .inl (E.2.1, 16, .inl gc)), (qA, .inl (E.2.1, 16, .inl ak)), (qB, .inl (E.2.1, 3, .inl bk))] H := by exact hP
  have hD9 : va_D A [(qX, .inr (3, [.ref qK, .ref qD, .ref qJ, .ref qR, .int cl])), (qR, .inl (E.2.1, 3, .inl rp)), (qK, .inr (1, [.ref qS, .int (nI nf), .int wd, .int (fl ^^^ m1 j)])), (qS, .inl (E.2.1, 14, .inl (fun w9 => nI (src w9)))), (qJ, .inr (2, [.ref qD, .ref qQ, .int (nI qn), .int sf, .int jI, .int jO])), (qQ, .inl (E.2.1, 16, .inl (fun w9 => nI (qu w9)))), (qD, .inr (0, [.ref qO, .ref qG, .ref qC, .ref qA, .ref qB, .int (nI n), .int (nI sp)])), (qO, .inl (E.2.1, 16, .inl (fun w9 => nI (ow w9)))), (qG, .inl (E.2.1, 16, .inl gf)), (qC, .inl (E.2.1, 16, .inl gc)), (qA, .inl (E.2.1, 16, .inl ak)), (qB, .inl (E.2.1, 3, .inl bk))] := by exact hD
  exact W.zret (v := zI (!bt (fl ^^^ m1 j) j)) hx hb hr (zI_nar (!bt (fl ^^^ m1 j) j)) (fun t ht hW => ⟨⟨_, (), rfl, e9, by rw [ht]; exact hP9, hD9⟩, hS.F ht⟩) hS.2.2 dX3_toggleSource_13
set_option maxHeartbeats 4000000 in
set_option maxRecDepth 100000 in
theorem c_X3_factStands_ok (l : Launch) (E : gE) (qX : Nat) (qK : Nat) (qD : Nat) (qJ : Nat) (qR : Nat) (cl : Int32) (rp : Nat → Int32) (qS : Nat) (nf : Nat) (wd : Int32) (fl : Int32) (src : Nat → Nat) (qQ : Nat) (qn : Nat) (sf : Int32) (jI : Int32) (jO : Int32) (qu : Nat → Nat) (qO : Nat) (qG : Nat) (qC : Nat) (qA : Nat) (qB : Nat) (n : Nat) (sp : Nat) (ow : Nat → Nat) (gf : Nat → Int32) (gc : Nat → Int32) (ak : Nat → Int32) (bk : Nat → Int32) (j : Nat) (hj : j < nf) (hn : nf ≤ 14) (hs6 : ∀ i, i < nf → src i < 6) : Met l yX3_factStands wsX3_factStands ({ frames := 2, cells := 0, slots := 0, locals := 43 }) (va_Pc [.ref qX, .int (nI j)] (pR E [(qX, .inr (3, [.ref qK, .ref qD, .ref qJ, .ref qR, .int cl])), (qR, .inl (E.2.1, 3, .inl rp)), (qK, .inr (1, [.ref qS, .int (nI nf), .int wd, .int fl])), (qS, .inl (E.2.1, 14, .inl (fun w9 => nI (src w9)))), (qJ, .inr (2, [.ref qD, .ref qQ, .int (nI qn), .int sf, .int jI, .int jO])), (qQ, .inl (E.2.1, 16, .inl (fun w9 => nI (qu w9)))), (qD, .inr (0, [.ref qO, .ref qG, .ref qC, .ref qA, .ref qB, .int (nI n), .int (nI sp)])), (qO, .inl (E.2.1, 16, .inl (fun w9 => nI (ow w9)))), (qG, .inl (E.2.1, 16, .inl gf)), (qC, .inl (E.2.1, 16, .inl gc)), (qA, .inl (E.2.1, 16, .inl ak)), (qB, .inl (E.2.1, 3, .inl bk))])) (vp_Si (fun r => r = zI (bt (stC src wd fl nf) j))) 0 0 (fun _ => False) := by
  refine Met.ofW (cc := cX3_factStands) (maxL := 2) (ret := (some .boolean)) (by decide) rfl ?_
  intro p e s m args below meth c s₁ B hml hv
  obtain ⟨rfl, hP, hK⟩ := hv
  have hx := B.exec
  have hb := B.bytes
  have hr := B.returns
  have hts := atoms_spec (ws := wsX3_factStands) B.pre
  have hown : s.vm.findClass RX3 = some m.cls := findClass_of_methodNamed B.named
  have hlocks := B.notSynchronized
  have hP : va_P E.1 vwCl [(qX, .inr (3, [.ref qK, .ref qD, .ref qJ, .ref qR, .int cl])), (qR, .inl (E.2.1, 3, .inl rp)), (qK, .inr (1, [.ref qS, .int (nI nf), .int wd, .int fl])), (qS, .inl (E.2.1, 14, .inl (fun w9 => nI (src w9)))), (qJ, .inr (2, [.ref qD, .ref qQ, .int (nI qn), .int sf, .int jI, .int jO])), (qQ, .inl (E.2.1, 16, .inl (fun w9 => nI (qu w9)))), (qD, .inr (0, [.ref qO, .ref qG, .ref qC, .ref qA, .ref qB, .int (nI n), .int (nI sp)])), (qO, .inl (E.2.1, 16, .inl (fun w9 => nI (ow w9)))), (qG, .inl (E.2.1, 16, .inl gf)), (qC, .inl (E.2.1, 16, .inl gc)), (qA, .inl (E.2.1, 16, .inl ak)), (qB, .inl (E.2.1, 3, .inl bk))] s.heap := hP
  have hl := lv_entry ([.ref qX, .int (nI j)]) (n := 2) (Nat.le_of_ble_eq_true rfl)
  rw [lg_entry_eq]
  generalize (lg_sl ([.ref qX, .int (nI j)]) ++ List.replicate (2 - (lg_sl ([.ref qX, .int (nI j)])).length) Slot.unset).toArray = ls at hl ⊢
  have hl : lv_has ls 2 [(0, .ref qX), (1, .int (nI j))] := hl
  refine lv_aload_n hx hb dX3_factStands_0 rfl (lv_at hl 0 rfl) ?_
  refine lv_iload_n hx hb dX3_factStands_1 rfl (lv_at hl 1 rfl) ?_
  refine cl_Sv (Wc := [(qX, .inr (3, [.ref qK, .ref qD, .ref qJ, .ref qR, .int cl])), (qR, .inl (E.2.1, 3, .inl rp)), (qK, .inr (1, [.ref qS, .int (nI nf), .int wd, .int fl])), (qS, .inl (E.2.1, 14, .inl (fun w9 => nI (src w9)))), (qJ, .inr (2, [.ref qD, .ref qQ, .int (nI qn), .int sf, .int jI, .int jO])), (qQ, .inl (E.2.1, 16, .inl (fun w9 => nI (qu w9)))), (qD, .inr (0, [.ref qO, .ref qG, .ref qC, .ref qA, .ref qB, .int (nI n), .int (nI sp)])), (qO, .inl (E.2.1, 16, .inl (fun w9 => nI (ow w9)))), (qG, .inl (E.2.1, 16, .inl gf)), (qC, .inl (E.2.1, 16, .inl gc)), (qA, .inl (E.2.1, 16, .inl ak)), (qB, .inl (E.2.1, 3, .inl bk))]) (As := [.int (nI j)]) (rest := []) ⟨hx, hb, hml, hown, hts⟩ (c_X3_checkFact_ok l E qX qK qD qJ qR cl rp qS nf wd fl src qQ qn sf jI jO qu qO qG qC qA qB n sp ow gf gc ak bk j hj (by omega)) (cwV 1 hts gX3_factStands_X3_checkFact rfl rfl rfl (by decide +kernel) ⟨Nat.le_of_ble_eq_true rfl, Nat.le_of_ble_eq_true rfl⟩) hK (hP.sub [0, 1, 2, 3, 4, 5, 6, 7, 8, 9, 10, 11] rfl) (va_recv hK.1 hP (ci := 3) (q0 := 0) rfl rfl) rfl hl.1 rfl (Nat.le_of_ble_eq_true rfl) dX3_factStands_2 ⟨Nat.zero_le _, Nat.zero_le _⟩ ?_
  refine lv_aload_n hx hb dX3_factStands_5 rfl (lv_at hl 0 rfl) ?_
  refine va_get (D := E.1) (ci := 3) (v := .ref qK) (C := RX3) (T := TX3) (N := 5) hx hb hts (fun _ h => List.mem_cons_of_mem _ (List.mem_append_left _ (List.mem_append_left _ (List.mem_append_right _ h)))) hown hK.1 hP 0 rfl rfl 0 (by decide) (hts (.fieldLink RX3 10 "Quarrelboard" "book" "LQuarrelboard$FactBook;") (List.mem_of_getElem? (i := 1) rfl)) (fun _ h9 => h9) rfl dX3_factStands_6 ?_
  refine cl_S (Wc := [(qK, .inr (1, [.ref qS, .int (nI nf), .int wd, .int fl])), (qS, .inl (E.2.1, 14, .inl (fun w9 => nI (src w9))))]) (As := []) (rest := []) ⟨hx, hb, hml, hown, hts⟩ (c_X1_standing l E qK qS nf wd fl src  (by omega) (fun i hi => Nat.lt_trans (hs6 i hi) (by decide))) (cwV 0 hts gX3_factStands_X1_standing rfl rfl rfl (by decide +kernel) ⟨Nat.le_of_ble_eq_true rfl, Nat.le_of_ble_eq_true rfl⟩) hK (hP.sub [2, 3] rfl) (va_recv hK.1 hP (ci := 1) (q0 := 2) rfl rfl) rfl hl.1 rfl (Nat.le_of_ble_eq_true rfl) dX3_factStands_9 ⟨Nat.zero_le _, Nat.zero_le _⟩ ?_
  refine lv_iload_n hx hb dX3_factStands_12 rfl (lv_at hl 1 rfl) ?_
  refine cl_SS (Wc := []) (As := [.int (stC src wd fl nf), .int (nI j)]) (rest := []) ⟨hx, hb, hml, hown, hts⟩ (c_X3_contains l E  (stC src wd fl nf) j (by omega)) (va_cwS 2 hts gX3_factStands_X3_contains rfl rfl rfl (by decide +kernel) ⟨Nat.le_of_ble_eq_true rfl, Nat.le_of_ble_eq_true rfl⟩) hK (hP.sub [] rfl) rfl hl.1 rfl (Nat.le_of_ble_eq_true rfl) dX3_factStands_13 ⟨Nat.zero_le _, Nat.zero_le _⟩ ?_
  have e9 : (zI (bt (stC src wd fl nf) j) : Int32) = zI (bt (stC src wd fl nf) j) := by rfl
  exact W.zret (v := zI (bt (stC src wd fl nf) j)) hx hb hr (zI_nar (bt (stC src wd fl nf) j)) (fun t ht hW => ⟨_, rfl, e9, ht⟩) (fun q h => absurd h List.not_mem_nil) dX3_factStands_16
set_option maxHeartbeats 4000000 in
set_option maxRecDepth 100000 in
theorem c_X3_facts (l : Launch) (E : gE) (qX : Nat) (qK : Nat) (qD : Nat) (qJ : Nat) (qR : Nat) (cl : Int32) (rp : Nat → Int32) (qS : Nat) (nf : Nat) (wd : Int32) (fl : Int32) (src : Nat → Nat) (qQ : Nat) (qn : Nat) (sf : Int32) (jI : Int32) (jO : Int32) (qu : Nat → Nat) (qO : Nat) (qG : Nat) (qC : Nat) (qA : Nat) (qB : Nat) (n : Nat) (sp : Nat) (ow : Nat → Nat) (gf : Nat → Int32) (gc : Nat → Int32) (ak : Nat → Int32) (bk : Nat → Int32) : Met l yX3_facts wsX3_facts ({ frames := 1, cells := 0, slots := 0, locals := 20 }) (va_Pc [.ref qX] (pR E [(qX, .inr (3, [.ref qK, .ref qD, .ref qJ, .ref qR, .int cl])), (qR, .inl (E.2.1, 3, .inl rp)), (qK, .inr (1, [.ref qS, .int (nI nf), .int wd, .int fl])), (qS, .inl (E.2.1, 14, .inl (fun w9 => nI (src w9)))), (qJ, .inr (2, [.ref qD, .ref qQ, .int (nI qn), .int sf, .int jI, .int jO])), (qQ, .inl (E.2.1, 16, .inl (fun w9 => nI (qu w9)))), (qD, .inr (0, [.ref qO, .ref qG, .ref qC, .ref qA, .ref qB, .int (nI n), .int (nI sp)])), (qO, .inl (E.2.1, 16, .inl (fun w9 => nI (ow w9)))), (qG, .inl (E.2.1, 16, .inl gf)), (qC, .inl (E.2.1, 16, .inl gc)), (qA, .inl (E.2.1, 16, .inl ak)), (qB, .inl (E.2.1, 3, .inl bk))])) (vp_Si (fun r => r = nI nf)) 0 0 (fun _ => False) := by
  refine Met.ofW (cc := cX3_facts) (maxL := 1) (ret := (some .int)) (by decide) rfl ?_
  intro p e s m args below meth c s₁ B hml hv
  obtain ⟨rfl, hP, hK⟩ := hv
  have hx := B.exec
  have hb := B.bytes
  have hr := B.returns
  have hts := atoms_spec (ws := wsX3_facts) B.pre
  have hown : s.vm.findClass RX3 = some m.cls := findClass_of_methodNamed B.named
  have hlocks := B.notSynchronized
  have hP : va_P E.1 vwCl [(qX, .inr (3, [.ref qK, .ref qD, .ref qJ, .ref qR, .int cl])), (qR, .inl (E.2.1, 3, .inl rp)), (qK, .inr (1, [.ref qS, .int (nI nf), .int wd, .int fl])), (qS, .inl (E.2.1, 14, .inl (fun w9 => nI (src w9)))), (qJ, .inr (2, [.ref qD, .ref qQ, .int (nI qn), .int sf, .int jI, .int jO])), (qQ, .inl (E.2.1, 16, .inl (fun w9 => nI (qu w9)))), (qD, .inr (0, [.ref qO, .ref qG, .ref qC, .ref qA, .ref qB, .int (nI n), .int (nI sp)])), (qO, .inl (E.2.1, 16, .inl (fun w9 => nI (ow w9)))), (qG, .inl (E.2.1, 16, .inl gf)), (qC, .inl (E.2.1, 16, .inl gc)), (qA, .inl (E.2.1, 16, .inl ak)), (qB, .inl (E.2.1, 3, .inl bk))] s.heap := hP
  have hl := lv_entry ([.ref qX]) (n := 1) (Nat.le_of_ble_eq_true rfl)
  rw [lg_entry_eq]
  generalize (lg_sl ([.ref qX]) ++ List.replicate (1 - (lg_sl ([.ref qX])).length) Slot.unset).toArray = ls at hl ⊢
  have hl : lv_has ls 1 [(0, .ref qX)] := hl
  refine lv_aload_n hx hb dX3_facts_0 rfl (lv_at hl 0 rfl) ?_
  refine va_get (D := E.1) (ci := 3) (v := .ref qK) (C := RX3) (T := TX3) (N := 5) hx hb hts (fun _ h => List.mem_cons_of_mem _ (List.mem_append_left _ (List.mem_append_right _ h))) hown hK.1 hP 0 rfl rfl 0 (by decide) (hts (.fieldLink RX3 10 "Quarrelboard" "book" "LQuarrelboard$FactBook;") (List.mem_of_getElem? (i := 1) rfl)) (fun _ h9 => h9) rfl dX3_facts_1 ?_
  refine cl_S (Wc := [(qK, .inr (1, [.ref qS, .int (nI nf), .int wd, .int fl])), (qS, .inl (E.2.1, 14, .inl (fun w9 => nI (src w9))))]) (As := []) (rest := []) ⟨hx, hb, hml, hown, hts⟩ (c_X1_size l E qK qS nf wd fl src  ) (cwV 0 hts gX3_facts_X1_size rfl rfl rfl (by decide +kernel) ⟨Nat.le_of_ble_eq_true rfl, Nat.le_of_ble_eq_true rfl⟩) hK (hP.sub [2, 3] rfl) (va_recv hK.1 hP (ci := 1) (q0 := 2) rfl rfl) rfl hl.1 rfl (Nat.le_of_ble_eq_true rfl) dX3_facts_4 ⟨Nat.zero_le _, Nat.zero_le _⟩ ?_
  have e9 : (nI nf : Int32) = nI nf := by rfl
  exact W.iret (v := nI nf) hx hb hr (fun t ht hW => ⟨_, rfl, e9, ht⟩) (fun q h => absurd h List.not_mem_nil) dX3_facts_7
set_option maxHeartbeats 4000000 in
set_option maxRecDepth 100000 in
theorem c_X3_claims (l : Launch) (E : gE) (qX : Nat) (qK : Nat) (qD : Nat) (qJ : Nat) (qR : Nat) (cl : Int32) (rp : Nat → Int32) (qS : Nat) (nf : Nat) (wd : Int32) (fl : Int32) (src : Nat → Nat) (qQ : Nat) (qn : Nat) (sf : Int32) (jI : Int32) (jO : Int32) (qu : Nat → Nat) (qO : Nat) (qG : Nat) (qC : Nat) (qA : Nat) (qB : Nat) (n : Nat) (sp : Nat) (ow : Nat → Nat) (gf : Nat → Int32) (gc : Nat → Int32) (ak : Nat → Int32) (bk : Nat → Int32) : Met l yX3_claims wsX3_claims ({ frames := 1, cells := 0, slots := 0, locals := 20 }) (va_Pc [.ref qX] (pR E [(qX, .inr (3, [.ref qK, .ref qD, .ref qJ, .ref qR, .int cl])), (qR, .inl (E.2.1, 3, .inl rp)), (qK, .inr (1, [.ref qS, .int (nI nf), .int wd, .int fl])), (qS, .inl (E.2.1, 14, .inl (fun w9 => nI (src w9)))), (qJ, .inr (2, [.ref qD, .ref qQ, .int (nI qn), .int sf, .int jI, .int jO])), (qQ, .inl (E.2.1, 16, .inl (fun w9 => nI (qu w9)))), (qD, .inr (0, [.ref qO, .ref qG, .ref qC, .ref qA, .ref qB, .int (nI n), .int (nI sp)])), (qO, .inl (E.2.1, 16, .inl (fun w9 => nI (ow w9)))), (qG, .inl (E.2.1, 16, .inl gf)), (qC, .inl (E.2.1, 16, .inl gc)), (qA, .inl (E.2.1, 16, .inl ak)), (qB, .inl (E.2.1, 3, .inl bk))])) (vp_Si (fun r => r = nI n)) 0 0 (fun _ => False) := by
  refine Met.ofW (cc := cX3_claims) (maxL := 1) (ret := (some .int)) (by decide) rfl ?_
  intro p e s m args below meth c s₁ B hml hv
  obtain ⟨rfl, hP, hK⟩ := hv
  have hx := B.exec
  have hb := B.bytes
  have hr := B.returns
  have hts := atoms_spec (ws := wsX3_claims) B.pre
  have hown : s.vm.findClass RX3 = some m.cls := findClass_of_methodNamed B.named
  have hlocks := B.notSynchronized
  have hP : va_P E.1 vwCl [(qX, .inr (3, [.ref qK, .ref qD, .ref qJ, .ref qR, .int cl])), (qR, .inl (E.2.1, 3, .inl rp)), (qK, .inr (1, [.ref qS, .int (nI nf), .int wd, .int fl])), (qS, .inl (E.2.1, 14, .inl (fun w9 => nI (src w9)))), (qJ, .inr (2, [.ref qD, .ref qQ, .int (nI qn), .int sf, .int jI, .int jO])), (qQ, .inl (E.2.1, 16, .inl (fun w9 => nI (qu w9)))), (qD, .inr (0, [.ref qO, .ref qG, .ref qC, .ref qA, .ref qB, .int (nI n), .int (nI sp)])), (qO, .inl (E.2.1, 16, .inl (fun w9 => nI (ow w9)))), (qG, .inl (E.2.1, 16, .inl gf)), (qC, .inl (E.2.1, 16, .inl gc)), (qA, .inl (E.2.1, 16, .inl ak)), (qB, .inl (E.2.1, 3, .inl bk))] s.heap := hP
  have hl := lv_entry ([.ref qX]) (n := 1) (Nat.le_of_ble_eq_true rfl)
  rw [lg_entry_eq]
  generalize (lg_sl ([.ref qX]) ++ List.replicate (1 - (lg_sl ([.ref qX])).length) Slot.unset).toArray = ls at hl ⊢
  have hl : lv_has ls 1 [(0, .ref qX)] := hl
  refine lv_aload_n hx hb dX3_claims_0 rfl (lv_at hl 0 rfl) ?_
  refine va_get (D := E.1) (ci := 3) (v := .ref qD) (C := RX3) (T := TX3) (N := 5) hx hb hts (fun _ h => List.mem_cons_of_mem _ (List.mem_append_left _ (List.mem_append_right _ h))) hown hK.1 hP 0 rfl rfl 1 (by decide) (hts (.fieldLink RX3 19 "Quarrelboard" "debate" "LQuarrelboard$Debate;") (List.mem_of_getElem? (i := 1) rfl)) (fun _ h9 => h9) rfl dX3_claims_1 ?_
  refine cl_S (Wc := [(qD, .inr (0, [.ref qO, .ref qG, .ref qC, .ref qA, .ref qB, .int (nI n), .int (nI sp)])), (qO, .inl (E.2.1, 16, .inl (fun w9 => nI (ow w9)))), (qG, .inl (E.2.1, 16, .inl gf)), (qC, .inl (E.2.1, 16, .inl gc)), (qA, .inl (E.2.1, 16, .inl ak)), (qB, .inl (E.2.1, 3, .inl bk))]) (As := []) (rest := []) ⟨hx, hb, hml, hown, hts⟩ (c_X0_size l E qD qO qG qC qA qB n sp ow gf gc ak bk  ) (cwV 0 hts gX3_claims_X0_size rfl rfl rfl (by decide +kernel) ⟨Nat.le_of_ble_eq_true rfl, Nat.le_of_ble_eq_true rfl⟩) hK (hP.sub [6, 7, 8, 9, 10, 11] rfl) (va_recv hK.1 hP (ci := 0) (q0 := 6) rfl rfl) rfl hl.1 rfl (Nat.le_of_ble_eq_true rfl) dX3_claims_4 ⟨Nat.zero_le _, Nat.zero_le _⟩ ?_
  have e9 : (nI n : Int32) = nI n := by rfl
  exact W.iret (v := nI n) hx hb hr (fun t ht hW => ⟨_, rfl, e9, ht⟩) (fun q h => absurd h List.not_mem_nil) dX3_claims_7
set_option maxHeartbeats 4000000 in
set_option maxRecDepth 100000 in
theorem c_X3_turn (l : Launch) (E : gE) (qX : Nat) (qK : Nat) (qD : Nat) (qJ : Nat) (qR : Nat) (cl : Int32) (rp : Nat → Int32) (qS : Nat) (nf : Nat) (wd : Int32) (fl : Int32) (src : Nat → Nat) (qQ : Nat) (qn : Nat) (sf : Int32) (jI : Int32) (jO : Int32) (qu : Nat → Nat) (qO : Nat) (qG : Nat) (qC : Nat) (qA : Nat) (qB : Nat) (n : Nat) (sp : Nat) (ow : Nat → Nat) (gf : Nat → Int32) (gc : Nat → Int32) (ak : Nat → Int32) (bk : Nat → Int32) : Met l yX3_turn wsX3_turn ({ frames := 1, cells := 0, slots := 0, locals := 20 }) (va_Pc [.ref qX] (pR E [(qX, .inr (3, [.ref qK, .ref qD, .ref qJ, .ref qR, .int cl])), (qR, .inl (E.2.1, 3, .inl rp)), (qK, .inr (1, [.ref qS, .int (nI nf), .int wd, .int fl])), (qS, .inl (E.2.1, 14, .inl (fun w9 => nI (src w9)))), (qJ, .inr (2, [.ref qD, .ref qQ, .int (nI qn), .int sf, .int jI, .int jO])), (qQ, .inl (E.2.1, 16, .inl (fun w9 => nI (qu w9)))), (qD, .inr (0, [.ref qO, .ref qG, .ref qC, .ref qA, .ref qB, .int (nI n), .int (nI sp)])), (qO, .inl (E.2.1, 16, .inl (fun w9 => nI (ow w9)))), (qG, .inl (E.2.1, 16, .inl gf)), (qC, .inl (E.2.1, 16, .inl gc)), (qA, .inl (E.2.1, 16, .inl ak)), (qB, .inl (E.2.1, 3, .inl bk))])) (vp_Si (fun r => r = nI sp)) 0 0 (fun _ => False) := by
  refine Met.ofW (cc := cX3_turn) (maxL := 1) (ret := (some .int)) (by decide) rfl ?_
  intro p e s m args below meth c s₁ B hml hv
  obtain ⟨rfl, hP, hK⟩ := hv
  have hx := B.exec
  have hb := B.bytes
  have hr := B.returns
  have hts := atoms_spec (ws := wsX3_turn) B.pre
  have hown : s.vm.findClass RX3 = some m.cls := findClass_of_methodNamed B.named
  have hlocks := B.notSynchronized
  have hP : va_P E.1 vwCl [(qX, .inr (3, [.ref qK, .ref qD, .ref qJ, .ref qR, .int cl])), (qR, .inl (E.2.1, 3, .inl rp)), (qK, .inr (1, [.ref qS, .int (nI nf), .int wd, .int fl])), (qS, .inl (E.2.1, 14, .inl (fun w9 => nI (src w9)))), (qJ, .inr (2, [.ref qD, .ref qQ, .int (nI qn), .int sf, .int jI, .int jO])), (qQ, .inl (E.2.1, 16, .inl (fun w9 => nI (qu w9)))), (qD, .inr (0, [.ref qO, .ref qG, .ref qC, .ref qA, .ref qB, .int (nI n), .int (nI sp)])), (qO, .inl (E.2.1, 16, .inl (fun w9 => nI (ow w9)))), (qG, .inl (E.2.1, 16, .inl gf)), (qC, .inl (E.2.1, 16, .inl gc)), (qA, .inl (E.2.1, 16, .inl ak)), (qB, .inl (E.2.1, 3, .inl bk))] s.heap := hP
  have hl := lv_entry ([.ref qX]) (n := 1) (Nat.le_of_ble_eq_true rfl)
  rw [lg_entry_eq]
  generalize (lg_sl ([.ref qX]) ++ List.replicate (1 - (lg_sl ([.ref qX])).length) Slot.unset).toArray = ls at hl ⊢
  have hl : lv_has ls 1 [(0, .ref qX)] := hl
  refine lv_aload_n hx hb dX3_turn_0 rfl (lv_at hl 0 rfl) ?_
  refine va_get (D := E.1) (ci := 3) (v := .ref qD) (C := RX3) (T := TX3) (N := 5) hx hb hts (fun _ h => List.mem_cons_of_mem _ (List.mem_append_left _ (List.mem_append_right _ h))) hown hK.1 hP 0 rfl rfl 1 (by decide) (hts (.fieldLink RX3 19 "Quarrelboard" "debate" "LQuarrelboard$Debate;") (List.mem_of_getElem? (i := 1) rfl)) (fun _ h9 => h9) rfl dX3_turn_1 ?_
  refine cl_S (Wc := [(qD, .inr (0, [.ref qO, .ref qG, .ref qC, .ref qA, .ref qB, .int (nI n), .int (nI sp)])), (qO, .inl (E.2.1, 16, .inl (fun w9 => nI (ow w9)))), (qG, .inl (E.2.1, 16, .inl gf)), (qC, .inl (E.2.1, 16, .inl gc)), (qA, .inl (E.2.1, 16, .inl ak)), (qB, .inl (E.2.1, 3, .inl bk))]) (As := []) (rest := []) ⟨hx, hb, hml, hown, hts⟩ (c_X0_speaker l E qD qO qG qC qA qB n sp ow gf gc ak bk  ) (cwV 0 hts gX3_turn_X0_speaker rfl rfl rfl (by decide +kernel) ⟨Nat.le_of_ble_eq_true rfl, Nat.le_of_ble_eq_true rfl⟩) hK (hP.sub [6, 7, 8, 9, 10, 11] rfl) (va_recv hK.1 hP (ci := 0) (q0 := 6) rfl rfl) rfl hl.1 rfl (Nat.le_of_ble_eq_true rfl) dX3_turn_4 ⟨Nat.zero_le _, Nat.zero_le _⟩ ?_
  have e9 : (nI sp : Int32) = nI sp := by rfl
  exact W.iret (v := nI sp) hx hb hr (fun t ht hW => ⟨_, rfl, e9, ht⟩) (fun q h => absurd h List.not_mem_nil) dX3_turn_7
set_option maxHeartbeats 4000000 in
set_option maxRecDepth 100000 in
theorem c_X3_bank_ok (l : Launch) (E : gE) (qX : Nat) (qK : Nat) (qD : Nat) (qJ : Nat) (qR : Nat) (cl : Int32) (rp : Nat → Int32) (qS : Nat) (nf : Nat) (wd : Int32) (fl : Int32) (src : Nat → Nat) (qQ : Nat) (qn : Nat) (sf : Int32) (jI : Int32) (jO : Int32) (qu : Nat → Nat) (qO : Nat) (qG : Nat) (qC : Nat) (qA : Nat) (qB : Nat) (n : Nat) (sp : Nat) (ow : Nat → Nat) (gf : Nat → Int32) (gc : Nat → Int32) (ak : Nat → Int32) (bk : Nat → Int32) (j : Nat) (hj : j < 3) : Met l yX3_bank wsX3_bank ({ frames := 1, cells := 0, slots := 0, locals := 21 }) (va_Pc [.ref qX, .int (nI j)] (pR E [(qX, .inr (3, [.ref qK, .ref qD, .ref qJ, .ref qR, .int cl])), (qR, .inl (E.2.1, 3, .inl rp)), (qK, .inr (1, [.ref qS, .int (nI nf), .int wd, .int fl])), (qS, .inl (E.2.1, 14, .inl (fun w9 => nI (src w9)))), (qJ, .inr (2, [.ref qD, .ref qQ, .int (nI qn), .int sf, .int jI, .int jO])), (qQ, .inl (E.2.1, 16, .inl (fun w9 => nI (qu w9)))), (qD, .inr (0, [.ref qO, .ref qG, .ref qC, .ref qA, .ref qB, .int (nI n), .int (nI sp)])), (qO, .inl (E.2.1, 16, .inl (fun w9 => nI (ow w9)))), (qG, .inl (E.2.1, 16, .inl gf)), (qC, .inl (E.2.1, 16, .inl gc)), (qA, .inl (E.2.1, 16, .inl ak)), (qB, .inl (E.2.1, 3, .inl bk))])) (vp_Si (fun r => r = bk j)) 0 0 (fun _ => False) := by
  refine Met.ofW (cc := cX3_bank) (maxL := 2) (ret := (some .int)) (by decide) rfl ?_
  intro p e s m args below meth c s₁ B hml hv
  obtain ⟨rfl, hP, hK⟩ := hv
  have hx := B.exec
  have hb := B.bytes
  have hr := B.returns
  have hts := atoms_spec (ws := wsX3_bank) B.pre
  have hown : s.vm.findClass RX3 = some m.cls := findClass_of_methodNamed B.named
  have hlocks := B.notSynchronized
  have hP : va_P E.1 vwCl [(qX, .inr (3, [.ref qK, .ref qD, .ref qJ, .ref qR, .int cl])), (qR, .inl (E.2.1, 3, .inl rp)), (qK, .inr (1, [.ref qS, .int (nI nf), .int wd, .int fl])), (qS, .inl (E.2.1, 14, .inl (fun w9 => nI (src w9)))), (qJ, .inr (2, [.ref qD, .ref qQ, .int (nI qn), .int sf, .int jI, .int jO])), (qQ, .inl (E.2.1, 16, .inl (fun w9 => nI (qu w9)))), (qD, .inr (0, [.ref qO, .ref qG, .ref qC, .ref qA, .ref qB, .int (nI n), .int (nI sp)])), (qO, .inl (E.2.1, 16, .inl (fun w9 => nI (ow w9)))), (qG, .inl (E.2.1, 16, .inl gf)), (qC, .inl (E.2.1, 16, .inl gc)), (qA, .inl (E.2.1, 16, .inl ak)), (qB, .inl (E.2.1, 3, .inl bk))] s.heap := hP
  have hl := lv_entry ([.ref qX, .int (nI j)]) (n := 2) (Nat.le_of_ble_eq_true rfl)
  rw [lg_entry_eq]
  generalize (lg_sl ([.ref qX, .int (nI j)]) ++ List.replicate (2 - (lg_sl ([.ref qX, .int (nI j)])).length) Slot.unset).toArray = ls at hl ⊢
  have hl : lv_has ls 2 [(0, .ref qX), (1, .int (nI j))] := hl
  refine lv_aload_n hx hb dX3_bank_0 rfl (lv_at hl 0 rfl) ?_
  refine lv_iload_n hx hb dX3_bank_1 rfl (lv_at hl 1 rfl) ?_
  refine cl_Sv (Wc := [(qX, .inr (3, [.ref qK, .ref qD, .ref qJ, .ref qR, .int cl])), (qR, .inl (E.2.1, 3, .inl rp)), (qK, .inr (1, [.ref qS, .int (nI nf), .int wd, .int fl])), (qS, .inl (E.2.1, 14, .inl (fun w9 => nI (src w9)))), (qJ, .inr (2, [.ref qD, .ref qQ, .int (nI qn), .int sf, .int jI, .int jO])), (qQ, .inl (E.2.1, 16, .inl (fun w9 => nI (qu w9)))), (qD, .inr (0, [.ref qO, .ref qG, .ref qC, .ref qA, .ref qB, .int (nI n), .int (nI sp)])), (qO, .inl (E.2.1, 16, .inl (fun w9 => nI (ow w9)))), (qG, .inl (E.2.1, 16, .inl gf)), (qC, .inl (E.2.1, 16, .inl gc)), (qA, .inl (E.2.1, 16, .inl ak)), (qB, .inl (E.2.1, 3, .inl bk))]) (As := [.int (nI j)]) (rest := []) ⟨hx, hb, hml, hown, hts⟩ (c_X3_checkPlayer_ok l E qX qK qD qJ qR cl rp qS nf wd fl src qQ qn sf jI jO qu qO qG qC qA qB n sp ow gf gc ak bk j hj) (cwV 1 hts gX3_bank_X3_checkPlayer rfl rfl rfl (by decide +kernel) ⟨Nat.le_of_ble_eq_true rfl, Nat.le_of_ble_eq_true rfl⟩) hK (hP.sub [0, 1, 2, 3, 4, 5, 6, 7, 8, 9, 10, 11] rfl) (va_recv hK.1 hP (ci := 3) (q0 := 0) rfl rfl) rfl hl.1 rfl (Nat.le_of_ble_eq_true rfl) dX3_bank_2 ⟨Nat.zero_le _, Nat.zero_le _⟩ ?_
  refine lv_aload_n hx hb dX3_bank_5 rfl (lv_at hl 0 rfl) ?_
  refine va_get (D := E.1) (ci := 3) (v := .ref qD) (C := RX3) (T := TX3) (N := 5) hx hb hts (fun _ h => List.mem_cons_of_mem _ (List.mem_append_left _ (List.mem_append_left _ (List.mem_append_right _ h)))) hown hK.1 hP 0 rfl rfl 1 (by decide) (hts (.fieldLink RX3 19 "Quarrelboard" "debate" "LQuarrelboard$Debate;") (List.mem_of_getElem? (i := 1) rfl)) (fun _ h9 => h9) rfl dX3_bank_6 ?_
  refine lv_iload_n hx hb dX3_bank_9 rfl (lv_at hl 1 rfl) ?_
  refine cl_S (Wc := [(qD, .inr (0, [.ref qO, .ref qG, .ref qC, .ref qA, .ref qB, .int (nI n), .int (nI sp)])), (qO, .inl (E.2.1, 16, .inl (fun w9 => nI (ow w9)))), (qG, .inl (E.2.1, 16, .inl gf)), (qC, .inl (E.2.1, 16, .inl gc)), (qA, .inl (E.2.1, 16, .inl ak)), (qB, .inl (E.2.1, 3, .inl bk))]) (As := [.int (nI j)]) (rest := []) ⟨hx, hb, hml, hown, hts⟩ (c_X0_secondsLeft l E qD qO qG qC qA qB n sp ow gf gc ak bk j (by omega)) (cwV 1 hts gX3_bank_X0_secondsLeft rfl rfl rfl (by decide +kernel) ⟨Nat.le_of_ble_eq_true rfl, Nat.le_of_ble_eq_true rfl⟩) hK (hP.sub [6, 7, 8, 9, 10, 11] rfl) (va_recv hK.1 hP (ci := 0) (q0 := 6) rfl rfl) rfl hl.1 rfl (Nat.le_of_ble_eq_true rfl) dX3_bank_10 ⟨Nat.zero_le _, Nat.zero_le _⟩ ?_
  have e9 : (bk j : Int32) = bk j := by rfl
  exact W.iret (v := bk j) hx hb hr (fun t ht hW => ⟨_, rfl, e9, ht⟩) (fun q h => absurd h List.not_mem_nil) dX3_bank_13
set_option maxHeartbeats 4000000 in
set_option maxRecDepth 100000 in
theorem c_X3_reputation_ok (l : Launch) (E : gE) (qX : Nat) (qK : Nat) (qD : Nat) (qJ : Nat) (qR : Nat) (cl : Int32) (rp : Nat → Int32) (qS : Nat) (nf : Nat) (wd : Int32) (fl : Int32) (src : Nat → Nat) (qQ : Nat) (qn : Nat) (sf : Int32) (jI : Int32) (jO : Int32) (qu : Nat → Nat) (qO : Nat) (qG : Nat) (qC : Nat) (qA : Nat) (qB : Nat) (n : Nat) (sp : Nat) (ow : Nat → Nat) (gf : Nat → Int32) (gc : Nat → Int32) (ak : Nat → Int32) (bk : Nat → Int32) (j : Nat) (hj : j < 3) : Met l yX3_reputation wsX3_reputation ({ frames := 1, cells := 0, slots := 0, locals := 21 }) (va_Pc [.ref qX, .int (nI j)] (pR E [(qX, .inr (3, [.ref qK, .ref qD, .ref qJ, .ref qR, .int cl])), (qR, .inl (E.2.1, 3, .inl rp)), (qK, .inr (1, [.ref qS, .int (nI nf), .int wd, .int fl])), (qS, .inl (E.2.1, 14, .inl (fun w9 => nI (src w9)))), (qJ, .inr (2, [.ref qD, .ref qQ, .int (nI qn), .int sf, .int jI, .int jO])), (qQ, .inl (E.2.1, 16, .inl (fun w9 => nI (qu w9)))), (qD, .inr (0, [.ref qO, .ref qG, .ref qC, .ref qA, .ref qB, .int (nI n), .int (nI sp)])), (qO, .inl (E.2.1, 16, .inl (fun w9 => nI (ow w9)))), (qG, .inl (E.2.1, 16, .inl gf)), (qC, .inl (E.2.1, 16, .inl gc)), (qA, .inl (E.2.1, 16, .inl ak)), (qB, .inl (E.2.1, 3, .inl bk))])) (vp_Si (fun r => r = rp j)) 0 0 (fun _ => False) := by
  refine Met.ofW (cc := cX3_reputation) (maxL := 2) (ret := (some .int)) (by decide) rfl ?_
  intro p e s m args below meth c s₁ B hml hv
  obtain ⟨rfl, hP, hK⟩ := hv
  have hx := B.exec
  have hb := B.bytes
  have hr := B.returns
  have hts := atoms_spec (ws := wsX3_reputation) B.pre
  have hown : s.vm.findClass RX3 = some m.cls := findClass_of_methodNamed B.named
  have hlocks := B.notSynchronized
  have hP : va_P E.1 vwCl [(qX, .inr (3, [.ref qK, .ref qD, .ref qJ, .ref qR, .int cl])), (qR, .inl (E.2.1, 3, .inl rp)), (qK, .inr (1, [.ref qS, .int (nI nf), .int wd, .int fl])), (qS, .inl (E.2.1, 14, .inl (fun w9 => nI (src w9)))), (qJ, .inr (2, [.ref qD, .ref qQ, .int (nI qn), .int sf, .int jI, .int jO])), (qQ, .inl (E.2.1, 16, .inl (fun w9 => nI (qu w9)))), (qD, .inr (0, [.ref qO, .ref qG, .ref qC, .ref qA, .ref qB, .int (nI n), .int (nI sp)])), (qO, .inl (E.2.1, 16, .inl (fun w9 => nI (ow w9)))), (qG, .inl (E.2.1, 16, .inl gf)), (qC, .inl (E.2.1, 16, .inl gc)), (qA, .inl (E.2.1, 16, .inl ak)), (qB, .inl (E.2.1, 3, .inl bk))] s.heap := hP
  have hl := lv_entry ([.ref qX, .int (nI j)]) (n := 2) (Nat.le_of_ble_eq_true rfl)
  rw [lg_entry_eq]
  generalize (lg_sl ([.ref qX, .int (nI j)]) ++ List.replicate (2 - (lg_sl ([.ref qX, .int (nI j)])).length) Slot.unset).toArray = ls at hl ⊢
  have hl : lv_has ls 2 [(0, .ref qX), (1, .int (nI j))] := hl
  refine lv_aload_n hx hb dX3_reputation_0 rfl (lv_at hl 0 rfl) ?_
  refine lv_iload_n hx hb dX3_reputation_1 rfl (lv_at hl 1 rfl) ?_
  refine cl_Sv (Wc := [(qX, .inr (3, [.ref qK, .ref qD, .ref qJ, .ref qR, .int cl])), (qR, .inl (E.2.1, 3, .inl rp)), (qK, .inr (1, [.ref qS, .int (nI nf), .int wd, .int fl])), (qS, .inl (E.2.1, 14, .inl (fun w9 => nI (src w9)))), (qJ, .inr (2, [.ref qD, .ref qQ, .int (nI qn), .int sf, .int jI, .int jO])), (qQ, .inl (E.2.1, 16, .inl (fun w9 => nI (qu w9)))), (qD, .inr (0, [.ref qO, .ref qG, .ref qC, .ref qA, .ref qB, .int (nI n), .int (nI sp)])), (qO, .inl (E.2.1, 16, .inl (fun w9 => nI (ow w9)))), (qG, .inl (E.2.1, 16, .inl gf)), (qC, .inl (E.2.1, 16, .inl gc)), (qA, .inl (E.2.1, 16, .inl ak)), (qB, .inl (E.2.1, 3, .inl bk))]) (As := [.int (nI j)]) (rest := []) ⟨hx, hb, hml, hown, hts⟩ (c_X3_checkPlayer_ok l E qX qK qD qJ qR cl rp qS nf wd fl src qQ qn sf jI jO qu qO qG qC qA qB n sp ow gf gc ak bk j hj) (cwV 1 hts gX3_reputation_X3_checkPlayer rfl rfl rfl (by decide +kernel) ⟨Nat.le_of_ble_eq_true rfl, Nat.le_of_ble_eq_true rfl⟩) hK (hP.sub [0, 1, 2, 3, 4, 5, 6, 7, 8, 9, 10, 11] rfl) (va_recv hK.1 hP (ci := 3) (q0 := 0) rfl rfl) rfl hl.1 rfl (Nat.le_of_ble_eq_true rfl) dX3_reputation_2 ⟨Nat.zero_le _, Nat.zero_le _⟩ ?_
  refine lv_aload_n hx hb dX3_reputation_5 rfl (lv_at hl 0 rfl) ?_
  refine va_get (D := E.1) (ci := 3) (v := .ref qR) (C := RX3) (T := TX3) (N := 5) hx hb hts (fun _ h => List.mem_cons_of_mem _ (List.mem_append_left _ (List.mem_append_right _ h))) hown hK.1 hP 0 rfl rfl 3 (by decide) (hts (.fieldLink RX3 32 "Quarrelboard" "reputations" "[I") (List.mem_of_getElem? (i := 1) rfl)) (fun _ h9 => h9) rfl dX3_reputation_6 ?_
  refine lv_iload_n hx hb dX3_reputation_9 rfl (lv_at hl 1 rfl) ?_
  refine k_iald hx hb hK hP 1 (f := rp) j rfl (by omega) (by decide) dX3_reputation_10 ?_
  have e9 : (rp j : Int32) = rp j := by rfl
  exact W.iret (v := rp j) hx hb hr (fun t ht hW => ⟨_, rfl, e9, ht⟩) (fun q h => absurd h List.not_mem_nil) dX3_reputation_11
