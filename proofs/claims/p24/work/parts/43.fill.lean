set_option maxHeartbeats 4000000 in
set_option maxRecDepth 100000 in
theorem c_J7_fill_53178 (l : Launch) (E : gE) (qB : Nat) (bk : Nat → Int32) (sz : Nat) (v : Int32) : Met l yJ7_fill_53178 wsJ7_fill_53178 ({ frames := 0, cells := 0, slots := 0, locals := 0 }) (va_Pc [.ref qB, .int v] (pW E [(qB, .inl (E.2.1, 3, .inl bk))] sz)) (va_Qv (fun (_ : Unit) => True) (fun _ => eW E (va_A [(qB, .inl (E.2.1, 3, .inl bk))] sz) [(qB, .inl (E.2.1, 3, .inl (fz v bk 3)))]) (va_A [(qB, .inl (E.2.1, 3, .inl bk))] sz)) 0 0 (va_A [(qB, .inl (E.2.1, 3, .inl bk))] sz) := by
  refine Met.ofW (cc := cJ7_fill_53178) (maxL := 4) (ret := none) (by decide) rfl ?_
  intro p e s m args below meth c s₁ B hml hv
  obtain ⟨rfl, hsz, hP, hK, hD0⟩ := hv
  have hx := B.exec
  have hb := B.bytes
  have hr := B.returns
  have hts := atoms_spec (ws := wsJ7_fill_53178) B.pre
  have hown : s.vm.findClass RJ7 = some m.cls := findClass_of_methodNamed B.named
  have hlocks := B.notSynchronized
  subst hsz
  have hD := hD0.self (sz := s.heap.size)
  generalize hAe : va_A [(qB, .inl (E.2.1, 3, .inl bk))] s.heap.size = A at hD ⊢
  have hA : ∀ q : Nat, s.heap.size ≤ q → A q := fun q h => by rw [← hAe]; exact Or.inr h
  have hS : va_S A s.heap s.heap [] := va_S.rf
  have hl := lv_entry ([.ref qB, .int v]) (n := 4) (Nat.le_of_ble_eq_true rfl)
  rw [lg_entry_eq]
  generalize (lg_sl ([.ref qB, .int v]) ++ List.replicate (4 - (lg_sl ([.ref qB, .int v])).length) Slot.unset).toArray = ls at hl ⊢
  have hl : lv_has ls 4 [(0, .ref qB), (1, .int v)] := hl
  refine lv_iconst (v := 0) hx hb dJ7_fill_53178_0 (by decide) ?_
  refine lv_istore_n (lv' := [(2, .int 0), (0, .ref qB), (1, .int v)]) hx hb dJ7_fill_53178_1 rfl hl (by decide) rfl (fun ls hl => ?_)
  refine lv_aload_n hx hb dJ7_fill_53178_2 rfl (lv_at hl 1 rfl) ?_
  refine va_alen (v := 3) hx hb hK.1 hP 0 0 rfl rfl rfl dJ7_fill_53178_3 ?_
  refine lv_istore_n (lv' := [(3, .int 3), (2, .int 0), (0, .ref qB), (1, .int v)]) hx hb dJ7_fill_53178_4 rfl hl (by decide) rfl (fun ls hl => ?_)
  have loop5 : ∀ (z5 k : Nat), k ≤ 3 → 3 + 1 ≤ k + z5 → ∀ (H : Heap) (locs : List Loc), va_P E.1 vwCl [(qB, .inl (E.2.1, 3, .inl (fz v bk k)))] H → va_D A [(qB, .inl (E.2.1, 3, .inl (fz v bk k)))] → va_S A s.heap H locs → ∀ (ls : Array Slot), lv_has ls 4 [(0, .ref qB), (1, .int v), (2, .int (nI k)), (3, .int 3)] → W p l e (headSpec wsJ7_fill_53178 ({ frames := 0, cells := 0, slots := 0, locals := 0 })).room s m ([.ref qB, .int v] : List Value).toArray below meth c H locs 0 0 (MQ below (va_Qv (fun (_ : Unit) => True) (fun _ => eW E A [(qB, .inl (E.2.1, 3, .inl (fz v bk 3)))]) A) ([.ref qB, .int v] : List Value).toArray s 0 0 A) (F0 m 5 ls []) := by
    intro z5
    induction z5 with
    | zero =>
      intro k hk5 hz5
      exact absurd hz5 (by omega)
    | succ z5 ih5 =>
      intro k hk5 hz5  H locs hP hD hS ls hl
      refine lv_iload_n hx hb dJ7_fill_53178_5 rfl (lv_at hl 2 rfl) ?_
      refine lv_iload_n hx hb dJ7_fill_53178_6 rfl (lv_at hl 3 rfl) ?_
      refine lv_icmp_ge (tgt := 20) hx hb dJ7_fill_53178_7 (by decide) (fun c_7 => ?_) (fun c_7 => ?_)
      · have c_7 : nI 3 ≤ nI k := c_7
        have c_7 := (nI_leI (a := 3) (b := k) (by omega) (by omega)).mp c_7
        have hP9 : va_P E.1 vwCl [(qB, .inl (E.2.1, 3, .inl (fz v bk 3)))] H := by rw [show fz v bk 3 = fz v bk k from by rw [show 3 = k from by omega]]; exact hP
        have hD9 : va_D A [(qB, .inl (E.2.1, 3, .inl (fz v bk 3)))] := by rw [show fz v bk 3 = fz v bk k from by rw [show 3 = k from by omega]]; exact hD
        exact W.vret hx hb hr (fun t ht hW => ⟨⟨(), rfl, trivial, by rw [ht]; exact hP9, hD9⟩, hS.F ht⟩) hS.2.2 dJ7_fill_53178_20
      · have c_7 : ¬ (nI 3 ≤ nI k) := c_7
        have c_7 : ¬ (3 ≤ k) := fun h9 => c_7 ((nI_leI (a := 3) (b := k) (by omega) (by omega)).mpr h9)
        refine lv_aload_n hx hb dJ7_fill_53178_10 rfl (lv_at hl 0 rfl) ?_
        refine lv_iload_n hx hb dJ7_fill_53178_11 rfl (lv_at hl 2 rfl) ?_
        refine lv_iload_n hx hb dJ7_fill_53178_12 rfl (lv_at hl 1 rfl) ?_
        refine k_iast hx hb hK hP hD hS 0 (f := (fz v bk k)) k (x := v) rfl (by omega) (by decide) dJ7_fill_53178_13 (fun H locs hP hD hS => ?_)
        have hP : va_P E.1 vwCl [(qB, .inl (E.2.1, 3, .inl (upd (fz v bk k) k v)))] H := hP
        have hD : va_D A [(qB, .inl (E.2.1, 3, .inl (upd (fz v bk k) k v)))] := hD
        refine lv_iinc (v := nI (k + 1)) (lv' := [(2, .int (nI (k + 1))), (0, .ref qB), (1, .int v), (3, .int 3)]) hx hb dJ7_fill_53178_14 hl (k := 2) rfl (nI_1 _) (by decide) rfl (fun ls hl => ?_)
        refine lv_goto (tgt := 5) hx hb dJ7_fill_53178_17 (by decide) ?_
        have hl : lv_has ls 4 [(0, .ref qB), (1, .int v), (2, .int (nI (k + 1))), (3, .int 3)] := by exact lv_sub hl [1, 2, 0, 3] rfl
        have hP : va_P E.1 vwCl [(qB, .inl (E.2.1, 3, .inl (fz v bk (k + 1))))] H := by rw [fz_s]; exact hP
        have hD : va_D A [(qB, .inl (E.2.1, 3, .inl (fz v bk (k + 1))))] := by rw [fz_s]; exact hD
        exact ih5 (k + 1) (by omega) (by omega)  _ _ hP hD hS ls hl
  have hl : lv_has ls 4 [(0, .ref qB), (1, .int v), (2, .int (nI 0)), (3, .int 3)] := by exact lv_sub hl [2, 3, 1, 0] rfl
  have hP : va_P E.1 vwCl [(qB, .inl (E.2.1, 3, .inl (fz v bk 0)))] s.heap := by rw [fz_0]; exact hP
  have hD : va_D A [(qB, .inl (E.2.1, 3, .inl (fz v bk 0)))] := by rw [fz_0]; exact hD
  exact loop5 (3 + 1) 0 (by omega) (by omega)  _ _ hP hD hS ls hl
set_option maxHeartbeats 4000000 in
set_option maxRecDepth 100000 in
theorem c_X1_init (l : Launch) (E : gE) (qK : Nat) (sz : Nat) : Met l yX1_init wsX1_init ({ frames := 1, cells := 1, slots := 14, locals := 12 }) (va_Pc [.ref qK] (pW E [(qK, .inr (1, [.null, .int (nI 0), .int 0, .int 0]))] sz)) (va_Qv (fun (_ : Nat) => True) (fun u => eW E (va_A [(qK, .inr (1, [.null, .int (nI 0), .int 0, .int 0]))] sz) [(qK, .inr (1, [.ref u, .int (nI 0), .int 0, .int 0])), (u, .inl (E.2.1, 14, .inl (fun w9 => nI ((fun _ => 0) w9))))]) (va_A [(qK, .inr (1, [.null, .int (nI 0), .int 0, .int 0]))] sz)) 1 14 (va_A [(qK, .inr (1, [.null, .int (nI 0), .int 0, .int 0]))] sz) := by
  refine Met.ofW (cc := cX1_init) (maxL := 1) (ret := none) (by decide) rfl ?_
  intro p e s m args below meth c s₁ B hml hv
  obtain ⟨rfl, hsz, hP, hK, hD0⟩ := hv
  have hx := B.exec
  have hb := B.bytes
  have hr := B.returns
  have hts := atoms_spec (ws := wsX1_init) B.pre
  have hown : s.vm.findClass RX1 = some m.cls := findClass_of_methodNamed B.named
  have hlocks := B.notSynchronized
  subst hsz
  have hD := hD0.self (sz := s.heap.size)
  generalize hAe : va_A [(qK, .inr (1, [.null, .int (nI 0), .int 0, .int 0]))] s.heap.size = A at hD ⊢
  have hA : ∀ q : Nat, s.heap.size ≤ q → A q := fun q h => by rw [← hAe]; exact Or.inr h
  have hS : va_S A s.heap s.heap [] := va_S.rf
  have hin : meth.name = "<init>" := (name_of_methodNamed B.named B.method).1
  have hl := lv_entry ([.ref qK]) (n := 1) (Nat.le_of_ble_eq_true rfl)
  rw [lg_entry_eq]
  generalize (lg_sl ([.ref qK]) ++ List.replicate (1 - (lg_sl ([.ref qK])).length) Slot.unset).toArray = ls at hl ⊢
  have hl : lv_has ls 1 [(0, .ref qK)] := hl
  refine lv_aload_n hx hb dX1_init_0 rfl (lv_at hl 0 rfl) ?_
  refine W.objInit hx hb hown (hts (.methodLink RX1 3 objectInit) (List.mem_of_getElem? (i := 1) rfl)) (hts (.instanceMethod objectInit) (List.mem_of_getElem? (i := 2) rfl)) (hts (.code objectInit ⟨#[0xb1]⟩ 1 none) (List.mem_of_getElem? (i := 3) rfl)) rfl (by rw [hml]; exact hl.1) rfl dX1_init_1 (Nat.le_of_ble_eq_true rfl) (Nat.le_of_ble_eq_true rfl) ?_
  refine W.eq (g2 := F0 m 4 ls []) rfl ?_
  refine lv_aload_n hx hb dX1_init_4 rfl (lv_at hl 0 rfl) ?_
  refine lv_bipush (v := 14) hx hb dX1_init_5 (by decide) ?_
  refine k_newI hx hb (hts (.arrayClass .int) (List.mem_of_getElem? (i := 4) rfl)) hK hP hD hS hA 14 (by decide) (by decide) (by decide) (Nat.le_of_ble_eq_true rfl) (Nat.le_of_ble_eq_true rfl) dX1_init_7 (fun qS H hP hD hS => ?_)
  have hP : va_P E.1 vwCl [(qK, .inr (1, [.null, .int (nI 0), .int 0, .int 0])), (qS, .inl (E.2.1, 14, .inl (fun w9 => nI ((fun _ => 0) w9))))] H := hP
  have hD : va_D A [(qK, .inr (1, [.null, .int (nI 0), .int 0, .int 0])), (qS, .inl (E.2.1, 14, .inl (fun w9 => nI ((fun _ => 0) w9))))] := hD
  refine va_putF (D := E.1) (ci := 1) (v := .ref qS) (ty := .array .int) (C := RX1) (T := TX1) (N := 4) hx hb hts (fun _ h => List.mem_cons_of_mem _ (List.mem_append_right _ h)) tyX1 tyX1_ok nmX1 hown hK.1 hP hD hS 0 rfl rfl 0 (by decide) (hts (.fieldLink RX1 9 "Quarrelboard$FactBook" "sources" "[I") (List.mem_of_getElem? (i := 5) rfl)) (fun _ h9 => h9) rfl hin rfl (by decide +kernel) rfl rfl (Nat.le_of_ble_eq_true rfl) dX1_init_9 (fun H locs hP hD hS => ?_)
  have hP : va_P E.1 vwCl [(qK, .inr (1, [.ref qS, .int (nI 0), .int 0, .int 0])), (qS, .inl (E.2.1, 14, .inl (fun w9 => nI ((fun _ => 0) w9))))] H := hP
  have hD : va_D A [(qK, .inr (1, [.ref qS, .int (nI 0), .int 0, .int 0])), (qS, .inl (E.2.1, 14, .inl (fun w9 => nI ((fun _ => 0) w9))))] := hD
  refine lv_aload_n hx hb dX1_init_12 rfl (lv_at hl 0 rfl) ?_
  refine lv_iconst (v := 0) hx hb dX1_init_13 (by decide) ?_
  refine va_put (D := E.1) (ci := 1) (v := .int 0) (ty := .int) (C := RX1) (T := TX1) (N := 4) hx hb hts (fun _ h => List.mem_cons_of_mem _ (List.mem_append_right _ h)) tyX1 tyX1_ok nmX1 hown hK.1 hP hD hS 0 rfl rfl 1 (by decide) (hts (.fieldLink RX1 15 "Quarrelboard$FactBook" "count" "I") (List.mem_of_getElem? (i := 6) rfl)) (fun _ h9 => h9) rfl (by decide +kernel) rfl rfl (Nat.le_of_ble_eq_true rfl) dX1_init_14 (fun H locs hP hD hS => ?_)
  have hP : va_P E.1 vwCl [(qK, .inr (1, [.ref qS, .int (nI 0), .int 0, .int 0])), (qS, .inl (E.2.1, 14, .inl (fun w9 => nI ((fun _ => 0) w9))))] H := hP
  have hD : va_D A [(qK, .inr (1, [.ref qS, .int (nI 0), .int 0, .int 0])), (qS, .inl (E.2.1, 14, .inl (fun w9 => nI ((fun _ => 0) w9))))] := hD
  refine lv_aload_n hx hb dX1_init_17 rfl (lv_at hl 0 rfl) ?_
  refine lv_iconst (v := 0) hx hb dX1_init_18 (by decide) ?_
  refine va_put (D := E.1) (ci := 1) (v := .int 0) (ty := .int) (C := RX1) (T := TX1) (N := 4) hx hb hts (fun _ h => List.mem_cons_of_mem _ (List.mem_append_right _ h)) tyX1 tyX1_ok nmX1 hown hK.1 hP hD hS 0 rfl rfl 2 (by decide) (hts (.fieldLink RX1 19 "Quarrelboard$FactBook" "withdrawn" "I") (List.mem_of_getElem? (i := 7) rfl)) (fun _ h9 => h9) rfl (by decide +kernel) rfl rfl (Nat.le_of_ble_eq_true rfl) dX1_init_19 (fun H locs hP hD hS => ?_)
  have hP : va_P E.1 vwCl [(qK, .inr (1, [.ref qS, .int (nI 0), .int 0, .int 0])), (qS, .inl (E.2.1, 14, .inl (fun w9 => nI ((fun _ => 0) w9))))] H := hP
  have hD : va_D A [(qK, .inr (1, [.ref qS, .int (nI 0), .int 0, .int 0])), (qS, .inl (E.2.1, 14, .inl (fun w9 => nI ((fun _ => 0) w9))))] := hD
  refine lv_aload_n hx hb dX1_init_22 rfl (lv_at hl 0 rfl) ?_
  refine lv_iconst (v := 0) hx hb dX1_init_23 (by decide) ?_
  refine va_put (D := E.1) (ci := 1) (v := .int 0) (ty := .int) (C := RX1) (T := TX1) (N := 4) hx hb hts (fun _ h => List.mem_cons_of_mem _ (List.mem_append_right _ h)) tyX1 tyX1_ok nmX1 hown hK.1 hP hD hS 0 rfl rfl 3 (by decide) (hts (.fieldLink RX1 22 "Quarrelboard$FactBook" "fallenSources" "I") (List.mem_of_getElem? (i := 8) rfl)) (fun _ h9 => h9) rfl (by decide +kernel) rfl rfl (Nat.le_of_ble_eq_true rfl) dX1_init_24 (fun H locs hP hD hS => ?_)
  have hP : va_P E.1 vwCl [(qK, .inr (1, [.ref qS, .int (nI 0), .int 0, .int 0])), (qS, .inl (E.2.1, 14, .inl (fun w9 => nI ((fun _ => 0) w9))))] H := hP
  have hD : va_D A [(qK, .inr (1, [.ref qS, .int (nI 0), .int 0, .int 0])), (qS, .inl (E.2.1, 14, .inl (fun w9 => nI ((fun _ => 0) w9))))] := hD
  have hP9 : va_P E.1 vwCl [(qK, .inr (1, [.ref qS, .int (nI 0), .int 0, .int 0])), (qS, .inl (E.2.1, 14, .inl (fun w9 => nI ((fun _ => 0) w9))))] H := hP.sub (ws' := [(qK, .inr (1, [.ref qS, .int (nI 0), .int 0, .int 0])), (qS, .inl (E.2.1, 14, .inl (fun w9 => nI ((fun _ => 0) w9))))]) [0, 1] rfl
  have hD9 : va_D A [(qK, .inr (1, [.ref qS, .int (nI 0), .int 0, .int 0])), (qS, .inl (E.2.1, 14, .inl (fun w9 => nI ((fun _ => 0) w9))))] := hD.sub (ws' := [(qK, .inr (1, [.ref qS, .int (nI 0), .int 0, .int 0])), (qS, .inl (E.2.1, 14, .inl (fun w9 => nI ((fun _ => 0) w9))))]) [0, 1] (by decide) rfl
  refine W.widen (k := 1) (n := 14) (Nat.le_of_ble_eq_true rfl) (Nat.le_of_ble_eq_true rfl) ?_
  exact W.vret hx hb hr (fun t ht hW => ⟨⟨(qS), rfl, trivial, by rw [ht]; exact hP9, hD9⟩, hS.F ht⟩) hS.2.2 dX1_init_27
set_option maxHeartbeats 4000000 in
set_option maxRecDepth 100000 in
theorem c_X0_init (l : Launch) (E : gE) (qD : Nat) (sz : Nat) : Met l yX0_init wsX0_init ({ frames := 1, cells := 5, slots := 67, locals := 23 }) (va_Pc [.ref qD] (pW E [(qD, .inr (0, [.null, .null, .null, .null, .null, .int (nI 0), .int (nI 0)]))] sz)) (va_Qv (fun (_ : Nat × Nat × Nat × Nat × Nat) => True) (fun u => eW E (va_A [(qD, .inr (0, [.null, .null, .null, .null, .null, .int (nI 0), .int (nI 0)]))] sz) [(qD, .inr (0, [.ref u.1, .ref u.2.1, .ref u.2.2.1, .ref u.2.2.2.1, .ref u.2.2.2.2, .int (nI 0), .int (nI 0)])), (u.1, .inl (E.2.1, 16, .inl (fun w9 => nI ((fun _ => 0) w9)))), (u.2.1, .inl (E.2.1, 16, .inl (fun _ => 0))), (u.2.2.1, .inl (E.2.1, 16, .inl (fun _ => 0))), (u.2.2.2.1, .inl (E.2.1, 16, .inl (fun _ => 0))), (u.2.2.2.2, .inl (E.2.1, 3, .inl (fz 300 (fun _ => 0) 3)))]) (va_A [(qD, .inr (0, [.null, .null, .null, .null, .null, .int (nI 0), .int (nI 0)]))] sz)) 5 67 (va_A [(qD, .inr (0, [.null, .null, .null, .null, .null, .int (nI 0), .int (nI 0)]))] sz) := by
  refine Met.ofW (cc := cX0_init) (maxL := 1) (ret := none) (by decide) rfl ?_
  intro p e s m args below meth c s₁ B hml hv
  obtain ⟨rfl, hsz, hP, hK, hD0⟩ := hv
  have hx := B.exec
  have hb := B.bytes
  have hr := B.returns
  have hts := atoms_spec (ws := wsX0_init) B.pre
  have hown : s.vm.findClass RX0 = some m.cls := findClass_of_methodNamed B.named
  have hlocks := B.notSynchronized
  subst hsz
  have hD := hD0.self (sz := s.heap.size)
  generalize hAe : va_A [(qD, .inr (0, [.null, .null, .null, .null, .null, .int (nI 0), .int (nI 0)]))] s.heap.size = A at hD ⊢
  have hA : ∀ q : Nat, s.heap.size ≤ q → A q := fun q h => by rw [← hAe]; exact Or.inr h
  have hS : va_S A s.heap s.heap [] := va_S.rf
  have hin : meth.name = "<init>" := (name_of_methodNamed B.named B.method).1
  have hl := lv_entry ([.ref qD]) (n := 1) (Nat.le_of_ble_eq_true rfl)
  rw [lg_entry_eq]
  generalize (lg_sl ([.ref qD]) ++ List.replicate (1 - (lg_sl ([.ref qD])).length) Slot.unset).toArray = ls at hl ⊢
  have hl : lv_has ls 1 [(0, .ref qD)] := hl
  refine lv_aload_n hx hb dX0_init_0 rfl (lv_at hl 0 rfl) ?_
  refine W.objInit hx hb hown (hts (.methodLink RX0 3 objectInit) (List.mem_of_getElem? (i := 1) rfl)) (hts (.instanceMethod objectInit) (List.mem_of_getElem? (i := 2) rfl)) (hts (.code objectInit ⟨#[0xb1]⟩ 1 none) (List.mem_of_getElem? (i := 3) rfl)) rfl (by rw [hml]; exact hl.1) rfl dX0_init_1 (Nat.le_of_ble_eq_true rfl) (Nat.le_of_ble_eq_true rfl) ?_
  refine W.eq (g2 := F0 m 4 ls []) rfl ?_
  refine lv_aload_n hx hb dX0_init_4 rfl (lv_at hl 0 rfl) ?_
  refine lv_bipush (v := 16) hx hb dX0_init_5 (by decide) ?_
  refine k_newI hx hb (hts (.arrayClass .int) (List.mem_of_getElem? (i := 4) rfl)) hK hP hD hS hA 16 (by decide) (by decide) (by decide) (Nat.le_of_ble_eq_true rfl) (Nat.le_of_ble_eq_true rfl) dX0_init_7 (fun qO H hP hD hS => ?_)
  have hP : va_P E.1 vwCl [(qD, .inr (0, [.null, .null, .null, .null, .null, .int (nI 0), .int (nI 0)])), (qO, .inl (E.2.1, 16, .inl (fun w9 => nI ((fun _ => 0) w9))))] H := hP
  have hD : va_D A [(qD, .inr (0, [.null, .null, .null, .null, .null, .int (nI 0), .int (nI 0)])), (qO, .inl (E.2.1, 16, .inl (fun w9 => nI ((fun _ => 0) w9))))] := hD
  refine va_putF (D := E.1) (ci := 0) (v := .ref qO) (ty := .array .int) (C := RX0) (T := TX0) (N := 7) hx hb hts (fun _ h => List.mem_cons_of_mem _ (List.mem_append_right _ h)) tyX0 tyX0_ok nmX0 hown hK.1 hP hD hS 0 rfl rfl 0 (by decide) (hts (.fieldLink RX0 9 "Quarrelboard$Debate" "owners" "[I") (List.mem_of_getElem? (i := 5) rfl)) (fun _ h9 => h9) rfl hin rfl (by decide +kernel) rfl rfl (Nat.le_of_ble_eq_true rfl) dX0_init_9 (fun H locs hP hD hS => ?_)
  have hP : va_P E.1 vwCl [(qD, .inr (0, [.ref qO, .null, .null, .null, .null, .int (nI 0), .int (nI 0)])), (qO, .inl (E.2.1, 16, .inl (fun w9 => nI ((fun _ => 0) w9))))] H := hP
  have hD : va_D A [(qD, .inr (0, [.ref qO, .null, .null, .null, .null, .int (nI 0), .int (nI 0)])), (qO, .inl (E.2.1, 16, .inl (fun w9 => nI ((fun _ => 0) w9))))] := hD
  refine lv_aload_n hx hb dX0_init_12 rfl (lv_at hl 0 rfl) ?_
  refine lv_bipush (v := 16) hx hb dX0_init_13 (by decide) ?_
  refine k_newI hx hb (hts (.arrayClass .int) (List.mem_of_getElem? (i := 4) rfl)) hK hP hD hS hA 16 (by decide) (by decide) (by decide) (Nat.le_of_ble_eq_true rfl) (Nat.le_of_ble_eq_true rfl) dX0_init_15 (fun qG H hP hD hS => ?_)
  have hP : va_P E.1 vwCl [(qD, .inr (0, [.ref qO, .null, .null, .null, .null, .int (nI 0), .int (nI 0)])), (qO, .inl (E.2.1, 16, .inl (fun w9 => nI ((fun _ => 0) w9)))), (qG, .inl (E.2.1, 16, .inl (fun _ => 0)))] H := hP
  have hD : va_D A [(qD, .inr (0, [.ref qO, .null, .null, .null, .null, .int (nI 0), .int (nI 0)])), (qO, .inl (E.2.1, 16, .inl (fun w9 => nI ((fun _ => 0) w9)))), (qG, .inl (E.2.1, 16, .inl (fun _ => 0)))] := hD
  refine va_putF (D := E.1) (ci := 0) (v := .ref qG) (ty := .array .int) (C := RX0) (T := TX0) (N := 7) hx hb hts (fun _ h => List.mem_cons_of_mem _ (List.mem_append_right _ h)) tyX0 tyX0_ok nmX0 hown hK.1 hP hD hS 0 rfl rfl 1 (by decide) (hts (.fieldLink RX0 15 "Quarrelboard$Debate" "groundFacts" "[I") (List.mem_of_getElem? (i := 6) rfl)) (fun _ h9 => h9) rfl hin rfl (by decide +kernel) rfl rfl (Nat.le_of_ble_eq_true rfl) dX0_init_17 (fun H locs hP hD hS => ?_)
  have hP : va_P E.1 vwCl [(qD, .inr (0, [.ref qO, .ref qG, .null, .null, .null, .int (nI 0), .int (nI 0)])), (qO, .inl (E.2.1, 16, .inl (fun w9 => nI ((fun _ => 0) w9)))), (qG, .inl (E.2.1, 16, .inl (fun _ => 0)))] H := hP
  have hD : va_D A [(qD, .inr (0, [.ref qO, .ref qG, .null, .null, .null, .int (nI 0), .int (nI 0)])), (qO, .inl (E.2.1, 16, .inl (fun w9 => nI ((fun _ => 0) w9)))), (qG, .inl (E.2.1, 16, .inl (fun _ => 0)))] := hD
  refine lv_aload_n hx hb dX0_init_20 rfl (lv_at hl 0 rfl) ?_
  refine lv_bipush (v := 16) hx hb dX0_init_21 (by decide) ?_
  refine k_newI hx hb (hts (.arrayClass .int) (List.mem_of_getElem? (i := 4) rfl)) hK hP hD hS hA 16 (by decide) (by decide) (by decide) (Nat.le_of_ble_eq_true rfl) (Nat.le_of_ble_eq_true rfl) dX0_init_23 (fun qC H hP hD hS => ?_)
  have hP : va_P E.1 vwCl [(qD, .inr (0, [.ref qO, .ref qG, .null, .null, .null, .int (nI 0), .int (nI 0)])), (qO, .inl (E.2.1, 16, .inl (fun w9 => nI ((fun _ => 0) w9)))), (qG, .inl (E.2.1, 16, .inl (fun _ => 0))), (qC, .inl (E.2.1, 16, .inl (fun _ => 0)))] H := hP
  have hD : va_D A [(qD, .inr (0, [.ref qO, .ref qG, .null, .null, .null, .int (nI 0), .int (nI 0)])), (qO, .inl (E.2.1, 16, .inl (fun w9 => nI ((fun _ => 0) w9)))), (qG, .inl (E.2.1, 16, .inl (fun _ => 0))), (qC, .inl (E.2.1, 16, .inl (fun _ => 0)))] := hD
  refine va_putF (D := E.1) (ci := 0) (v := .ref qC) (ty := .array .int) (C := RX0) (T := TX0) (N := 7) hx hb hts (fun _ h => List.mem_cons_of_mem _ (List.mem_append_right _ h)) tyX0 tyX0_ok nmX0 hown hK.1 hP hD hS 0 rfl rfl 2 (by decide) (hts (.fieldLink RX0 18 "Quarrelboard$Debate" "groundClaims" "[I") (List.mem_of_getElem? (i := 7) rfl)) (fun _ h9 => h9) rfl hin rfl (by decide +kernel) rfl rfl (Nat.le_of_ble_eq_true rfl) dX0_init_25 (fun H locs hP hD hS => ?_)
  have hP : va_P E.1 vwCl [(qD, .inr (0, [.ref qO, .ref qG, .ref qC, .null, .null, .int (nI 0), .int (nI 0)])), (qO, .inl (E.2.1, 16, .inl (fun w9 => nI ((fun _ => 0) w9)))), (qG, .inl (E.2.1, 16, .inl (fun _ => 0))), (qC, .inl (E.2.1, 16, .inl (fun _ => 0)))] H := hP
  have hD : va_D A [(qD, .inr (0, [.ref qO, .ref qG, .ref qC, .null, .null, .int (nI 0), .int (nI 0)])), (qO, .inl (E.2.1, 16, .inl (fun w9 => nI ((fun _ => 0) w9)))), (qG, .inl (E.2.1, 16, .inl (fun _ => 0))), (qC, .inl (E.2.1, 16, .inl (fun _ => 0)))] := hD
  refine lv_aload_n hx hb dX0_init_28 rfl (lv_at hl 0 rfl) ?_
  refine lv_bipush (v := 16) hx hb dX0_init_29 (by decide) ?_
  refine k_newI hx hb (hts (.arrayClass .int) (List.mem_of_getElem? (i := 4) rfl)) hK hP hD hS hA 16 (by decide) (by decide) (by decide) (Nat.le_of_ble_eq_true rfl) (Nat.le_of_ble_eq_true rfl) dX0_init_31 (fun qA H hP hD hS => ?_)
  have hP : va_P E.1 vwCl [(qD, .inr (0, [.ref qO, .ref qG, .ref qC, .null, .null, .int (nI 0), .int (nI 0)])), (qO, .inl (E.2.1, 16, .inl (fun w9 => nI ((fun _ => 0) w9)))), (qG, .inl (E.2.1, 16, .inl (fun _ => 0))), (qC, .inl (E.2.1, 16, .inl (fun _ => 0))), (qA, .inl (E.2.1, 16, .inl (fun _ => 0)))] H := hP
  have hD : va_D A [(qD, .inr (0, [.ref qO, .ref qG, .ref qC, .null, .null, .int (nI 0), .int (nI 0)])), (qO, .inl (E.2.1, 16, .inl (fun w9 => nI ((fun _ => 0) w9)))), (qG, .inl (E.2.1, 16, .inl (fun _ => 0))), (qC, .inl (E.2.1, 16, .inl (fun _ => 0))), (qA, .inl (E.2.1, 16, .inl (fun _ => 0)))] := hD
  refine va_putF (D := E.1) (ci := 0) (v := .ref qA) (ty := .array .int) (C := RX0) (T := TX0) (N := 7) hx hb hts (fun _ h => List.mem_cons_of_mem _ (List.mem_append_right _ h)) tyX0 tyX0_ok nmX0 hown hK.1 hP hD hS 0 rfl rfl 3 (by decide) (hts (.fieldLink RX0 21 "Quarrelboard$Debate" "attackers" "[I") (List.mem_of_getElem? (i := 8) rfl)) (fun _ h9 => h9) rfl hin rfl (by decide +kernel) rfl rfl (Nat.le_of_ble_eq_true rfl) dX0_init_33 (fun H locs hP hD hS => ?_)
  have hP : va_P E.1 vwCl [(qD, .inr (0, [.ref qO, .ref qG, .ref qC, .ref qA, .null, .int (nI 0), .int (nI 0)])), (qO, .inl (E.2.1, 16, .inl (fun w9 => nI ((fun _ => 0) w9)))), (qG, .inl (E.2.1, 16, .inl (fun _ => 0))), (qC, .inl (E.2.1, 16, .inl (fun _ => 0))), (qA, .inl (E.2.1, 16, .inl (fun _ => 0)))] H := hP
  have hD : va_D A [(qD, .inr (0, [.ref qO, .ref qG, .ref qC, .ref qA, .null, .int (nI 0), .int (nI 0)])), (qO, .inl (E.2.1, 16, .inl (fun w9 => nI ((fun _ => 0) w9)))), (qG, .inl (E.2.1, 16, .inl (fun _ => 0))), (qC, .inl (E.2.1, 16, .inl (fun _ => 0))), (qA, .inl (E.2.1, 16, .inl (fun _ => 0)))] := hD
  refine lv_aload_n hx hb dX0_init_36 rfl (lv_at hl 0 rfl) ?_
  refine lv_iconst (v := 3) hx hb dX0_init_37 (by decide) ?_
  refine k_newI hx hb (hts (.arrayClass .int) (List.mem_of_getElem? (i := 4) rfl)) hK hP hD hS hA 3 (by decide) (by decide) (by decide) (Nat.le_of_ble_eq_true rfl) (Nat.le_of_ble_eq_true rfl) dX0_init_38 (fun qB H hP hD hS => ?_)
  have hP : va_P E.1 vwCl [(qD, .inr (0, [.ref qO, .ref qG, .ref qC, .ref qA, .null, .int (nI 0), .int (nI 0)])), (qO, .inl (E.2.1, 16, .inl (fun w9 => nI ((fun _ => 0) w9)))), (qG, .inl (E.2.1, 16, .inl (fun _ => 0))), (qC, .inl (E.2.1, 16, .inl (fun _ => 0))), (qA, .inl (E.2.1, 16, .inl (fun _ => 0))), (qB, .inl (E.2.1, 3, .inl (fun _ => 0)))] H := hP
  have hD : va_D A [(qD, .inr (0, [.ref qO, .ref qG, .ref qC, .ref qA, .null, .int (nI 0), .int (nI 0)])), (qO, .inl (E.2.1, 16, .inl (fun w9 => nI ((fun _ => 0) w9)))), (qG, .inl (E.2.1, 16, .inl (fun _ => 0))), (qC, .inl (E.2.1, 16, .inl (fun _ => 0))), (qA, .inl (E.2.1, 16, .inl (fun _ => 0))), (qB, .inl (E.2.1, 3, .inl (fun _ => 0)))] := hD
  refine va_putF (D := E.1) (ci := 0) (v := .ref qB) (ty := .array .int) (C := RX0) (T := TX0) (N := 7) hx hb hts (fun _ h => List.mem_cons_of_mem _ (List.mem_append_right _ h)) tyX0 tyX0_ok nmX0 hown hK.1 hP hD hS 0 rfl rfl 4 (by decide) (hts (.fieldLink RX0 24 "Quarrelboard$Debate" "banks" "[I") (List.mem_of_getElem? (i := 9) rfl)) (fun _ h9 => h9) rfl hin rfl (by decide +kernel) rfl rfl (Nat.le_of_ble_eq_true rfl) dX0_init_40 (fun H locs hP hD hS => ?_)
  have hP : va_P E.1 vwCl [(qD, .inr (0, [.ref qO, .ref qG, .ref qC, .ref qA, .ref qB, .int (nI 0), .int (nI 0)])), (qO, .inl (E.2.1, 16, .inl (fun w9 => nI ((fun _ => 0) w9)))), (qG, .inl (E.2.1, 16, .inl (fun _ => 0))), (qC, .inl (E.2.1, 16, .inl (fun _ => 0))), (qA, .inl (E.2.1, 16, .inl (fun _ => 0))), (qB, .inl (E.2.1, 3, .inl (fun _ => 0)))] H := hP
  have hD : va_D A [(qD, .inr (0, [.ref qO, .ref qG, .ref qC, .ref qA, .ref qB, .int (nI 0), .int (nI 0)])), (qO, .inl (E.2.1, 16, .inl (fun w9 => nI ((fun _ => 0) w9)))), (qG, .inl (E.2.1, 16, .inl (fun _ => 0))), (qC, .inl (E.2.1, 16, .inl (fun _ => 0))), (qA, .inl (E.2.1, 16, .inl (fun _ => 0))), (qB, .inl (E.2.1, 3, .inl (fun _ => 0)))] := hD
  refine lv_aload_n hx hb dX0_init_43 rfl (lv_at hl 0 rfl) ?_
  refine va_get (D := E.1) (ci := 0) (v := .ref qB) (C := RX0) (T := TX0) (N := 7) hx hb hts (fun _ h => List.mem_cons_of_mem _ (List.mem_append_right _ h)) hown hK.1 hP 0 rfl rfl 4 (by decide) (hts (.fieldLink RX0 24 "Quarrelboard$Debate" "banks" "[I") (List.mem_of_getElem? (i := 9) rfl)) (fun _ h9 => h9) rfl dX0_init_44 ?_
  refine lv_sipush (v := 300) hx hb dX0_init_47 (by decide) ?_
  refine cl_WSv (Wl := [(qD, .inr (0, [.ref qO, .ref qG, .ref qC, .ref qA, .ref qB, .int (nI 0), .int (nI 0)])), (qO, .inl (E.2.1, 16, .inl (fun w9 => nI ((fun _ => 0) w9)))), (qG, .inl (E.2.1, 16, .inl (fun _ => 0))), (qC, .inl (E.2.1, 16, .inl (fun _ => 0))), (qA, .inl (E.2.1, 16, .inl (fun _ => 0))), (qB, .inl (E.2.1, 3, .inl (fun _ => 0)))]) (Wc := [(qB, .inl (E.2.1, 3, .inl (fun _ => 0)))]) (Wr := [(qD, .inr (0, [.ref qO, .ref qG, .ref qC, .ref qA, .ref qB, .int (nI 0), .int (nI 0)])), (qO, .inl (E.2.1, 16, .inl (fun w9 => nI ((fun _ => 0) w9)))), (qG, .inl (E.2.1, 16, .inl (fun _ => 0))), (qC, .inl (E.2.1, 16, .inl (fun _ => 0))), (qA, .inl (E.2.1, 16, .inl (fun _ => 0)))]) (W1 := [(qB, .inl (E.2.1, 3, .inl (fz 300 (fun _ => 0) 3)))]) (W2 := [(qD, .inr (0, [.ref qO, .ref qG, .ref qC, .ref qA, .ref qB, .int (nI 0), .int (nI 0)])), (qO, .inl (E.2.1, 16, .inl (fun w9 => nI ((fun _ => 0) w9)))), (qG, .inl (E.2.1, 16, .inl (fun _ => 0))), (qC, .inl (E.2.1, 16, .inl (fun _ => 0))), (qA, .inl (E.2.1, 16, .inl (fun _ => 0))), (qB, .inl (E.2.1, 3, .inl (fz 300 (fun _ => 0) 3)))]) (As := [.ref qB, .int 300]) (rest := []) ⟨hx, hb, hml, hown, hts⟩ (c_J7_fill_53178 l E qB (fun _ => 0) H.size 300 ) (va_cwS 2 hts gX0_init_J7_fill_53178 rfl rfl rfl (by decide +kernel) ⟨Nat.le_of_ble_eq_true rfl, Nat.le_of_ble_eq_true rfl⟩) hK hP hD hS hA [5] [0, 1, 2, 3, 4] [0, 1, 2, 3, 4, 5] rfl rfl (by decide) rfl (by decide) (by decide) rfl (by decide)  rfl hl.1 rfl (Nat.le_of_ble_eq_true rfl) dX0_init_50 ⟨Nat.le_of_ble_eq_true rfl, Nat.le_of_ble_eq_true rfl⟩ (fun H locs hP hD hS => ?_)
  refine lv_aload_n hx hb dX0_init_53 rfl (lv_at hl 0 rfl) ?_
  refine lv_iconst (v := 0) hx hb dX0_init_54 (by decide) ?_
  refine va_put (D := E.1) (ci := 0) (v := .int 0) (ty := .int) (C := RX0) (T := TX0) (N := 7) hx hb hts (fun _ h => List.mem_cons_of_mem _ (List.mem_append_right _ h)) tyX0 tyX0_ok nmX0 hown hK.1 hP hD hS 0 rfl rfl 5 (by decide) (hts (.fieldLink RX0 33 "Quarrelboard$Debate" "count" "I") (List.mem_of_getElem? (i := 10) rfl)) (fun _ h9 => h9) rfl (by decide +kernel) rfl rfl (Nat.le_of_ble_eq_true rfl) dX0_init_55 (fun H locs hP hD hS => ?_)
  have hP : va_P E.1 vwCl [(qD, .inr (0, [.ref qO, .ref qG, .ref qC, .ref qA, .ref qB, .int (nI 0), .int (nI 0)])), (qO, .inl (E.2.1, 16, .inl (fun w9 => nI ((fun _ => 0) w9)))), (qG, .inl (E.2.1, 16, .inl (fun _ => 0))), (qC, .inl (E.2.1, 16, .inl (fun _ => 0))), (qA, .inl (E.2.1, 16, .inl (fun _ => 0))), (qB, .inl (E.2.1, 3, .inl (fz 300 (fun _ => 0) 3)))] H := hP
  have hD : va_D A [(qD, .inr (0, [.ref qO, .ref qG, .ref qC, .ref qA, .ref qB, .int (nI 0), .int (nI 0)])), (qO, .inl (E.2.1, 16, .inl (fun w9 => nI ((fun _ => 0) w9)))), (qG, .inl (E.2.1, 16, .inl (fun _ => 0))), (qC, .inl (E.2.1, 16, .inl (fun _ => 0))), (qA, .inl (E.2.1, 16, .inl (fun _ => 0))), (qB, .inl (E.2.1, 3, .inl (fz 300 (fun _ => 0) 3)))] := hD
  refine lv_aload_n hx hb dX0_init_58 rfl (lv_at hl 0 rfl) ?_
  refine lv_iconst (v := 0) hx hb dX0_init_59 (by decide) ?_
  refine va_put (D := E.1) (ci := 0) (v := .int 0) (ty := .int) (C := RX0) (T := TX0) (N := 7) hx hb hts (fun _ h => List.mem_cons_of_mem _ (List.mem_append_right _ h)) tyX0 tyX0_ok nmX0 hown hK.1 hP hD hS 0 rfl rfl 6 (by decide) (hts (.fieldLink RX0 37 "Quarrelboard$Debate" "speaker" "I") (List.mem_of_getElem? (i := 11) rfl)) (fun _ h9 => h9) rfl (by decide +kernel) rfl rfl (Nat.le_of_ble_eq_true rfl) dX0_init_60 (fun H locs hP hD hS => ?_)
  have hP : va_P E.1 vwCl [(qD, .inr (0, [.ref qO, .ref qG, .ref qC, .ref qA, .ref qB, .int (nI 0), .int (nI 0)])), (qO, .inl (E.2.1, 16, .inl (fun w9 => nI ((fun _ => 0) w9)))), (qG, .inl (E.2.1, 16, .inl (fun _ => 0))), (qC, .inl (E.2.1, 16, .inl (fun _ => 0))), (qA, .inl (E.2.1, 16, .inl (fun _ => 0))), (qB, .inl (E.2.1, 3, .inl (fz 300 (fun _ => 0) 3)))] H := hP
  have hD : va_D A [(qD, .inr (0, [.ref qO, .ref qG, .ref qC, .ref qA, .ref qB, .int (nI 0), .int (nI 0)])), (qO, .inl (E.2.1, 16, .inl (fun w9 => nI ((fun _ => 0) w9)))), (qG, .inl (E.2.1, 16, .inl (fun _ => 0))), (qC, .inl (E.2.1, 16, .inl (fun _ => 0))), (qA, .inl (E.2.1, 16, .inl (fun _ => 0))), (qB, .inl (E.2.1, 3, .inl (fz 300 (fun _ => 0) 3)))] := hD
  have hP9 : va_P E.1 vwCl [(qD, .inr (0, [.ref qO, .ref qG, .ref qC, .ref qA, .ref qB, .int (nI 0), .int (nI 0)])), (qO, .inl (E.2.1, 16, .inl (fun w9 => nI ((fun _ => 0) w9)))), (qG, .inl (E.2.1, 16, .inl (fun _ => 0))), (qC, .inl (E.2.1, 16, .inl (fun _ => 0))), (qA, .inl (E.2.1, 16, .inl (fun _ => 0))), (qB, .inl (E.2.1, 3, .inl (fz 300 (fun _ => 0) 3)))] H := hP.sub (ws' := [(qD, .inr (0, [.ref qO, .ref qG, .ref qC, .ref qA, .ref qB, .int (nI 0), .int (nI 0)])), (qO, .inl (E.2.1, 16, .inl (fun w9 => nI ((fun _ => 0) w9)))), (qG, .inl (E.2.1, 16, .inl (fun _ => 0))), (qC, .inl (E.2.1, 16, .inl (fun _ => 0))), (qA, .inl (E.2.1, 16, .inl (fun _ => 0))), (qB, .inl (E.2.1, 3, .inl (fz 300 (fun _ => 0) 3)))]) [0, 1, 2, 3, 4, 5] rfl
  have hD9 : va_D A [(qD, .inr (0, [.ref qO, .ref qG, .ref qC, .ref qA, .ref qB, .int (nI 0), .int (nI 0)])), (qO, .inl (E.2.1, 16, .inl (fun w9 => nI ((fun _ => 0) w9)))), (qG, .inl (E.2.1, 16, .inl (fun _ => 0))), (qC, .inl (E.2.1, 16, .inl (fun _ => 0))), (qA, .inl (E.2.1, 16, .inl (fun _ => 0))), (qB, .inl (E.2.1, 3, .inl (fz 300 (fun _ => 0) 3)))] := hD.sub (ws' := [(qD, .inr (0, [.ref qO, .ref qG, .ref qC, .ref qA, .ref qB, .int (nI 0), .int (nI 0)])), (qO, .inl (E.2.1, 16, .inl (fun w9 => nI ((fun _ => 0) w9)))), (qG, .inl (E.2.1, 16, .inl (fun _ => 0))), (qC, .inl (E.2.1, 16, .inl (fun _ => 0))), (qA, .inl (E.2.1, 16, .inl (fun _ => 0))), (qB, .inl (E.2.1, 3, .inl (fz 300 (fun _ => 0) 3)))]) [0, 1, 2, 3, 4, 5] (by decide) rfl
  refine W.widen (k := 5) (n := 67) (Nat.le_of_ble_eq_true rfl) (Nat.le_of_ble_eq_true rfl) ?_
  exact W.vret hx hb hr (fun t ht hW => ⟨⟨(qO, qG, qC, qA, qB), rfl, trivial, by rw [ht]; exact hP9, hD9⟩, hS.F ht⟩) hS.2.2 dX0_init_63
set_option maxHeartbeats 4000000 in
set_option maxRecDepth 100000 in
theorem c_X2_init (l : Launch) (E : gE) (qJ : Nat) (qD : Nat) (sz : Nat) : Met l yX2_init wsX2_init ({ frames := 1, cells := 1, slots := 16, locals := 12 }) (va_Pc [.ref qJ, .ref qD] (pW E [(qJ, .inr (2, [.null, .null, .int (nI 0), .int 0, .int 0, .int 0]))] sz)) (va_Qv (fun (_ : Nat) => True) (fun u => eW E (va_A [(qJ, .inr (2, [.null, .null, .int (nI 0), .int 0, .int 0, .int 0]))] sz) [(qJ, .inr (2, [.ref qD, .ref u, .int (nI 0), .int 0, .int 0, .int 0])), (u, .inl (E.2.1, 16, .inl (fun w9 => nI ((fun _ => 0) w9))))]) (va_A [(qJ, .inr (2, [.null, .null, .int (nI 0), .int 0, .int 0, .int 0]))] sz)) 1 16 (va_A [(qJ, .inr (2, [.null, .null, .int (nI 0), .int 0, .int 0, .int 0]))] sz) := by
  refine Met.ofW (cc := cX2_init) (maxL := 2) (ret := none) (by decide) rfl ?_
  intro p e s m args below meth c s₁ B hml hv
  obtain ⟨rfl, hsz, hP, hK, hD0⟩ := hv
  have hx := B.exec
  have hb := B.bytes
  have hr := B.returns
  have hts := atoms_spec (ws := wsX2_init) B.pre
  have hown : s.vm.findClass RX2 = some m.cls := findClass_of_methodNamed B.named
  have hlocks := B.notSynchronized
  subst hsz
  have hD := hD0.self (sz := s.heap.size)
  generalize hAe : va_A [(qJ, .inr (2, [.null, .null, .int (nI 0), .int 0, .int 0, .int 0]))] s.heap.size = A at hD ⊢
  have hA : ∀ q : Nat, s.heap.size ≤ q → A q := fun q h => by rw [← hAe]; exact Or.inr h
  have hS : va_S A s.heap s.heap [] := va_S.rf
  have hin : meth.name = "<init>" := (name_of_methodNamed B.named B.method).1
  have hl := lv_entry ([.ref qJ, .ref qD]) (n := 2) (Nat.le_of_ble_eq_true rfl)
  rw [lg_entry_eq]
  generalize (lg_sl ([.ref qJ, .ref qD]) ++ List.replicate (2 - (lg_sl ([.ref qJ, .ref qD])).length) Slot.unset).toArray = ls at hl ⊢
  have hl : lv_has ls 2 [(0, .ref qJ), (1, .ref qD)] := hl
  refine lv_aload_n hx hb dX2_init_0 rfl (lv_at hl 0 rfl) ?_
  refine W.objInit hx hb hown (hts (.methodLink RX2 3 objectInit) (List.mem_of_getElem? (i := 1) rfl)) (hts (.instanceMethod objectInit) (List.mem_of_getElem? (i := 2) rfl)) (hts (.code objectInit ⟨#[0xb1]⟩ 1 none) (List.mem_of_getElem? (i := 3) rfl)) rfl (by rw [hml]; exact hl.1) rfl dX2_init_1 (Nat.le_of_ble_eq_true rfl) (Nat.le_of_ble_eq_true rfl) ?_
  refine W.eq (g2 := F0 m 4 ls []) rfl ?_
  refine lv_aload_n hx hb dX2_init_4 rfl (lv_at hl 0 rfl) ?_
  refine lv_aload_n hx hb dX2_init_5 rfl (lv_at hl 1 rfl) ?_
  refine va_putF (D := E.1) (ci := 2) (v := .ref qD) (ty := .object "Quarrelboard$Debate") (C := RX2) (T := TX2) (N := 6) hx hb hts (fun _ h => List.mem_cons_of_mem _ (List.mem_append_right _ h)) tyX2 tyX2_ok nmX2 hown hK.1 hP hD hS 0 rfl rfl 0 (by decide) (hts (.fieldLink RX2 9 "Quarrelboard$Judge" "debate" "LQuarrelboard$Debate;") (List.mem_of_getElem? (i := 4) rfl)) (fun _ h9 => h9) rfl hin rfl (by decide +kernel) rfl rfl (Nat.le_of_ble_eq_true rfl) dX2_init_6 (fun H locs hP hD hS => ?_)
  have hP : va_P E.1 vwCl [(qJ, .inr (2, [.ref qD, .null, .int (nI 0), .int 0, .int 0, .int 0]))] H := hP
  have hD : va_D A [(qJ, .inr (2, [.ref qD, .null, .int (nI 0), .int 0, .int 0, .int 0]))] := hD
  refine lv_aload_n hx hb dX2_init_9 rfl (lv_at hl 0 rfl) ?_
  refine lv_bipush (v := 16) hx hb dX2_init_10 (by decide) ?_
  refine k_newI hx hb (hts (.arrayClass .int) (List.mem_of_getElem? (i := 5) rfl)) hK hP hD hS hA 16 (by decide) (by decide) (by decide) (Nat.le_of_ble_eq_true rfl) (Nat.le_of_ble_eq_true rfl) dX2_init_12 (fun qQ H hP hD hS => ?_)
  have hP : va_P E.1 vwCl [(qJ, .inr (2, [.ref qD, .null, .int (nI 0), .int 0, .int 0, .int 0])), (qQ, .inl (E.2.1, 16, .inl (fun w9 => nI ((fun _ => 0) w9))))] H := hP
  have hD : va_D A [(qJ, .inr (2, [.ref qD, .null, .int (nI 0), .int 0, .int 0, .int 0])), (qQ, .inl (E.2.1, 16, .inl (fun w9 => nI ((fun _ => 0) w9))))] := hD
  refine va_putF (D := E.1) (ci := 2) (v := .ref qQ) (ty := .array .int) (C := RX2) (T := TX2) (N := 6) hx hb hts (fun _ h => List.mem_cons_of_mem _ (List.mem_append_right _ h)) tyX2 tyX2_ok nmX2 hown hK.1 hP hD hS 0 rfl rfl 1 (by decide) (hts (.fieldLink RX2 15 "Quarrelboard$Judge" "queue" "[I") (List.mem_of_getElem? (i := 6) rfl)) (fun _ h9 => h9) rfl hin rfl (by decide +kernel) rfl rfl (Nat.le_of_ble_eq_true rfl) dX2_init_14 (fun H locs hP hD hS => ?_)
  have hP : va_P E.1 vwCl [(qJ, .inr (2, [.ref qD, .ref qQ, .int (nI 0), .int 0, .int 0, .int 0])), (qQ, .inl (E.2.1, 16, .inl (fun w9 => nI ((fun _ => 0) w9))))] H := hP
  have hD : va_D A [(qJ, .inr (2, [.ref qD, .ref qQ, .int (nI 0), .int 0, .int 0, .int 0])), (qQ, .inl (E.2.1, 16, .inl (fun w9 => nI ((fun _ => 0) w9))))] := hD
  refine lv_aload_n hx hb dX2_init_17 rfl (lv_at hl 0 rfl) ?_
  refine lv_iconst (v := 0) hx hb dX2_init_18 (by decide) ?_
  refine va_put (D := E.1) (ci := 2) (v := .int 0) (ty := .int) (C := RX2) (T := TX2) (N := 6) hx hb hts (fun _ h => List.mem_cons_of_mem _ (List.mem_append_right _ h)) tyX2 tyX2_ok nmX2 hown hK.1 hP hD hS 0 rfl rfl 2 (by decide) (hts (.fieldLink RX2 19 "Quarrelboard$Judge" "queued" "I") (List.mem_of_getElem? (i := 7) rfl)) (fun _ h9 => h9) rfl (by decide +kernel) rfl rfl (Nat.le_of_ble_eq_true rfl) dX2_init_19 (fun H locs hP hD hS => ?_)
  have hP : va_P E.1 vwCl [(qJ, .inr (2, [.ref qD, .ref qQ, .int (nI 0), .int 0, .int 0, .int 0])), (qQ, .inl (E.2.1, 16, .inl (fun w9 => nI ((fun _ => 0) w9))))] H := hP
  have hD : va_D A [(qJ, .inr (2, [.ref qD, .ref qQ, .int (nI 0), .int 0, .int 0, .int 0])), (qQ, .inl (E.2.1, 16, .inl (fun w9 => nI ((fun _ => 0) w9))))] := hD
  refine lv_aload_n hx hb dX2_init_22 rfl (lv_at hl 0 rfl) ?_
  refine lv_iconst (v := 0) hx hb dX2_init_23 (by decide) ?_
  refine va_put (D := E.1) (ci := 2) (v := .int 0) (ty := .int) (C := RX2) (T := TX2) (N := 6) hx hb hts (fun _ h => List.mem_cons_of_mem _ (List.mem_append_right _ h)) tyX2 tyX2_ok nmX2 hown hK.1 hP hD hS 0 rfl rfl 3 (by decide) (hts (.fieldLink RX2 23 "Quarrelboard$Judge" "standingFacts" "I") (List.mem_of_getElem? (i := 8) rfl)) (fun _ h9 => h9) rfl (by decide +kernel) rfl rfl (Nat.le_of_ble_eq_true rfl) dX2_init_24 (fun H locs hP hD hS => ?_)
  have hP : va_P E.1 vwCl [(qJ, .inr (2, [.ref qD, .ref qQ, .int (nI 0), .int 0, .int 0, .int 0])), (qQ, .inl (E.2.1, 16, .inl (fun w9 => nI ((fun _ => 0) w9))))] H := hP
  have hD : va_D A [(qJ, .inr (2, [.ref qD, .ref qQ, .int (nI 0), .int 0, .int 0, .int 0])), (qQ, .inl (E.2.1, 16, .inl (fun w9 => nI ((fun _ => 0) w9))))] := hD
  refine lv_aload_n hx hb dX2_init_27 rfl (lv_at hl 0 rfl) ?_
  refine lv_iconst (v := 0) hx hb dX2_init_28 (by decide) ?_
  refine va_put (D := E.1) (ci := 2) (v := .int 0) (ty := .int) (C := RX2) (T := TX2) (N := 6) hx hb hts (fun _ h => List.mem_cons_of_mem _ (List.mem_append_right _ h)) tyX2 tyX2_ok nmX2 hown hK.1 hP hD hS 0 rfl rfl 4 (by decide) (hts (.fieldLink RX2 26 "Quarrelboard$Judge" "claimsIn" "I") (List.mem_of_getElem? (i := 9) rfl)) (fun _ h9 => h9) rfl (by decide +kernel) rfl rfl (Nat.le_of_ble_eq_true rfl) dX2_init_29 (fun H locs hP hD hS => ?_)
  have hP : va_P E.1 vwCl [(qJ, .inr (2, [.ref qD, .ref qQ, .int (nI 0), .int 0, .int 0, .int 0])), (qQ, .inl (E.2.1, 16, .inl (fun w9 => nI ((fun _ => 0) w9))))] H := hP
  have hD : va_D A [(qJ, .inr (2, [.ref qD, .ref qQ, .int (nI 0), .int 0, .int 0, .int 0])), (qQ, .inl (E.2.1, 16, .inl (fun w9 => nI ((fun _ => 0) w9))))] := hD
  refine lv_aload_n hx hb dX2_init_32 rfl (lv_at hl 0 rfl) ?_
  refine lv_iconst (v := 0) hx hb dX2_init_33 (by decide) ?_
  refine va_put (D := E.1) (ci := 2) (v := .int 0) (ty := .int) (C := RX2) (T := TX2) (N := 6) hx hb hts (fun _ h => List.mem_cons_of_mem _ (List.mem_append_right _ h)) tyX2 tyX2_ok nmX2 hown hK.1 hP hD hS 0 rfl rfl 5 (by decide) (hts (.fieldLink RX2 29 "Quarrelboard$Judge" "claimsOut" "I") (List.mem_of_getElem? (i := 10) rfl)) (fun _ h9 => h9) rfl (by decide +kernel) rfl rfl (Nat.le_of_ble_eq_true rfl) dX2_init_34 (fun H locs hP hD hS => ?_)
  have hP : va_P E.1 vwCl [(qJ, .inr (2, [.ref qD, .ref qQ, .int (nI 0), .int 0, .int 0, .int 0])), (qQ, .inl (E.2.1, 16, .inl (fun w9 => nI ((fun _ => 0) w9))))] H := hP
  have hD : va_D A [(qJ, .inr (2, [.ref qD, .ref qQ, .int (nI 0), .int 0, .int 0, .int 0])), (qQ, .inl (E.2.1, 16, .inl (fun w9 => nI ((fun _ => 0) w9))))] := hD
  have hP9 : va_P E.1 vwCl [(qJ, .inr (2, [.ref qD, .ref qQ, .int (nI 0), .int 0, .int 0, .int 0])), (qQ, .inl (E.2.1, 16, .inl (fun w9 => nI ((fun _ => 0) w9))))] H := hP.sub (ws' := [(qJ, .inr (2, [.ref qD, .ref qQ, .int (nI 0), .int 0, .int 0, .int 0])), (qQ, .inl (E.2.1, 16, .inl (fun w9 => nI ((fun _ => 0) w9))))]) [0, 1] rfl
  have hD9 : va_D A [(qJ, .inr (2, [.ref qD, .ref qQ, .int (nI 0), .int 0, .int 0, .int 0])), (qQ, .inl (E.2.1, 16, .inl (fun w9 => nI ((fun _ => 0) w9))))] := hD.sub (ws' := [(qJ, .inr (2, [.ref qD, .ref qQ, .int (nI 0), .int 0, .int 0, .int 0])), (qQ, .inl (E.2.1, 16, .inl (fun w9 => nI ((fun _ => 0) w9))))]) [0, 1] (by decide) rfl
  refine W.widen (k := 1) (n := 16) (Nat.le_of_ble_eq_true rfl) (Nat.le_of_ble_eq_true rfl) ?_
  exact W.vret hx hb hr (fun t ht hW => ⟨⟨(qQ), rfl, trivial, by rw [ht]; exact hP9, hD9⟩, hS.F ht⟩) hS.2.2 dX2_init_37
