set_option maxHeartbeats 4000000 in
set_option maxRecDepth 100000 in
theorem c_X4_have (l : Launch) (E : gE) (qM : Nat) (uF : Nat) (nf : Nat) (uS : Nat) (uW : Nat) (sp : Nat) (uB : Nat) (n : Nat) (uO : Nat) (uG : Nat) (uR : Nat) (uK : Nat) (uT : Nat) (cl : Int32) (uP : Nat) (th : Int32) (fb : Nat → Bool) (src : Nat → Nat) (wb : Nat → Bool) (bk : Nat → Int32) (ow : Nat → Nat) (gf : Nat → Int32) (gc : Nat → Int32) (ak : Nat → Int32) (st : Nat → Int32) (rp : Nat → Int32) (x : Int32) (y : Int32) (b : Bool) (hc16 : n ≤ 16) : Met l yX4_have wsX4_have ({ frames := 0, cells := 0, slots := 0, locals := 0 }) (va_Pc [.ref qM, .int x, .int y, .int (zI b)] (pR E [(qM, .inr (4, [.ref uF, .int (nI nf), .ref uS, .ref uW, .int (nI sp), .ref uB, .int (nI n), .ref uO, .ref uG, .ref uR, .ref uK, .ref uT, .int cl, .ref uP, .int th])), (uF, .inl (E.2.2.1, 6, .inl (fun w9 => zI (fb w9)))), (uS, .inl (E.2.1, 14, .inl (fun w9 => nI (src w9)))), (uW, .inl (E.2.2.1, 14, .inl (fun w9 => zI (wb w9)))), (uB, .inl (E.2.1, 3, .inl bk)), (uO, .inl (E.2.1, 16, .inl (fun w9 => nI (ow w9)))), (uG, .inl (E.2.1, 16, .inl gf)), (uR, .inl (E.2.1, 16, .inl gc)), (uK, .inl (E.2.1, 16, .inl ak)), (uT, .inl (E.2.1, 16, .inl st)), (uP, .inl (E.2.1, 3, .inl rp))])) (vp_Si (fun r => r = zI (hvF st x y b n))) 0 0 (fun _ => False) := by
  refine Met.ofW (cc := cX4_have) (maxL := 7) (ret := (some .boolean)) (by decide) rfl ?_
  intro p e s m args below meth c s₁ B hml hv
  obtain ⟨rfl, hP, hK⟩ := hv
  have hx := B.exec
  have hb := B.bytes
  have hr := B.returns
  have hts := atoms_spec (ws := wsX4_have) B.pre
  have hown : s.vm.findClass RX4 = some m.cls := findClass_of_methodNamed B.named
  have hlocks := B.notSynchronized
  have hP : va_P E.1 vwCl [(qM, .inr (4, [.ref uF, .int (nI nf), .ref uS, .ref uW, .int (nI sp), .ref uB, .int (nI n), .ref uO, .ref uG, .ref uR, .ref uK, .ref uT, .int cl, .ref uP, .int th])), (uF, .inl (E.2.2.1, 6, .inl (fun w9 => zI (fb w9)))), (uS, .inl (E.2.1, 14, .inl (fun w9 => nI (src w9)))), (uW, .inl (E.2.2.1, 14, .inl (fun w9 => zI (wb w9)))), (uB, .inl (E.2.1, 3, .inl bk)), (uO, .inl (E.2.1, 16, .inl (fun w9 => nI (ow w9)))), (uG, .inl (E.2.1, 16, .inl gf)), (uR, .inl (E.2.1, 16, .inl gc)), (uK, .inl (E.2.1, 16, .inl ak)), (uT, .inl (E.2.1, 16, .inl st)), (uP, .inl (E.2.1, 3, .inl rp))] s.heap := hP
  have hl := lv_entry ([.ref qM, .int x, .int y, .int (zI b)]) (n := 7) (Nat.le_of_ble_eq_true rfl)
  rw [lg_entry_eq]
  generalize (lg_sl ([.ref qM, .int x, .int y, .int (zI b)]) ++ List.replicate (7 - (lg_sl ([.ref qM, .int x, .int y, .int (zI b)])).length) Slot.unset).toArray = ls at hl ⊢
  have hl : lv_has ls 7 [(0, .ref qM), (1, .int x), (2, .int y), (3, .int (zI b))] := hl
  refine lv_iload_n hx hb dX4_have_0 rfl (lv_at hl 3 rfl) ?_
  refine lv_istore (lv' := [(4, .int (zI b)), (0, .ref qM), (1, .int x), (2, .int y), (3, .int (zI b))]) hx hb dX4_have_1 hl (by decide) rfl (fun ls hl => ?_)
  refine lv_iconst (v := 0) hx hb dX4_have_3 (by decide) ?_
  refine lv_istore (lv' := [(5, .int 0), (4, .int (zI b)), (0, .ref qM), (1, .int x), (2, .int y), (3, .int (zI b))]) hx hb dX4_have_4 hl (by decide) rfl (fun ls hl => ?_)
  have loop6 : ∀ (z6 k : Nat), k ≤ n → n + 1 ≤ k + z6 → ∀ (ls : Array Slot), lv_has ls 7 [(0, .ref qM), (1, .int x), (2, .int y), (3, .int (zI b)), (4, .int (zI (hvF st x y b k))), (5, .int (nI k))] → W p l e (headSpec wsX4_have ({ frames := 0, cells := 0, slots := 0, locals := 0 })).room s m ([.ref qM, .int x, .int y, .int (zI b)] : List Value).toArray below meth c s.heap [] 0 0 (MQ below (vp_Si (fun r => r = zI (hvF st x y b n))) ([.ref qM, .int x, .int y, .int (zI b)] : List Value).toArray s 0 0 (fun _ => False)) (F0 m 6 ls []) := by
    intro z6
    induction z6 with
    | zero =>
      intro k hk6 hz6
      exact absurd hz6 (by omega)
    | succ z6 ih6 =>
      intro k hk6 hz6  ls hl
      refine lv_iload hx hb dX4_have_6 (lv_at hl 5 rfl) ?_
      refine lv_aload_n hx hb dX4_have_8 rfl (lv_at hl 0 rfl) ?_
      refine va_get (D := E.1) (ci := 4) (v := .int (nI n)) (C := RX4) (T := TX4) (N := 15) hx hb hts (fun _ h => List.mem_cons_of_mem _ (List.mem_append_right _ h)) hown hK.1 hP 0 rfl rfl 6 (by decide) (hts (.fieldLink RX4 52 "QuarrelboardModel" "claims" "I") (List.mem_of_getElem? (i := 1) rfl)) (fun _ h9 => h9) rfl dX4_have_9 ?_
      refine lv_icmp_ge (tgt := 88) hx hb dX4_have_12 (by decide) (fun c_12 => ?_) (fun c_12 => ?_)
      · have c_12 : nI n ≤ nI k := c_12
        have c_12 := (nI_leI (a := n) (b := k) (by omega) (by omega)).mp c_12
        refine lv_iload hx hb dX4_have_88 (lv_at hl 4 rfl) ?_
        have e9 : (zI (hvF st x y b k) : Int32) = zI (hvF st x y b n) := by rw [show k = n from by omega]
        exact W.zret (v := zI (hvF st x y b k)) hx hb hr (zI_nar (hvF st x y b k)) (fun t ht hW => ⟨_, rfl, e9, ht⟩) (fun q h => absurd h List.not_mem_nil) dX4_have_90
      · have c_12 : ¬ (nI n ≤ nI k) := c_12
        have c_12 : ¬ (n ≤ k) := fun h9 => c_12 ((nI_leI (a := n) (b := k) (by omega) (by omega)).mpr h9)
        refine lv_aload_n hx hb dX4_have_15 rfl (lv_at hl 0 rfl) ?_
        refine va_get (D := E.1) (ci := 4) (v := .ref uT) (C := RX4) (T := TX4) (N := 15) hx hb hts (fun _ h => List.mem_cons_of_mem _ (List.mem_append_right _ h)) hown hK.1 hP 0 rfl rfl 11 (by decide) (hts (.fieldLink RX4 35 "QuarrelboardModel" "states" "[I") (List.mem_of_getElem? (i := 2) rfl)) (fun _ h9 => h9) rfl dX4_have_16 ?_
        refine lv_iload hx hb dX4_have_19 (lv_at hl 5 rfl) ?_
        refine k_iald hx hb hK hP 9 (f := st) k rfl (by omega) (by decide) dX4_have_21 ?_
        refine lv_iload_n hx hb dX4_have_22 rfl (lv_at hl 2 rfl) ?_
        refine lv_icmp_ne (tgt := 30) hx hb dX4_have_23 (by decide) (fun c_23 => ?_) (fun c_23 => ?_)
        · skip
          refine lv_iconst (v := 0) hx hb dX4_have_30 (by decide) ?_
          refine lv_istore (lv' := [(6, .int 0), (0, .ref qM), (1, .int x), (2, .int y), (3, .int (zI b)), (4, .int (zI (hvF st x y b k))), (5, .int (nI k))]) hx hb dX4_have_31 hl (by decide) rfl (fun ls hl => ?_)
          refine lv_iload_n hx hb dX4_have_33 rfl (lv_at hl 2 rfl) ?_
          refine lv_iload hx hb dX4_have_34 (lv_at hl 6 rfl) ?_
          refine lv_ishr hx hb dX4_have_36 ?_
          refine lv_iconst (v := 1) hx hb dX4_have_37 (by decide) ?_
          refine lv_iand hx hb dX4_have_38 ?_
          refine lv_iconst (v := 1) hx hb dX4_have_39 (by decide) ?_
          refine lv_icmp_ne (tgt := 82) hx hb dX4_have_40 (by decide) (fun c_40 => ?_) (fun c_40 => ?_)
          · have c_40 := bt_shf (x := x) (j := k) (by omega) c_40
            refine lv_iinc (v := nI (k + 1)) (lv' := [(5, .int (nI (k + 1))), (6, .int 0), (0, .ref qM), (1, .int x), (2, .int y), (3, .int (zI b)), (4, .int (zI (hvF st x y b k)))]) hx hb dX4_have_82 hl (k := 6) rfl (nI_1 _) (by decide) rfl (fun ls hl => ?_)
            refine lv_goto (tgt := 6) hx hb dX4_have_85 (by decide) ?_
            have hl : lv_has ls 7 [(0, .ref qM), (1, .int x), (2, .int y), (3, .int (zI b)), (4, .int (zI (hvF st x y b (k + 1)))), (5, .int (nI (k + 1)))] := by rw [show hvF st x y b (k + 1) = hvF st x y b k from hvF_skip c_40]; exact lv_sub hl [2, 3, 4, 5, 6, 0] rfl
            exact ih6 (k + 1) (by omega) (by omega)  ls hl
          · have c_40 := bt_sht (x := x) (j := k) (by omega) c_40
            refine lv_iload_n hx hb dX4_have_43 rfl (lv_at hl 4 rfl) ?_
            refine lv_if_eq (tgt := 65) hx hb dX4_have_44 (by decide) (fun c_44 => ?_) (fun c_44 => ?_)
            · have c_44 := zI_f c_44
              refine lv_iload hx hb dX4_have_65 (lv_at hl 5 rfl) ?_
              refine lv_if_ne (tgt := 75) hx hb dX4_have_67 (by decide) (fun c_67 => ?_) (fun c_67 => ?_)
              · have c_67 := zI_t c_67
                refine lv_iconst (v := 1) hx hb dX4_have_75 (by decide) ?_
                refine lv_goto (tgt := 80) hx hb dX4_have_76 (by decide) ?_
                refine lv_istore (lv' := [(4, .int 1), (6, .int 0), (0, .ref qM), (1, .int x), (2, .int y), (3, .int (zI b)), (5, .int (nI k))]) hx hb dX4_have_80 hl (by decide) rfl (fun ls hl => ?_)
                refine lv_iinc (v := nI (k + 1)) (lv' := [(5, .int (nI (k + 1))), (4, .int 1), (6, .int 0), (0, .ref qM), (1, .int x), (2, .int y), (3, .int (zI b))]) hx hb dX4_have_82 hl (k := 6) rfl (nI_1 _) (by decide) rfl (fun ls hl => ?_)
                refine lv_goto (tgt := 6) hx hb dX4_have_85 (by decide) ?_
                have hl : lv_has ls 7 [(0, .ref qM), (1, .int x), (2, .int y), (3, .int (zI b)), (4, .int (zI (hvF st x y b (k + 1)))), (5, .int (nI (k + 1)))] := by rw [show hvF st x y b (k + 1) = true from by rw [hvF_any c_40 c_44, c_67]; rfl]; exact lv_sub hl [3, 4, 5, 6, 1, 0] rfl
                exact ih6 (k + 1) (by omega) (by omega)  ls hl
              · have c_67 := zI_f c_67
                refine lv_iload hx hb dX4_have_70 (lv_at hl 0 rfl) ?_
                refine lv_if_eq (tgt := 79) hx hb dX4_have_72 (by decide) (fun c_72 => ?_) (fun c_72 => ?_)
                · skip
                  refine lv_iconst (v := 0) hx hb dX4_have_79 (by decide) ?_
                  refine lv_istore (lv' := [(4, .int 0), (6, .int 0), (0, .ref qM), (1, .int x), (2, .int y), (3, .int (zI b)), (5, .int (nI k))]) hx hb dX4_have_80 hl (by decide) rfl (fun ls hl => ?_)
                  refine lv_iinc (v := nI (k + 1)) (lv' := [(5, .int (nI (k + 1))), (4, .int 0), (6, .int 0), (0, .ref qM), (1, .int x), (2, .int y), (3, .int (zI b))]) hx hb dX4_have_82 hl (k := 6) rfl (nI_1 _) (by decide) rfl (fun ls hl => ?_)
                  refine lv_goto (tgt := 6) hx hb dX4_have_85 (by decide) ?_
                  have hl : lv_has ls 7 [(0, .ref qM), (1, .int x), (2, .int y), (3, .int (zI b)), (4, .int (zI (hvF st x y b (k + 1)))), (5, .int (nI (k + 1)))] := by rw [show hvF st x y b (k + 1) = false from by rw [hvF_any c_40 c_44, c_67, decide_eq_false c_23]; rfl]; exact lv_sub hl [3, 4, 5, 6, 1, 0] rfl
                  exact ih6 (k + 1) (by omega) (by omega)  ls hl
                · skip
                  exact absurd rfl c_72
            · have c_44 := zI_t c_44
              refine lv_iload hx hb dX4_have_47 (lv_at hl 5 rfl) ?_
              refine lv_if_eq (tgt := 61) hx hb dX4_have_49 (by decide) (fun c_49 => ?_) (fun c_49 => ?_)
              · have c_49 := zI_f c_49
                refine lv_iconst (v := 0) hx hb dX4_have_61 (by decide) ?_
                refine lv_goto (tgt := 80) hx hb dX4_have_62 (by decide) ?_
                refine lv_istore (lv' := [(4, .int 0), (6, .int 0), (0, .ref qM), (1, .int x), (2, .int y), (3, .int (zI b)), (5, .int (nI k))]) hx hb dX4_have_80 hl (by decide) rfl (fun ls hl => ?_)
                refine lv_iinc (v := nI (k + 1)) (lv' := [(5, .int (nI (k + 1))), (4, .int 0), (6, .int 0), (0, .ref qM), (1, .int x), (2, .int y), (3, .int (zI b))]) hx hb dX4_have_82 hl (k := 6) rfl (nI_1 _) (by decide) rfl (fun ls hl => ?_)
                refine lv_goto (tgt := 6) hx hb dX4_have_85 (by decide) ?_
                have hl : lv_has ls 7 [(0, .ref qM), (1, .int x), (2, .int y), (3, .int (zI b)), (4, .int (zI (hvF st x y b (k + 1)))), (5, .int (nI (k + 1)))] := by rw [show hvF st x y b (k + 1) = false from by rw [hvF_all c_40 c_44, c_49]; rfl]; exact lv_sub hl [3, 4, 5, 6, 1, 0] rfl
                exact ih6 (k + 1) (by omega) (by omega)  ls hl
              · have c_49 := zI_t c_49
                refine lv_iload hx hb dX4_have_52 (lv_at hl 0 rfl) ?_
                refine lv_if_eq (tgt := 61) hx hb dX4_have_54 (by decide) (fun c_54 => ?_) (fun c_54 => ?_)
                · skip
                  refine lv_iconst (v := 0) hx hb dX4_have_61 (by decide) ?_
                  refine lv_goto (tgt := 80) hx hb dX4_have_62 (by decide) ?_
                  refine lv_istore (lv' := [(4, .int 0), (6, .int 0), (0, .ref qM), (1, .int x), (2, .int y), (3, .int (zI b)), (5, .int (nI k))]) hx hb dX4_have_80 hl (by decide) rfl (fun ls hl => ?_)
                  refine lv_iinc (v := nI (k + 1)) (lv' := [(5, .int (nI (k + 1))), (4, .int 0), (6, .int 0), (0, .ref qM), (1, .int x), (2, .int y), (3, .int (zI b))]) hx hb dX4_have_82 hl (k := 6) rfl (nI_1 _) (by decide) rfl (fun ls hl => ?_)
                  refine lv_goto (tgt := 6) hx hb dX4_have_85 (by decide) ?_
                  have hl : lv_has ls 7 [(0, .ref qM), (1, .int x), (2, .int y), (3, .int (zI b)), (4, .int (zI (hvF st x y b (k + 1)))), (5, .int (nI (k + 1)))] := by rw [show hvF st x y b (k + 1) = false from by rw [hvF_all c_40 c_44, c_49, decide_eq_false c_23]; rfl]; exact lv_sub hl [3, 4, 5, 6, 1, 0] rfl
                  exact ih6 (k + 1) (by omega) (by omega)  ls hl
                · skip
                  exact absurd rfl c_54
        · skip
          refine lv_iconst (v := 1) hx hb dX4_have_26 (by decide) ?_
          refine lv_goto (tgt := 31) hx hb dX4_have_27 (by decide) ?_
          refine lv_istore (lv' := [(6, .int 1), (0, .ref qM), (1, .int x), (2, .int y), (3, .int (zI b)), (4, .int (zI (hvF st x y b k))), (5, .int (nI k))]) hx hb dX4_have_31 hl (by decide) rfl (fun ls hl => ?_)
          refine lv_iload_n hx hb dX4_have_33 rfl (lv_at hl 2 rfl) ?_
          refine lv_iload hx hb dX4_have_34 (lv_at hl 6 rfl) ?_
          refine lv_ishr hx hb dX4_have_36 ?_
          refine lv_iconst (v := 1) hx hb dX4_have_37 (by decide) ?_
          refine lv_iand hx hb dX4_have_38 ?_
          refine lv_iconst (v := 1) hx hb dX4_have_39 (by decide) ?_
          refine lv_icmp_ne (tgt := 82) hx hb dX4_have_40 (by decide) (fun c_40 => ?_) (fun c_40 => ?_)
          · have c_40 := bt_shf (x := x) (j := k) (by omega) c_40
            refine lv_iinc (v := nI (k + 1)) (lv' := [(5, .int (nI (k + 1))), (6, .int 1), (0, .ref qM), (1, .int x), (2, .int y), (3, .int (zI b)), (4, .int (zI (hvF st x y b k)))]) hx hb dX4_have_82 hl (k := 6) rfl (nI_1 _) (by decide) rfl (fun ls hl => ?_)
            refine lv_goto (tgt := 6) hx hb dX4_have_85 (by decide) ?_
            have hl : lv_has ls 7 [(0, .ref qM), (1, .int x), (2, .int y), (3, .int (zI b)), (4, .int (zI (hvF st x y b (k + 1)))), (5, .int (nI (k + 1)))] := by rw [show hvF st x y b (k + 1) = hvF st x y b k from hvF_skip c_40]; exact lv_sub hl [2, 3, 4, 5, 6, 0] rfl
            exact ih6 (k + 1) (by omega) (by omega)  ls hl
          · have c_40 := bt_sht (x := x) (j := k) (by omega) c_40
            refine lv_iload_n hx hb dX4_have_43 rfl (lv_at hl 4 rfl) ?_
            refine lv_if_eq (tgt := 65) hx hb dX4_have_44 (by decide) (fun c_44 => ?_) (fun c_44 => ?_)
            · have c_44 := zI_f c_44
              refine lv_iload hx hb dX4_have_65 (lv_at hl 5 rfl) ?_
              refine lv_if_ne (tgt := 75) hx hb dX4_have_67 (by decide) (fun c_67 => ?_) (fun c_67 => ?_)
              · have c_67 := zI_t c_67
                refine lv_iconst (v := 1) hx hb dX4_have_75 (by decide) ?_
                refine lv_goto (tgt := 80) hx hb dX4_have_76 (by decide) ?_
                refine lv_istore (lv' := [(4, .int 1), (6, .int 1), (0, .ref qM), (1, .int x), (2, .int y), (3, .int (zI b)), (5, .int (nI k))]) hx hb dX4_have_80 hl (by decide) rfl (fun ls hl => ?_)
                refine lv_iinc (v := nI (k + 1)) (lv' := [(5, .int (nI (k + 1))), (4, .int 1), (6, .int 1), (0, .ref qM), (1, .int x), (2, .int y), (3, .int (zI b))]) hx hb dX4_have_82 hl (k := 6) rfl (nI_1 _) (by decide) rfl (fun ls hl => ?_)
                refine lv_goto (tgt := 6) hx hb dX4_have_85 (by decide) ?_
                have hl : lv_has ls 7 [(0, .ref qM), (1, .int x), (2, .int y), (3, .int (zI b)), (4, .int (zI (hvF st x y b (k + 1)))), (5, .int (nI (k + 1)))] := by rw [show hvF st x y b (k + 1) = true from by rw [hvF_any c_40 c_44, c_67]; rfl]; exact lv_sub hl [3, 4, 5, 6, 1, 0] rfl
                exact ih6 (k + 1) (by omega) (by omega)  ls hl
              · have c_67 := zI_f c_67
                refine lv_iload hx hb dX4_have_70 (lv_at hl 0 rfl) ?_
                refine lv_if_eq (tgt := 79) hx hb dX4_have_72 (by decide) (fun c_72 => ?_) (fun c_72 => ?_)
                · skip
                  exact absurd c_72 (by decide)
                · skip
                  refine lv_iconst (v := 1) hx hb dX4_have_75 (by decide) ?_
                  refine lv_goto (tgt := 80) hx hb dX4_have_76 (by decide) ?_
                  refine lv_istore (lv' := [(4, .int 1), (6, .int 1), (0, .ref qM), (1, .int x), (2, .int y), (3, .int (zI b)), (5, .int (nI k))]) hx hb dX4_have_80 hl (by decide) rfl (fun ls hl => ?_)
                  refine lv_iinc (v := nI (k + 1)) (lv' := [(5, .int (nI (k + 1))), (4, .int 1), (6, .int 1), (0, .ref qM), (1, .int x), (2, .int y), (3, .int (zI b))]) hx hb dX4_have_82 hl (k := 6) rfl (nI_1 _) (by decide) rfl (fun ls hl => ?_)
                  refine lv_goto (tgt := 6) hx hb dX4_have_85 (by decide) ?_
                  have hl : lv_has ls 7 [(0, .ref qM), (1, .int x), (2, .int y), (3, .int (zI b)), (4, .int (zI (hvF st x y b (k + 1)))), (5, .int (nI (k + 1)))] := by rw [show hvF st x y b (k + 1) = true from by rw [hvF_any c_40 c_44, c_67, decide_eq_true c_23]; rfl]; exact lv_sub hl [3, 4, 5, 6, 1, 0] rfl
                  exact ih6 (k + 1) (by omega) (by omega)  ls hl
            · have c_44 := zI_t c_44
              refine lv_iload hx hb dX4_have_47 (lv_at hl 5 rfl) ?_
              refine lv_if_eq (tgt := 61) hx hb dX4_have_49 (by decide) (fun c_49 => ?_) (fun c_49 => ?_)
              · have c_49 := zI_f c_49
                refine lv_iconst (v := 0) hx hb dX4_have_61 (by decide) ?_
                refine lv_goto (tgt := 80) hx hb dX4_have_62 (by decide) ?_
                refine lv_istore (lv' := [(4, .int 0), (6, .int 1), (0, .ref qM), (1, .int x), (2, .int y), (3, .int (zI b)), (5, .int (nI k))]) hx hb dX4_have_80 hl (by decide) rfl (fun ls hl => ?_)
                refine lv_iinc (v := nI (k + 1)) (lv' := [(5, .int (nI (k + 1))), (4, .int 0), (6, .int 1), (0, .ref qM), (1, .int x), (2, .int y), (3, .int (zI b))]) hx hb dX4_have_82 hl (k := 6) rfl (nI_1 _) (by decide) rfl (fun ls hl => ?_)
                refine lv_goto (tgt := 6) hx hb dX4_have_85 (by decide) ?_
                have hl : lv_has ls 7 [(0, .ref qM), (1, .int x), (2, .int y), (3, .int (zI b)), (4, .int (zI (hvF st x y b (k + 1)))), (5, .int (nI (k + 1)))] := by rw [show hvF st x y b (k + 1) = false from by rw [hvF_all c_40 c_44, c_49]; rfl]; exact lv_sub hl [3, 4, 5, 6, 1, 0] rfl
                exact ih6 (k + 1) (by omega) (by omega)  ls hl
              · have c_49 := zI_t c_49
                refine lv_iload hx hb dX4_have_52 (lv_at hl 0 rfl) ?_
                refine lv_if_eq (tgt := 61) hx hb dX4_have_54 (by decide) (fun c_54 => ?_) (fun c_54 => ?_)
                · skip
                  exact absurd c_54 (by decide)
                · skip
                  refine lv_iconst (v := 1) hx hb dX4_have_57 (by decide) ?_
                  refine lv_goto (tgt := 80) hx hb dX4_have_58 (by decide) ?_
                  refine lv_istore (lv' := [(4, .int 1), (6, .int 1), (0, .ref qM), (1, .int x), (2, .int y), (3, .int (zI b)), (5, .int (nI k))]) hx hb dX4_have_80 hl (by decide) rfl (fun ls hl => ?_)
                  refine lv_iinc (v := nI (k + 1)) (lv' := [(5, .int (nI (k + 1))), (4, .int 1), (6, .int 1), (0, .ref qM), (1, .int x), (2, .int y), (3, .int (zI b))]) hx hb dX4_have_82 hl (k := 6) rfl (nI_1 _) (by decide) rfl (fun ls hl => ?_)
                  refine lv_goto (tgt := 6) hx hb dX4_have_85 (by decide) ?_
                  have hl : lv_has ls 7 [(0, .ref qM), (1, .int x), (2, .int y), (3, .int (zI b)), (4, .int (zI (hvF st x y b (k + 1)))), (5, .int (nI (k + 1)))] := by rw [show hvF st x y b (k + 1) = true from by rw [hvF_all c_40 c_44, c_49, decide_eq_true c_23]; rfl]; exact lv_sub hl [3, 4, 5, 6, 1, 0] rfl
                  exact ih6 (k + 1) (by omega) (by omega)  ls hl
  have hl : lv_has ls 7 [(0, .ref qM), (1, .int x), (2, .int y), (3, .int (zI b)), (4, .int (zI (hvF st x y b 0))), (5, .int (nI 0))] := by exact lv_sub hl [2, 3, 4, 5, 1, 0] rfl
  exact loop6 (n + 1) 0 (by omega) (by omega)  ls hl
set_option maxHeartbeats 4000000 in
set_option maxRecDepth 100000 in
theorem c_X4_decides (l : Launch) (E : gE) (qM : Nat) (uF : Nat) (nf : Nat) (uS : Nat) (uW : Nat) (sp : Nat) (uB : Nat) (n : Nat) (uO : Nat) (uG : Nat) (uR : Nat) (uK : Nat) (uT : Nat) (cl : Int32) (uP : Nat) (th : Int32) (fb : Nat → Bool) (src : Nat → Nat) (wb : Nat → Bool) (bk : Nat → Int32) (ow : Nat → Nat) (gf : Nat → Int32) (gc : Nat → Int32) (ak : Nat → Int32) (st : Nat → Int32) (rp : Nat → Int32) (sz : Nat) (x : Int32) (hc16 : n ≤ 16) : Met l yX4_decides wsX4_decides ({ frames := 1, cells := 0, slots := 0, locals := 26 }) (va_Pc [.ref qM, .int x] (pW E [(qM, .inr (4, [.ref uF, .int (nI nf), .ref uS, .ref uW, .int (nI sp), .ref uB, .int (nI n), .ref uO, .ref uG, .ref uR, .ref uK, .ref uT, .int cl, .ref uP, .int th])), (uF, .inl (E.2.2.1, 6, .inl (fun w9 => zI (fb w9)))), (uS, .inl (E.2.1, 14, .inl (fun w9 => nI (src w9)))), (uW, .inl (E.2.2.1, 14, .inl (fun w9 => zI (wb w9)))), (uB, .inl (E.2.1, 3, .inl bk)), (uO, .inl (E.2.1, 16, .inl (fun w9 => nI (ow w9)))), (uG, .inl (E.2.1, 16, .inl gf)), (uR, .inl (E.2.1, 16, .inl gc)), (uK, .inl (E.2.1, 16, .inl ak)), (uT, .inl (E.2.1, 16, .inl st)), (uP, .inl (E.2.1, 3, .inl rp))] sz)) (va_Qv (fun (_ : Unit) => True) (fun _ => eW E (va_A [(qM, .inr (4, [.ref uF, .int (nI nf), .ref uS, .ref uW, .int (nI sp), .ref uB, .int (nI n), .ref uO, .ref uG, .ref uR, .ref uK, .ref uT, .int cl, .ref uP, .int th])), (uF, .inl (E.2.2.1, 6, .inl (fun w9 => zI (fb w9)))), (uS, .inl (E.2.1, 14, .inl (fun w9 => nI (src w9)))), (uW, .inl (E.2.2.1, 14, .inl (fun w9 => zI (wb w9)))), (uB, .inl (E.2.1, 3, .inl bk)), (uO, .inl (E.2.1, 16, .inl (fun w9 => nI (ow w9)))), (uG, .inl (E.2.1, 16, .inl gf)), (uR, .inl (E.2.1, 16, .inl gc)), (uK, .inl (E.2.1, 16, .inl ak)), (uT, .inl (E.2.1, 16, .inl st)), (uP, .inl (E.2.1, 3, .inl rp))] sz) [(qM, .inr (4, [.ref uF, .int (nI nf), .ref uS, .ref uW, .int (nI sp), .ref uB, .int (nI n), .ref uO, .ref uG, .ref uR, .ref uK, .ref uT, .int cl, .ref uP, .int th])), (uF, .inl (E.2.2.1, 6, .inl (fun w9 => zI (fb w9)))), (uS, .inl (E.2.1, 14, .inl (fun w9 => nI (src w9)))), (uW, .inl (E.2.2.1, 14, .inl (fun w9 => zI (wb w9)))), (uB, .inl (E.2.1, 3, .inl bk)), (uO, .inl (E.2.1, 16, .inl (fun w9 => nI (ow w9)))), (uG, .inl (E.2.1, 16, .inl gf)), (uR, .inl (E.2.1, 16, .inl gc)), (uK, .inl (E.2.1, 16, .inl ak)), (uT, .inl (E.2.1, 16, .inl ((mJ gf gc ak x n st).2))), (uP, .inl (E.2.1, 3, .inl rp))]) (va_A [(qM, .inr (4, [.ref uF, .int (nI nf), .ref uS, .ref uW, .int (nI sp), .ref uB, .int (nI n), .ref uO, .ref uG, .ref uR, .ref uK, .ref uT, .int cl, .ref uP, .int th])), (uF, .inl (E.2.2.1, 6, .inl (fun w9 => zI (fb w9)))), (uS, .inl (E.2.1, 14, .inl (fun w9 => nI (src w9)))), (uW, .inl (E.2.2.1, 14, .inl (fun w9 => zI (wb w9)))), (uB, .inl (E.2.1, 3, .inl bk)), (uO, .inl (E.2.1, 16, .inl (fun w9 => nI (ow w9)))), (uG, .inl (E.2.1, 16, .inl gf)), (uR, .inl (E.2.1, 16, .inl gc)), (uK, .inl (E.2.1, 16, .inl ak)), (uT, .inl (E.2.1, 16, .inl st)), (uP, .inl (E.2.1, 3, .inl rp))] sz)) 0 0 (va_A [(qM, .inr (4, [.ref uF, .int (nI nf), .ref uS, .ref uW, .int (nI sp), .ref uB, .int (nI n), .ref uO, .ref uG, .ref uR, .ref uK, .ref uT, .int cl, .ref uP, .int th])), (uF, .inl (E.2.2.1, 6, .inl (fun w9 => zI (fb w9)))), (uS, .inl (E.2.1, 14, .inl (fun w9 => nI (src w9)))), (uW, .inl (E.2.2.1, 14, .inl (fun w9 => zI (wb w9)))), (uB, .inl (E.2.1, 3, .inl bk)), (uO, .inl (E.2.1, 16, .inl (fun w9 => nI (ow w9)))), (uG, .inl (E.2.1, 16, .inl gf)), (uR, .inl (E.2.1, 16, .inl gc)), (uK, .inl (E.2.1, 16, .inl ak)), (uT, .inl (E.2.1, 16, .inl st)), (uP, .inl (E.2.1, 3, .inl rp))] sz) := by
  refine Met.ofW (cc := cX4_decides) (maxL := 5) (ret := none) (by decide) rfl ?_
  intro p e s m args below meth c s₁ B hml hv
  obtain ⟨rfl, hsz, hP, hK, hD0⟩ := hv
  have hx := B.exec
  have hb := B.bytes
  have hr := B.returns
  have hts := atoms_spec (ws := wsX4_decides) B.pre
  have hown : s.vm.findClass RX4 = some m.cls := findClass_of_methodNamed B.named
  have hlocks := B.notSynchronized
  subst hsz
  have hD := hD0.self (sz := s.heap.size)
  generalize hAe : va_A [(qM, .inr (4, [.ref uF, .int (nI nf), .ref uS, .ref uW, .int (nI sp), .ref uB, .int (nI n), .ref uO, .ref uG, .ref uR, .ref uK, .ref uT, .int cl, .ref uP, .int th])), (uF, .inl (E.2.2.1, 6, .inl (fun w9 => zI (fb w9)))), (uS, .inl (E.2.1, 14, .inl (fun w9 => nI (src w9)))), (uW, .inl (E.2.2.1, 14, .inl (fun w9 => zI (wb w9)))), (uB, .inl (E.2.1, 3, .inl bk)), (uO, .inl (E.2.1, 16, .inl (fun w9 => nI (ow w9)))), (uG, .inl (E.2.1, 16, .inl gf)), (uR, .inl (E.2.1, 16, .inl gc)), (uK, .inl (E.2.1, 16, .inl ak)), (uT, .inl (E.2.1, 16, .inl st)), (uP, .inl (E.2.1, 3, .inl rp))] s.heap.size = A at hD ⊢
  have hA : ∀ q : Nat, s.heap.size ≤ q → A q := fun q h => by rw [← hAe]; exact Or.inr h
  have hS : va_S A s.heap s.heap [] := va_S.rf
  have hl := lv_entry ([.ref qM, .int x]) (n := 5) (Nat.le_of_ble_eq_true rfl)
  rw [lg_entry_eq]
  generalize (lg_sl ([.ref qM, .int x]) ++ List.replicate (5 - (lg_sl ([.ref qM, .int x])).length) Slot.unset).toArray = ls at hl ⊢
  have hl : lv_has ls 5 [(0, .ref qM), (1, .int x)] := hl
  refine lv_iconst (v := 0) hx hb dX4_decides_0 (by decide) ?_
  refine lv_istore_n (lv' := [(2, .int 0), (0, .ref qM), (1, .int x)]) hx hb dX4_decides_1 rfl hl (by decide) rfl (fun ls hl => ?_)
  have loop2 : ∀ (z2 k : Nat), k ≤ n → n + 1 ≤ k + z2 → ∀ (H : Heap) (locs : List Loc), va_P E.1 vwCl [(qM, .inr (4, [.ref uF, .int (nI nf), .ref uS, .ref uW, .int (nI sp), .ref uB, .int (nI n), .ref uO, .ref uG, .ref uR, .ref uK, .ref uT, .int cl, .ref uP, .int th])), (uF, .inl (E.2.2.1, 6, .inl (fun w9 => zI (fb w9)))), (uS, .inl (E.2.1, 14, .inl (fun w9 => nI (src w9)))), (uW, .inl (E.2.2.1, 14, .inl (fun w9 => zI (wb w9)))), (uB, .inl (E.2.1, 3, .inl bk)), (uO, .inl (E.2.1, 16, .inl (fun w9 => nI (ow w9)))), (uG, .inl (E.2.1, 16, .inl gf)), (uR, .inl (E.2.1, 16, .inl gc)), (uK, .inl (E.2.1, 16, .inl ak)), (uT, .inl (E.2.1, 16, .inl (zr st k))), (uP, .inl (E.2.1, 3, .inl rp))] H → va_D A [(qM, .inr (4, [.ref uF, .int (nI nf), .ref uS, .ref uW, .int (nI sp), .ref uB, .int (nI n), .ref uO, .ref uG, .ref uR, .ref uK, .ref uT, .int cl, .ref uP, .int th])), (uF, .inl (E.2.2.1, 6, .inl (fun w9 => zI (fb w9)))), (uS, .inl (E.2.1, 14, .inl (fun w9 => nI (src w9)))), (uW, .inl (E.2.2.1, 14, .inl (fun w9 => zI (wb w9)))), (uB, .inl (E.2.1, 3, .inl bk)), (uO, .inl (E.2.1, 16, .inl (fun w9 => nI (ow w9)))), (uG, .inl (E.2.1, 16, .inl gf)), (uR, .inl (E.2.1, 16, .inl gc)), (uK, .inl (E.2.1, 16, .inl ak)), (uT, .inl (E.2.1, 16, .inl (zr st k))), (uP, .inl (E.2.1, 3, .inl rp))] → va_S A s.heap H locs → ∀ (ls : Array Slot), lv_has ls 5 [(0, .ref qM), (1, .int x), (2, .int (nI k))] → W p l e (headSpec wsX4_decides ({ frames := 1, cells := 0, slots := 0, locals := 26 })).room s m ([.ref qM, .int x] : List Value).toArray below meth c H locs 0 0 (MQ below (va_Qv (fun (_ : Unit) => True) (fun _ => eW E A [(qM, .inr (4, [.ref uF, .int (nI nf), .ref uS, .ref uW, .int (nI sp), .ref uB, .int (nI n), .ref uO, .ref uG, .ref uR, .ref uK, .ref uT, .int cl, .ref uP, .int th])), (uF, .inl (E.2.2.1, 6, .inl (fun w9 => zI (fb w9)))), (uS, .inl (E.2.1, 14, .inl (fun w9 => nI (src w9)))), (uW, .inl (E.2.2.1, 14, .inl (fun w9 => zI (wb w9)))), (uB, .inl (E.2.1, 3, .inl bk)), (uO, .inl (E.2.1, 16, .inl (fun w9 => nI (ow w9)))), (uG, .inl (E.2.1, 16, .inl gf)), (uR, .inl (E.2.1, 16, .inl gc)), (uK, .inl (E.2.1, 16, .inl ak)), (uT, .inl (E.2.1, 16, .inl ((mJ gf gc ak x n st).2))), (uP, .inl (E.2.1, 3, .inl rp))]) A) ([.ref qM, .int x] : List Value).toArray s 0 0 A) (F0 m 2 ls []) := by
    intro z2
    induction z2 with
    | zero =>
      intro k hk2 hz2
      exact absurd hz2 (by omega)
    | succ z2 ih2 =>
      intro k hk2 hz2  H locs hP hD hS ls hl
      refine lv_iload_n hx hb dX4_decides_2 rfl (lv_at hl 2 rfl) ?_
      refine lv_aload_n hx hb dX4_decides_3 rfl (lv_at hl 0 rfl) ?_
      refine va_get (D := E.1) (ci := 4) (v := .int (nI n)) (C := RX4) (T := TX4) (N := 15) hx hb hts (fun _ h => List.mem_cons_of_mem _ (List.mem_append_right _ h)) hown hK.1 hP 0 rfl rfl 6 (by decide) (hts (.fieldLink RX4 52 "QuarrelboardModel" "claims" "I") (List.mem_of_getElem? (i := 1) rfl)) (fun _ h9 => h9) rfl dX4_decides_4 ?_
      refine lv_icmp_ge (tgt := 23) hx hb dX4_decides_7 (by decide) (fun c_7 => ?_) (fun c_7 => ?_)
      · have c_7 : nI n ≤ nI k := c_7
        have c_7 := (nI_leI (a := n) (b := k) (by omega) (by omega)).mp c_7
        refine lv_iconst (v := 1) hx hb dX4_decides_23 (by decide) ?_
        refine lv_istore_n (lv' := [(2, .int 1), (0, .ref qM), (1, .int x)]) hx hb dX4_decides_24 rfl hl (by decide) rfl (fun ls hl => ?_)
        have loop25 : ∀ (z25 h : Nat), h ≤ 17 → 17 + 1 ≤ h + z25 → ∀ (s9 : Bool × (Nat → Int32)), (mL gf gc ak x n (17 - h) s9 = (mJ gf gc ak x n st)) → (s9.1 = true → h + opn s9.2 n ≤ n) → ∀ (H : Heap) (locs : List Loc), va_P E.1 vwCl [(qM, .inr (4, [.ref uF, .int (nI nf), .ref uS, .ref uW, .int (nI sp), .ref uB, .int (nI n), .ref uO, .ref uG, .ref uR, .ref uK, .ref uT, .int cl, .ref uP, .int th])), (uF, .inl (E.2.2.1, 6, .inl (fun w9 => zI (fb w9)))), (uS, .inl (E.2.1, 14, .inl (fun w9 => nI (src w9)))), (uW, .inl (E.2.2.1, 14, .inl (fun w9 => zI (wb w9)))), (uB, .inl (E.2.1, 3, .inl bk)), (uO, .inl (E.2.1, 16, .inl (fun w9 => nI (ow w9)))), (uG, .inl (E.2.1, 16, .inl gf)), (uR, .inl (E.2.1, 16, .inl gc)), (uK, .inl (E.2.1, 16, .inl ak)), (uT, .inl (E.2.1, 16, .inl s9.2)), (uP, .inl (E.2.1, 3, .inl rp))] H → va_D A [(qM, .inr (4, [.ref uF, .int (nI nf), .ref uS, .ref uW, .int (nI sp), .ref uB, .int (nI n), .ref uO, .ref uG, .ref uR, .ref uK, .ref uT, .int cl, .ref uP, .int th])), (uF, .inl (E.2.2.1, 6, .inl (fun w9 => zI (fb w9)))), (uS, .inl (E.2.1, 14, .inl (fun w9 => nI (src w9)))), (uW, .inl (E.2.2.1, 14, .inl (fun w9 => zI (wb w9)))), (uB, .inl (E.2.1, 3, .inl bk)), (uO, .inl (E.2.1, 16, .inl (fun w9 => nI (ow w9)))), (uG, .inl (E.2.1, 16, .inl gf)), (uR, .inl (E.2.1, 16, .inl gc)), (uK, .inl (E.2.1, 16, .inl ak)), (uT, .inl (E.2.1, 16, .inl s9.2)), (uP, .inl (E.2.1, 3, .inl rp))] → va_S A s.heap H locs → ∀ (ls : Array Slot), lv_has ls 5 [(0, .ref qM), (1, .int x), (2, .int (zI s9.1))] → W p l e (headSpec wsX4_decides ({ frames := 1, cells := 0, slots := 0, locals := 26 })).room s m ([.ref qM, .int x] : List Value).toArray below meth c H locs 0 0 (MQ below (va_Qv (fun (_ : Unit) => True) (fun _ => eW E A [(qM, .inr (4, [.ref uF, .int (nI nf), .ref uS, .ref uW, .int (nI sp), .ref uB, .int (nI n), .ref uO, .ref uG, .ref uR, .ref uK, .ref uT, .int cl, .ref uP, .int th])), (uF, .inl (E.2.2.1, 6, .inl (fun w9 => zI (fb w9)))), (uS, .inl (E.2.1, 14, .inl (fun w9 => nI (src w9)))), (uW, .inl (E.2.2.1, 14, .inl (fun w9 => zI (wb w9)))), (uB, .inl (E.2.1, 3, .inl bk)), (uO, .inl (E.2.1, 16, .inl (fun w9 => nI (ow w9)))), (uG, .inl (E.2.1, 16, .inl gf)), (uR, .inl (E.2.1, 16, .inl gc)), (uK, .inl (E.2.1, 16, .inl ak)), (uT, .inl (E.2.1, 16, .inl ((mJ gf gc ak x n st).2))), (uP, .inl (E.2.1, 3, .inl rp))]) A) ([.ref qM, .int x] : List Value).toArray s 0 0 A) (F0 m 25 ls []) := by
          intro z25
          induction z25 with
          | zero =>
            intro h hk25 hz25
            exact absurd hz25 (by omega)
          | succ z25 ih25 =>
            intro h hk25 hz25 s9 hj ho9 H locs hP hD hS ls hl
            refine lv_iload_n hx hb dX4_decides_25 rfl (lv_at hl 2 rfl) ?_
            refine lv_if_eq (tgt := 176) hx hb dX4_decides_26 (by decide) (fun c_26 => ?_) (fun c_26 => ?_)
            · have c_26 := zI_f c_26
              have hP9 : va_P E.1 vwCl [(qM, .inr (4, [.ref uF, .int (nI nf), .ref uS, .ref uW, .int (nI sp), .ref uB, .int (nI n), .ref uO, .ref uG, .ref uR, .ref uK, .ref uT, .int cl, .ref uP, .int th])), (uF, .inl (E.2.2.1, 6, .inl (fun w9 => zI (fb w9)))), (uS, .inl (E.2.1, 14, .inl (fun w9 => nI (src w9)))), (uW, .inl (E.2.2.1, 14, .inl (fun w9 => zI (wb w9)))), (uB, .inl (E.2.1, 3, .inl bk)), (uO, .inl (E.2.1, 16, .inl (fun w9 => nI (ow w9)))), (uG, .inl (E.2.1, 16, .inl gf)), (uR, .inl (E.2.1, 16, .inl gc)), (uK, .inl (E.2.1, 16, .inl ak)), (uT, .inl (E.2.1, 16, .inl ((mJ gf gc ak x n st).2))), (uP, .inl (E.2.1, 3, .inl rp))] H := by rw [← hj, mL_stop c_26]; exact hP
              have hD9 : va_D A [(qM, .inr (4, [.ref uF, .int (nI nf), .ref uS, .ref uW, .int (nI sp), .ref uB, .int (nI n), .ref uO, .ref uG, .ref uR, .ref uK, .ref uT, .int cl, .ref uP, .int th])), (uF, .inl (E.2.2.1, 6, .inl (fun w9 => zI (fb w9)))), (uS, .inl (E.2.1, 14, .inl (fun w9 => nI (src w9)))), (uW, .inl (E.2.2.1, 14, .inl (fun w9 => zI (wb w9)))), (uB, .inl (E.2.1, 3, .inl bk)), (uO, .inl (E.2.1, 16, .inl (fun w9 => nI (ow w9)))), (uG, .inl (E.2.1, 16, .inl gf)), (uR, .inl (E.2.1, 16, .inl gc)), (uK, .inl (E.2.1, 16, .inl ak)), (uT, .inl (E.2.1, 16, .inl ((mJ gf gc ak x n st).2))), (uP, .inl (E.2.1, 3, .inl rp))] := by rw [← hj, mL_stop c_26]; exact hD
              exact W.vret hx hb hr (fun t ht hW => ⟨⟨(), rfl, trivial, by rw [ht]; exact hP9, hD9⟩, hS.F ht⟩) hS.2.2 dX4_decides_176
            · have c_26 := zI_t c_26
              refine lv_iconst (v := 0) hx hb dX4_decides_29 (by decide) ?_
              refine lv_istore_n (lv' := [(2, .int 0), (0, .ref qM), (1, .int x)]) hx hb dX4_decides_30 rfl hl (by decide) rfl (fun ls hl => ?_)
              refine lv_iconst (v := 0) hx hb dX4_decides_31 (by decide) ?_
              refine lv_istore_n (lv' := [(3, .int 0), (2, .int 0), (0, .ref qM), (1, .int x)]) hx hb dX4_decides_32 rfl hl (by decide) rfl (fun ls hl => ?_)
              have loop33 : ∀ (z33 k : Nat), k ≤ n → n + 1 ≤ k + z33 → ∀ (H : Heap) (locs : List Loc), va_P E.1 vwCl [(qM, .inr (4, [.ref uF, .int (nI nf), .ref uS, .ref uW, .int (nI sp), .ref uB, .int (nI n), .ref uO, .ref uG, .ref uR, .ref uK, .ref uT, .int cl, .ref uP, .int th])), (uF, .inl (E.2.2.1, 6, .inl (fun w9 => zI (fb w9)))), (uS, .inl (E.2.1, 14, .inl (fun w9 => nI (src w9)))), (uW, .inl (E.2.2.1, 14, .inl (fun w9 => zI (wb w9)))), (uB, .inl (E.2.1, 3, .inl bk)), (uO, .inl (E.2.1, 16, .inl (fun w9 => nI (ow w9)))), (uG, .inl (E.2.1, 16, .inl gf)), (uR, .inl (E.2.1, 16, .inl gc)), (uK, .inl (E.2.1, 16, .inl ak)), (uT, .inl (E.2.1, 16, .inl ((mRd gf gc ak x n s9.2 k).2))), (uP, .inl (E.2.1, 3, .inl rp))] H → va_D A [(qM, .inr (4, [.ref uF, .int (nI nf), .ref uS, .ref uW, .int (nI sp), .ref uB, .int (nI n), .ref uO, .ref uG, .ref uR, .ref uK, .ref uT, .int cl, .ref uP, .int th])), (uF, .inl (E.2.2.1, 6, .inl (fun w9 => zI (fb w9)))), (uS, .inl (E.2.1, 14, .inl (fun w9 => nI (src w9)))), (uW, .inl (E.2.2.1, 14, .inl (fun w9 => zI (wb w9)))), (uB, .inl (E.2.1, 3, .inl bk)), (uO, .inl (E.2.1, 16, .inl (fun w9 => nI (ow w9)))), (uG, .inl (E.2.1, 16, .inl gf)), (uR, .inl (E.2.1, 16, .inl gc)), (uK, .inl (E.2.1, 16, .inl ak)), (uT, .inl (E.2.1, 16, .inl ((mRd gf gc ak x n s9.2 k).2))), (uP, .inl (E.2.1, 3, .inl rp))] → va_S A s.heap H locs → ∀ (ls : Array Slot), lv_has ls 5 [(0, .ref qM), (1, .int x), (2, .int (zI ((mRd gf gc ak x n s9.2 k).1))), (3, .int (nI k))] → W p l e (headSpec wsX4_decides ({ frames := 1, cells := 0, slots := 0, locals := 26 })).room s m ([.ref qM, .int x] : List Value).toArray below meth c H locs 0 0 (MQ below (va_Qv (fun (_ : Unit) => True) (fun _ => eW E A [(qM, .inr (4, [.ref uF, .int (nI nf), .ref uS, .ref uW, .int (nI sp), .ref uB, .int (nI n), .ref uO, .ref uG, .ref uR, .ref uK, .ref uT, .int cl, .ref uP, .int th])), (uF, .inl (E.2.2.1, 6, .inl (fun w9 => zI (fb w9)))), (uS, .inl (E.2.1, 14, .inl (fun w9 => nI (src w9)))), (uW, .inl (E.2.2.1, 14, .inl (fun w9 => zI (wb w9)))), (uB, .inl (E.2.1, 3, .inl bk)), (uO, .inl (E.2.1, 16, .inl (fun w9 => nI (ow w9)))), (uG, .inl (E.2.1, 16, .inl gf)), (uR, .inl (E.2.1, 16, .inl gc)), (uK, .inl (E.2.1, 16, .inl ak)), (uT, .inl (E.2.1, 16, .inl ((mJ gf gc ak x n st).2))), (uP, .inl (E.2.1, 3, .inl rp))]) A) ([.ref qM, .int x] : List Value).toArray s 0 0 A) (F0 m 33 ls []) := by
                intro z33
                induction z33 with
                | zero =>
                  intro k hk33 hz33
                  exact absurd hz33 (by omega)
                | succ z33 ih33 =>
                  intro k hk33 hz33  H locs hP hD hS ls hl
                  refine lv_iload_n hx hb dX4_decides_33 rfl (lv_at hl 3 rfl) ?_
                  refine lv_aload_n hx hb dX4_decides_34 rfl (lv_at hl 0 rfl) ?_
                  refine va_get (D := E.1) (ci := 4) (v := .int (nI n)) (C := RX4) (T := TX4) (N := 15) hx hb hts (fun _ h => List.mem_cons_of_mem _ (List.mem_append_right _ h)) hown hK.1 hP 0 rfl rfl 6 (by decide) (hts (.fieldLink RX4 52 "QuarrelboardModel" "claims" "I") (List.mem_of_getElem? (i := 1) rfl)) (fun _ h9 => h9) rfl dX4_decides_35 ?_
                  refine lv_icmp_ge (tgt := 173) hx hb dX4_decides_38 (by decide) (fun c_38 => ?_) (fun c_38 => ?_)
                  · have c_38 : nI n ≤ nI k := c_38
                    have c_38 := (nI_leI (a := n) (b := k) (by omega) (by omega)).mp c_38
                    refine lv_goto (tgt := 25) hx hb dX4_decides_173 (by decide) ?_
                    have hlt9 := ho9 c_26
                    have hl : lv_has ls 5 [(0, .ref qM), (1, .int x), (2, .int (zI (mRd gf gc ak x n s9.2 k).1))] := by exact lv_sub hl [0, 1, 2] rfl
                    have hP : va_P E.1 vwCl [(qM, .inr (4, [.ref uF, .int (nI nf), .ref uS, .ref uW, .int (nI sp), .ref uB, .int (nI n), .ref uO, .ref uG, .ref uR, .ref uK, .ref uT, .int cl, .ref uP, .int th])), (uF, .inl (E.2.2.1, 6, .inl (fun w9 => zI (fb w9)))), (uS, .inl (E.2.1, 14, .inl (fun w9 => nI (src w9)))), (uW, .inl (E.2.2.1, 14, .inl (fun w9 => zI (wb w9)))), (uB, .inl (E.2.1, 3, .inl bk)), (uO, .inl (E.2.1, 16, .inl (fun w9 => nI (ow w9)))), (uG, .inl (E.2.1, 16, .inl gf)), (uR, .inl (E.2.1, 16, .inl gc)), (uK, .inl (E.2.1, 16, .inl ak)), (uT, .inl (E.2.1, 16, .inl ((mRd gf gc ak x n s9.2 k).2))), (uP, .inl (E.2.1, 3, .inl rp))] H := by exact hP
                    have hD : va_D A [(qM, .inr (4, [.ref uF, .int (nI nf), .ref uS, .ref uW, .int (nI sp), .ref uB, .int (nI n), .ref uO, .ref uG, .ref uR, .ref uK, .ref uT, .int cl, .ref uP, .int th])), (uF, .inl (E.2.2.1, 6, .inl (fun w9 => zI (fb w9)))), (uS, .inl (E.2.1, 14, .inl (fun w9 => nI (src w9)))), (uW, .inl (E.2.2.1, 14, .inl (fun w9 => zI (wb w9)))), (uB, .inl (E.2.1, 3, .inl bk)), (uO, .inl (E.2.1, 16, .inl (fun w9 => nI (ow w9)))), (uG, .inl (E.2.1, 16, .inl gf)), (uR, .inl (E.2.1, 16, .inl gc)), (uK, .inl (E.2.1, 16, .inl ak)), (uT, .inl (E.2.1, 16, .inl ((mRd gf gc ak x n s9.2 k).2))), (uP, .inl (E.2.1, 3, .inl rp))] := by exact hD
                    exact ih25 (h + 1) (by omega) (by omega) (mRd gf gc ak x n s9.2 k) (by rw [show k = n from by omega, ← mL_go c_26 (by omega)]; exact hj) (fun hc9 => by have h8 := mRd_dec (gf := gf) (gc := gc) (ak := ak) (S := x) s9.2 k (show k ≤ n by omega); rw [if_pos hc9] at h8; omega) _ _ hP hD hS ls hl
                  · have c_38 : ¬ (nI n ≤ nI k) := c_38
                    have c_38 : ¬ (n ≤ k) := fun h9 => c_38 ((nI_leI (a := n) (b := k) (by omega) (by omega)).mpr h9)
                    refine lv_aload_n hx hb dX4_decides_41 rfl (lv_at hl 0 rfl) ?_
                    refine va_get (D := E.1) (ci := 4) (v := .ref uG) (C := RX4) (T := TX4) (N := 15) hx hb hts (fun _ h => List.mem_cons_of_mem _ (List.mem_append_right _ h)) hown hK.1 hP 0 rfl rfl 8 (by decide) (hts (.fieldLink RX4 26 "QuarrelboardModel" "basis" "[I") (List.mem_of_getElem? (i := 3) rfl)) (fun _ h9 => h9) rfl dX4_decides_42 ?_
                    refine lv_iload_n hx hb dX4_decides_45 rfl (lv_at hl 3 rfl) ?_
                    refine k_iald hx hb hK hP 6 (f := gf) k rfl (by omega) (by decide) dX4_decides_46 ?_
                    refine lv_iload_n hx hb dX4_decides_47 rfl (lv_at hl 1 rfl) ?_
                    refine lv_iconst (v := (-1)) hx hb dX4_decides_48 (by decide) ?_
                    refine lv_ixor hx hb dX4_decides_49 ?_
                    refine lv_iand hx hb dX4_decides_50 ?_
                    refine lv_if_ne (tgt := 58) hx hb dX4_decides_51 (by decide) (fun c_51 => ?_) (fun c_51 => ?_)
                    · skip
                      refine lv_iconst (v := 0) hx hb dX4_decides_58 (by decide) ?_
                      refine lv_istore (lv' := [(4, .int 0), (0, .ref qM), (1, .int x), (2, .int (zI ((mRd gf gc ak x n s9.2 k).1))), (3, .int (nI k))]) hx hb dX4_decides_59 hl (by decide) rfl (fun ls hl => ?_)
                      refine lv_aload_n hx hb dX4_decides_61 rfl (lv_at hl 1 rfl) ?_
                      refine va_get (D := E.1) (ci := 4) (v := .ref uT) (C := RX4) (T := TX4) (N := 15) hx hb hts (fun _ h => List.mem_cons_of_mem _ (List.mem_append_right _ h)) hown hK.1 hP 0 rfl rfl 11 (by decide) (hts (.fieldLink RX4 35 "QuarrelboardModel" "states" "[I") (List.mem_of_getElem? (i := 2) rfl)) (fun _ h9 => h9) rfl dX4_decides_62 ?_
                      refine lv_iload_n hx hb dX4_decides_65 rfl (lv_at hl 4 rfl) ?_
                      refine k_iald hx hb hK hP 9 (f := ((mRd gf gc ak x n s9.2 k).2)) k rfl (by omega) (by decide) dX4_decides_66 ?_
                      refine lv_if_ne (tgt := 114) hx hb dX4_decides_67 (by decide) (fun c_67 => ?_) (fun c_67 => ?_)
                      · skip
                        refine lv_aload_n hx hb dX4_decides_114 rfl (lv_at hl 1 rfl) ?_
                        refine va_get (D := E.1) (ci := 4) (v := .ref uT) (C := RX4) (T := TX4) (N := 15) hx hb hts (fun _ h => List.mem_cons_of_mem _ (List.mem_append_right _ h)) hown hK.1 hP 0 rfl rfl 11 (by decide) (hts (.fieldLink RX4 35 "QuarrelboardModel" "states" "[I") (List.mem_of_getElem? (i := 2) rfl)) (fun _ h9 => h9) rfl dX4_decides_115 ?_
                        refine lv_iload_n hx hb dX4_decides_118 rfl (lv_at hl 4 rfl) ?_
                        refine k_iald hx hb hK hP 9 (f := ((mRd gf gc ak x n s9.2 k).2)) k rfl (by omega) (by decide) dX4_decides_119 ?_
                        refine lv_if_ne (tgt := 167) hx hb dX4_decides_120 (by decide) (fun c_120 => ?_) (fun c_120 => ?_)
                        · skip
                          refine lv_iinc (v := nI (k + 1)) (lv' := [(3, .int (nI (k + 1))), (4, .int 0), (0, .ref qM), (1, .int x), (2, .int (zI ((mRd gf gc ak x n s9.2 k).1)))]) hx hb dX4_decides_167 hl (k := 4) rfl (nI_1 _) (by decide) rfl (fun ls hl => ?_)
                          refine lv_goto (tgt := 33) hx hb dX4_decides_170 (by decide) ?_
                          have hI9 : mI gf gc ak x n (mRd gf gc ak x n s9.2 k).2 k = false := by unfold mI; rw [decide_eq_false c_67]; rfl
                          have hO9 : mO gf gc ak x n (mRd gf gc ak x n s9.2 k).2 k = false := by unfold mO; rw [decide_eq_false c_120]; rfl
                          have hE9 := mRd_n hI9 hO9
                          have hl : lv_has ls 5 [(0, .ref qM), (1, .int x), (2, .int (zI ((mRd gf gc ak x n s9.2 (k + 1)).1))), (3, .int (nI (k + 1)))] := by rw [hE9]; exact lv_sub hl [2, 3, 4, 0] rfl
                          have hP : va_P E.1 vwCl [(qM, .inr (4, [.ref uF, .int (nI nf), .ref uS, .ref uW, .int (nI sp), .ref uB, .int (nI n), .ref uO, .ref uG, .ref uR, .ref uK, .ref uT, .int cl, .ref uP, .int th])), (uF, .inl (E.2.2.1, 6, .inl (fun w9 => zI (fb w9)))), (uS, .inl (E.2.1, 14, .inl (fun w9 => nI (src w9)))), (uW, .inl (E.2.2.1, 14, .inl (fun w9 => zI (wb w9)))), (uB, .inl (E.2.1, 3, .inl bk)), (uO, .inl (E.2.1, 16, .inl (fun w9 => nI (ow w9)))), (uG, .inl (E.2.1, 16, .inl gf)), (uR, .inl (E.2.1, 16, .inl gc)), (uK, .inl (E.2.1, 16, .inl ak)), (uT, .inl (E.2.1, 16, .inl ((mRd gf gc ak x n s9.2 (k + 1)).2))), (uP, .inl (E.2.1, 3, .inl rp))] H := by rw [hE9]; exact hP
                          have hD : va_D A [(qM, .inr (4, [.ref uF, .int (nI nf), .ref uS, .ref uW, .int (nI sp), .ref uB, .int (nI n), .ref uO, .ref uG, .ref uR, .ref uK, .ref uT, .int cl, .ref uP, .int th])), (uF, .inl (E.2.2.1, 6, .inl (fun w9 => zI (fb w9)))), (uS, .inl (E.2.1, 14, .inl (fun w9 => nI (src w9)))), (uW, .inl (E.2.2.1, 14, .inl (fun w9 => zI (wb w9)))), (uB, .inl (E.2.1, 3, .inl bk)), (uO, .inl (E.2.1, 16, .inl (fun w9 => nI (ow w9)))), (uG, .inl (E.2.1, 16, .inl gf)), (uR, .inl (E.2.1, 16, .inl gc)), (uK, .inl (E.2.1, 16, .inl ak)), (uT, .inl (E.2.1, 16, .inl ((mRd gf gc ak x n s9.2 (k + 1)).2))), (uP, .inl (E.2.1, 3, .inl rp))] := by rw [hE9]; exact hD
                          exact ih33 (k + 1) (by omega) (by omega)  _ _ hP hD hS ls hl
                        · skip
                          refine lv_iload hx hb dX4_decides_123 (lv_at hl 0 rfl) ?_
                          refine lv_if_eq (tgt := 158) hx hb dX4_decides_125 (by decide) (fun c_125 => ?_) (fun c_125 => ?_)
                          · skip
                            refine lv_aload_n hx hb dX4_decides_158 rfl (lv_at hl 1 rfl) ?_
                            refine va_get (D := E.1) (ci := 4) (v := .ref uT) (C := RX4) (T := TX4) (N := 15) hx hb hts (fun _ h => List.mem_cons_of_mem _ (List.mem_append_right _ h)) hown hK.1 hP 0 rfl rfl 11 (by decide) (hts (.fieldLink RX4 35 "QuarrelboardModel" "states" "[I") (List.mem_of_getElem? (i := 2) rfl)) (fun _ h9 => h9) rfl dX4_decides_159 ?_
                            refine lv_iload_n hx hb dX4_decides_162 rfl (lv_at hl 4 rfl) ?_
                            refine lv_iconst (v := 2) hx hb dX4_decides_163 (by decide) ?_
                            refine k_iast hx hb hK hP hD hS 9 (f := ((mRd gf gc ak x n s9.2 k).2)) k (x := 2) rfl (by omega) (by decide) dX4_decides_164 (fun H locs hP hD hS => ?_)
                            have hP : va_P E.1 vwCl [(qM, .inr (4, [.ref uF, .int (nI nf), .ref uS, .ref uW, .int (nI sp), .ref uB, .int (nI n), .ref uO, .ref uG, .ref uR, .ref uK, .ref uT, .int cl, .ref uP, .int th])), (uF, .inl (E.2.2.1, 6, .inl (fun w9 => zI (fb w9)))), (uS, .inl (E.2.1, 14, .inl (fun w9 => nI (src w9)))), (uW, .inl (E.2.2.1, 14, .inl (fun w9 => zI (wb w9)))), (uB, .inl (E.2.1, 3, .inl bk)), (uO, .inl (E.2.1, 16, .inl (fun w9 => nI (ow w9)))), (uG, .inl (E.2.1, 16, .inl gf)), (uR, .inl (E.2.1, 16, .inl gc)), (uK, .inl (E.2.1, 16, .inl ak)), (uT, .inl (E.2.1, 16, .inl (upd ((mRd gf gc ak x n s9.2 k).2) k 2))), (uP, .inl (E.2.1, 3, .inl rp))] H := hP
                            have hD : va_D A [(qM, .inr (4, [.ref uF, .int (nI nf), .ref uS, .ref uW, .int (nI sp), .ref uB, .int (nI n), .ref uO, .ref uG, .ref uR, .ref uK, .ref uT, .int cl, .ref uP, .int th])), (uF, .inl (E.2.2.1, 6, .inl (fun w9 => zI (fb w9)))), (uS, .inl (E.2.1, 14, .inl (fun w9 => nI (src w9)))), (uW, .inl (E.2.2.1, 14, .inl (fun w9 => zI (wb w9)))), (uB, .inl (E.2.1, 3, .inl bk)), (uO, .inl (E.2.1, 16, .inl (fun w9 => nI (ow w9)))), (uG, .inl (E.2.1, 16, .inl gf)), (uR, .inl (E.2.1, 16, .inl gc)), (uK, .inl (E.2.1, 16, .inl ak)), (uT, .inl (E.2.1, 16, .inl (upd ((mRd gf gc ak x n s9.2 k).2) k 2))), (uP, .inl (E.2.1, 3, .inl rp))] := hD
                            refine lv_iconst (v := 1) hx hb dX4_decides_165 (by decide) ?_
                            refine lv_istore_n (lv' := [(2, .int 1), (4, .int 0), (0, .ref qM), (1, .int x), (3, .int (nI k))]) hx hb dX4_decides_166 rfl hl (by decide) rfl (fun ls hl => ?_)
                            refine lv_iinc (v := nI (k + 1)) (lv' := [(3, .int (nI (k + 1))), (2, .int 1), (4, .int 0), (0, .ref qM), (1, .int x)]) hx hb dX4_decides_167 hl (k := 4) rfl (nI_1 _) (by decide) rfl (fun ls hl => ?_)
                            refine lv_goto (tgt := 33) hx hb dX4_decides_170 (by decide) ?_
                            have hI9 : mI gf gc ak x n (mRd gf gc ak x n s9.2 k).2 k = false := by unfold mI; rw [decide_eq_false c_67]; rfl
                            have hO9 : mO gf gc ak x n (mRd gf gc ak x n s9.2 k).2 k = true := by unfold mO; rw [decide_eq_true c_120, decide_eq_false c_51]; rfl
                            have hE9 := mRd_o hI9 hO9
                            have hl : lv_has ls 5 [(0, .ref qM), (1, .int x), (2, .int (zI ((mRd gf gc ak x n s9.2 (k + 1)).1))), (3, .int (nI (k + 1)))] := by rw [hE9]; exact lv_sub hl [3, 4, 1, 0] rfl
                            have hP : va_P E.1 vwCl [(qM, .inr (4, [.ref uF, .int (nI nf), .ref uS, .ref uW, .int (nI sp), .ref uB, .int (nI n), .ref uO, .ref uG, .ref uR, .ref uK, .ref uT, .int cl, .ref uP, .int th])), (uF, .inl (E.2.2.1, 6, .inl (fun w9 => zI (fb w9)))), (uS, .inl (E.2.1, 14, .inl (fun w9 => nI (src w9)))), (uW, .inl (E.2.2.1, 14, .inl (fun w9 => zI (wb w9)))), (uB, .inl (E.2.1, 3, .inl bk)), (uO, .inl (E.2.1, 16, .inl (fun w9 => nI (ow w9)))), (uG, .inl (E.2.1, 16, .inl gf)), (uR, .inl (E.2.1, 16, .inl gc)), (uK, .inl (E.2.1, 16, .inl ak)), (uT, .inl (E.2.1, 16, .inl ((mRd gf gc ak x n s9.2 (k + 1)).2))), (uP, .inl (E.2.1, 3, .inl rp))] H := by rw [hE9]; exact hP
                            have hD : va_D A [(qM, .inr (4, [.ref uF, .int (nI nf), .ref uS, .ref uW, .int (nI sp), .ref uB, .int (nI n), .ref uO, .ref uG, .ref uR, .ref uK, .ref uT, .int cl, .ref uP, .int th])), (uF, .inl (E.2.2.1, 6, .inl (fun w9 => zI (fb w9)))), (uS, .inl (E.2.1, 14, .inl (fun w9 => nI (src w9)))), (uW, .inl (E.2.2.1, 14, .inl (fun w9 => zI (wb w9)))), (uB, .inl (E.2.1, 3, .inl bk)), (uO, .inl (E.2.1, 16, .inl (fun w9 => nI (ow w9)))), (uG, .inl (E.2.1, 16, .inl gf)), (uR, .inl (E.2.1, 16, .inl gc)), (uK, .inl (E.2.1, 16, .inl ak)), (uT, .inl (E.2.1, 16, .inl ((mRd gf gc ak x n s9.2 (k + 1)).2))), (uP, .inl (E.2.1, 3, .inl rp))] := by rw [hE9]; exact hD
                            exact ih33 (k + 1) (by omega) (by omega)  _ _ hP hD hS ls hl
                          · skip
                            exact absurd rfl c_125
                      · skip
                        refine lv_iload hx hb dX4_decides_70 (lv_at hl 0 rfl) ?_
                        refine lv_if_eq (tgt := 114) hx hb dX4_decides_72 (by decide) (fun c_72 => ?_) (fun c_72 => ?_)
                        · skip
                          refine lv_aload_n hx hb dX4_decides_114 rfl (lv_at hl 1 rfl) ?_
                          refine va_get (D := E.1) (ci := 4) (v := .ref uT) (C := RX4) (T := TX4) (N := 15) hx hb hts (fun _ h => List.mem_cons_of_mem _ (List.mem_append_right _ h)) hown hK.1 hP 0 rfl rfl 11 (by decide) (hts (.fieldLink RX4 35 "QuarrelboardModel" "states" "[I") (List.mem_of_getElem? (i := 2) rfl)) (fun _ h9 => h9) rfl dX4_decides_115 ?_
                          refine lv_iload_n hx hb dX4_decides_118 rfl (lv_at hl 4 rfl) ?_
                          refine k_iald hx hb hK hP 9 (f := ((mRd gf gc ak x n s9.2 k).2)) k rfl (by omega) (by decide) dX4_decides_119 ?_
                          refine lv_if_ne (tgt := 167) hx hb dX4_decides_120 (by decide) (fun c_120 => ?_) (fun c_120 => ?_)
                          · skip
                            refine lv_iinc (v := nI (k + 1)) (lv' := [(3, .int (nI (k + 1))), (4, .int 0), (0, .ref qM), (1, .int x), (2, .int (zI ((mRd gf gc ak x n s9.2 k).1)))]) hx hb dX4_decides_167 hl (k := 4) rfl (nI_1 _) (by decide) rfl (fun ls hl => ?_)
                            refine lv_goto (tgt := 33) hx hb dX4_decides_170 (by decide) ?_
                            have hI9 : mI gf gc ak x n (mRd gf gc ak x n s9.2 k).2 k = false := by unfold mI; rw [decide_eq_false c_51, Bool.false_and, Bool.and_false]
                            have hO9 : mO gf gc ak x n (mRd gf gc ak x n s9.2 k).2 k = false := by unfold mO; rw [decide_eq_false c_120]; rfl
                            have hE9 := mRd_n hI9 hO9
                            have hl : lv_has ls 5 [(0, .ref qM), (1, .int x), (2, .int (zI ((mRd gf gc ak x n s9.2 (k + 1)).1))), (3, .int (nI (k + 1)))] := by rw [hE9]; exact lv_sub hl [2, 3, 4, 0] rfl
                            have hP : va_P E.1 vwCl [(qM, .inr (4, [.ref uF, .int (nI nf), .ref uS, .ref uW, .int (nI sp), .ref uB, .int (nI n), .ref uO, .ref uG, .ref uR, .ref uK, .ref uT, .int cl, .ref uP, .int th])), (uF, .inl (E.2.2.1, 6, .inl (fun w9 => zI (fb w9)))), (uS, .inl (E.2.1, 14, .inl (fun w9 => nI (src w9)))), (uW, .inl (E.2.2.1, 14, .inl (fun w9 => zI (wb w9)))), (uB, .inl (E.2.1, 3, .inl bk)), (uO, .inl (E.2.1, 16, .inl (fun w9 => nI (ow w9)))), (uG, .inl (E.2.1, 16, .inl gf)), (uR, .inl (E.2.1, 16, .inl gc)), (uK, .inl (E.2.1, 16, .inl ak)), (uT, .inl (E.2.1, 16, .inl ((mRd gf gc ak x n s9.2 (k + 1)).2))), (uP, .inl (E.2.1, 3, .inl rp))] H := by rw [hE9]; exact hP
                            have hD : va_D A [(qM, .inr (4, [.ref uF, .int (nI nf), .ref uS, .ref uW, .int (nI sp), .ref uB, .int (nI n), .ref uO, .ref uG, .ref uR, .ref uK, .ref uT, .int cl, .ref uP, .int th])), (uF, .inl (E.2.2.1, 6, .inl (fun w9 => zI (fb w9)))), (uS, .inl (E.2.1, 14, .inl (fun w9 => nI (src w9)))), (uW, .inl (E.2.2.1, 14, .inl (fun w9 => zI (wb w9)))), (uB, .inl (E.2.1, 3, .inl bk)), (uO, .inl (E.2.1, 16, .inl (fun w9 => nI (ow w9)))), (uG, .inl (E.2.1, 16, .inl gf)), (uR, .inl (E.2.1, 16, .inl gc)), (uK, .inl (E.2.1, 16, .inl ak)), (uT, .inl (E.2.1, 16, .inl ((mRd gf gc ak x n s9.2 (k + 1)).2))), (uP, .inl (E.2.1, 3, .inl rp))] := by rw [hE9]; exact hD
                            exact ih33 (k + 1) (by omega) (by omega)  _ _ hP hD hS ls hl
                          · skip
                            refine lv_iload hx hb dX4_decides_123 (lv_at hl 0 rfl) ?_
                            refine lv_if_eq (tgt := 158) hx hb dX4_decides_125 (by decide) (fun c_125 => ?_) (fun c_125 => ?_)
                            · skip
                              refine lv_aload_n hx hb dX4_decides_158 rfl (lv_at hl 1 rfl) ?_
                              refine va_get (D := E.1) (ci := 4) (v := .ref uT) (C := RX4) (T := TX4) (N := 15) hx hb hts (fun _ h => List.mem_cons_of_mem _ (List.mem_append_right _ h)) hown hK.1 hP 0 rfl rfl 11 (by decide) (hts (.fieldLink RX4 35 "QuarrelboardModel" "states" "[I") (List.mem_of_getElem? (i := 2) rfl)) (fun _ h9 => h9) rfl dX4_decides_159 ?_
                              refine lv_iload_n hx hb dX4_decides_162 rfl (lv_at hl 4 rfl) ?_
                              refine lv_iconst (v := 2) hx hb dX4_decides_163 (by decide) ?_
                              refine k_iast hx hb hK hP hD hS 9 (f := ((mRd gf gc ak x n s9.2 k).2)) k (x := 2) rfl (by omega) (by decide) dX4_decides_164 (fun H locs hP hD hS => ?_)
                              have hP : va_P E.1 vwCl [(qM, .inr (4, [.ref uF, .int (nI nf), .ref uS, .ref uW, .int (nI sp), .ref uB, .int (nI n), .ref uO, .ref uG, .ref uR, .ref uK, .ref uT, .int cl, .ref uP, .int th])), (uF, .inl (E.2.2.1, 6, .inl (fun w9 => zI (fb w9)))), (uS, .inl (E.2.1, 14, .inl (fun w9 => nI (src w9)))), (uW, .inl (E.2.2.1, 14, .inl (fun w9 => zI (wb w9)))), (uB, .inl (E.2.1, 3, .inl bk)), (uO, .inl (E.2.1, 16, .inl (fun w9 => nI (ow w9)))), (uG, .inl (E.2.1, 16, .inl gf)), (uR, .inl (E.2.1, 16, .inl gc)), (uK, .inl (E.2.1, 16, .inl ak)), (uT, .inl (E.2.1, 16, .inl (upd ((mRd gf gc ak x n s9.2 k).2) k 2))), (uP, .inl (E.2.1, 3, .inl rp))] H := hP
                              have hD : va_D A [(qM, .inr (4, [.ref uF, .int (nI nf), .ref uS, .ref uW, .int (nI sp), .ref uB, .int (nI n), .ref uO, .ref uG, .ref uR, .ref uK, .ref uT, .int cl, .ref uP, .int th])), (uF, .inl (E.2.2.1, 6, .inl (fun w9 => zI (fb w9)))), (uS, .inl (E.2.1, 14, .inl (fun w9 => nI (src w9)))), (uW, .inl (E.2.2.1, 14, .inl (fun w9 => zI (wb w9)))), (uB, .inl (E.2.1, 3, .inl bk)), (uO, .inl (E.2.1, 16, .inl (fun w9 => nI (ow w9)))), (uG, .inl (E.2.1, 16, .inl gf)), (uR, .inl (E.2.1, 16, .inl gc)), (uK, .inl (E.2.1, 16, .inl ak)), (uT, .inl (E.2.1, 16, .inl (upd ((mRd gf gc ak x n s9.2 k).2) k 2))), (uP, .inl (E.2.1, 3, .inl rp))] := hD
                              refine lv_iconst (v := 1) hx hb dX4_decides_165 (by decide) ?_
                              refine lv_istore_n (lv' := [(2, .int 1), (4, .int 0), (0, .ref qM), (1, .int x), (3, .int (nI k))]) hx hb dX4_decides_166 rfl hl (by decide) rfl (fun ls hl => ?_)
                              refine lv_iinc (v := nI (k + 1)) (lv' := [(3, .int (nI (k + 1))), (2, .int 1), (4, .int 0), (0, .ref qM), (1, .int x)]) hx hb dX4_decides_167 hl (k := 4) rfl (nI_1 _) (by decide) rfl (fun ls hl => ?_)
                              refine lv_goto (tgt := 33) hx hb dX4_decides_170 (by decide) ?_
                              have hI9 : mI gf gc ak x n (mRd gf gc ak x n s9.2 k).2 k = false := by unfold mI; rw [decide_eq_false c_51, Bool.false_and, Bool.and_false]
                              have hO9 : mO gf gc ak x n (mRd gf gc ak x n s9.2 k).2 k = true := by unfold mO; rw [decide_eq_true c_120, decide_eq_false c_51]; rfl
                              have hE9 := mRd_o hI9 hO9
                              have hl : lv_has ls 5 [(0, .ref qM), (1, .int x), (2, .int (zI ((mRd gf gc ak x n s9.2 (k + 1)).1))), (3, .int (nI (k + 1)))] := by rw [hE9]; exact lv_sub hl [3, 4, 1, 0] rfl
                              have hP : va_P E.1 vwCl [(qM, .inr (4, [.ref uF, .int (nI nf), .ref uS, .ref uW, .int (nI sp), .ref uB, .int (nI n), .ref uO, .ref uG, .ref uR, .ref uK, .ref uT, .int cl, .ref uP, .int th])), (uF, .inl (E.2.2.1, 6, .inl (fun w9 => zI (fb w9)))), (uS, .inl (E.2.1, 14, .inl (fun w9 => nI (src w9)))), (uW, .inl (E.2.2.1, 14, .inl (fun w9 => zI (wb w9)))), (uB, .inl (E.2.1, 3, .inl bk)), (uO, .inl (E.2.1, 16, .inl (fun w9 => nI (ow w9)))), (uG, .inl (E.2.1, 16, .inl gf)), (uR, .inl (E.2.1, 16, .inl gc)), (uK, .inl (E.2.1, 16, .inl ak)), (uT, .inl (E.2.1, 16, .inl ((mRd gf gc ak x n s9.2 (k + 1)).2))), (uP, .inl (E.2.1, 3, .inl rp))] H := by rw [hE9]; exact hP
                              have hD : va_D A [(qM, .inr (4, [.ref uF, .int (nI nf), .ref uS, .ref uW, .int (nI sp), .ref uB, .int (nI n), .ref uO, .ref uG, .ref uR, .ref uK, .ref uT, .int cl, .ref uP, .int th])), (uF, .inl (E.2.2.1, 6, .inl (fun w9 => zI (fb w9)))), (uS, .inl (E.2.1, 14, .inl (fun w9 => nI (src w9)))), (uW, .inl (E.2.2.1, 14, .inl (fun w9 => zI (wb w9)))), (uB, .inl (E.2.1, 3, .inl bk)), (uO, .inl (E.2.1, 16, .inl (fun w9 => nI (ow w9)))), (uG, .inl (E.2.1, 16, .inl gf)), (uR, .inl (E.2.1, 16, .inl gc)), (uK, .inl (E.2.1, 16, .inl ak)), (uT, .inl (E.2.1, 16, .inl ((mRd gf gc ak x n s9.2 (k + 1)).2))), (uP, .inl (E.2.1, 3, .inl rp))] := by rw [hE9]; exact hD
                              exact ih33 (k + 1) (by omega) (by omega)  _ _ hP hD hS ls hl
                            · skip
                              exact absurd rfl c_125
                        · skip
                          exact absurd rfl c_72
                    · skip
                      refine lv_iconst (v := 1) hx hb dX4_decides_54 (by decide) ?_
                      refine lv_goto (tgt := 59) hx hb dX4_decides_55 (by decide) ?_
                      refine lv_istore (lv' := [(4, .int 1), (0, .ref qM), (1, .int x), (2, .int (zI ((mRd gf gc ak x n s9.2 k).1))), (3, .int (nI k))]) hx hb dX4_decides_59 hl (by decide) rfl (fun ls hl => ?_)
                      refine lv_aload_n hx hb dX4_decides_61 rfl (lv_at hl 1 rfl) ?_
                      refine va_get (D := E.1) (ci := 4) (v := .ref uT) (C := RX4) (T := TX4) (N := 15) hx hb hts (fun _ h => List.mem_cons_of_mem _ (List.mem_append_right _ h)) hown hK.1 hP 0 rfl rfl 11 (by decide) (hts (.fieldLink RX4 35 "QuarrelboardModel" "states" "[I") (List.mem_of_getElem? (i := 2) rfl)) (fun _ h9 => h9) rfl dX4_decides_62 ?_
                      refine lv_iload_n hx hb dX4_decides_65 rfl (lv_at hl 4 rfl) ?_
                      refine k_iald hx hb hK hP 9 (f := ((mRd gf gc ak x n s9.2 k).2)) k rfl (by omega) (by decide) dX4_decides_66 ?_
                      refine lv_if_ne (tgt := 114) hx hb dX4_decides_67 (by decide) (fun c_67 => ?_) (fun c_67 => ?_)
                      · skip
                        refine lv_aload_n hx hb dX4_decides_114 rfl (lv_at hl 1 rfl) ?_
                        refine va_get (D := E.1) (ci := 4) (v := .ref uT) (C := RX4) (T := TX4) (N := 15) hx hb hts (fun _ h => List.mem_cons_of_mem _ (List.mem_append_right _ h)) hown hK.1 hP 0 rfl rfl 11 (by decide) (hts (.fieldLink RX4 35 "QuarrelboardModel" "states" "[I") (List.mem_of_getElem? (i := 2) rfl)) (fun _ h9 => h9) rfl dX4_decides_115 ?_
                        refine lv_iload_n hx hb dX4_decides_118 rfl (lv_at hl 4 rfl) ?_
                        refine k_iald hx hb hK hP 9 (f := ((mRd gf gc ak x n s9.2 k).2)) k rfl (by omega) (by decide) dX4_decides_119 ?_
                        refine lv_if_ne (tgt := 167) hx hb dX4_decides_120 (by decide) (fun c_120 => ?_) (fun c_120 => ?_)
                        · skip
                          refine lv_iinc (v := nI (k + 1)) (lv' := [(3, .int (nI (k + 1))), (4, .int 1), (0, .ref qM), (1, .int x), (2, .int (zI ((mRd gf gc ak x n s9.2 k).1)))]) hx hb dX4_decides_167 hl (k := 4) rfl (nI_1 _) (by decide) rfl (fun ls hl => ?_)
                          refine lv_goto (tgt := 33) hx hb dX4_decides_170 (by decide) ?_
                          have hI9 : mI gf gc ak x n (mRd gf gc ak x n s9.2 k).2 k = false := by unfold mI; rw [decide_eq_false c_67]; rfl
                          have hO9 : mO gf gc ak x n (mRd gf gc ak x n s9.2 k).2 k = false := by unfold mO; rw [decide_eq_false c_120]; rfl
                          have hE9 := mRd_n hI9 hO9
                          have hl : lv_has ls 5 [(0, .ref qM), (1, .int x), (2, .int (zI ((mRd gf gc ak x n s9.2 (k + 1)).1))), (3, .int (nI (k + 1)))] := by rw [hE9]; exact lv_sub hl [2, 3, 4, 0] rfl
                          have hP : va_P E.1 vwCl [(qM, .inr (4, [.ref uF, .int (nI nf), .ref uS, .ref uW, .int (nI sp), .ref uB, .int (nI n), .ref uO, .ref uG, .ref uR, .ref uK, .ref uT, .int cl, .ref uP, .int th])), (uF, .inl (E.2.2.1, 6, .inl (fun w9 => zI (fb w9)))), (uS, .inl (E.2.1, 14, .inl (fun w9 => nI (src w9)))), (uW, .inl (E.2.2.1, 14, .inl (fun w9 => zI (wb w9)))), (uB, .inl (E.2.1, 3, .inl bk)), (uO, .inl (E.2.1, 16, .inl (fun w9 => nI (ow w9)))), (uG, .inl (E.2.1, 16, .inl gf)), (uR, .inl (E.2.1, 16, .inl gc)), (uK, .inl (E.2.1, 16, .inl ak)), (uT, .inl (E.2.1, 16, .inl ((mRd gf gc ak x n s9.2 (k + 1)).2))), (uP, .inl (E.2.1, 3, .inl rp))] H := by rw [hE9]; exact hP
                          have hD : va_D A [(qM, .inr (4, [.ref uF, .int (nI nf), .ref uS, .ref uW, .int (nI sp), .ref uB, .int (nI n), .ref uO, .ref uG, .ref uR, .ref uK, .ref uT, .int cl, .ref uP, .int th])), (uF, .inl (E.2.2.1, 6, .inl (fun w9 => zI (fb w9)))), (uS, .inl (E.2.1, 14, .inl (fun w9 => nI (src w9)))), (uW, .inl (E.2.2.1, 14, .inl (fun w9 => zI (wb w9)))), (uB, .inl (E.2.1, 3, .inl bk)), (uO, .inl (E.2.1, 16, .inl (fun w9 => nI (ow w9)))), (uG, .inl (E.2.1, 16, .inl gf)), (uR, .inl (E.2.1, 16, .inl gc)), (uK, .inl (E.2.1, 16, .inl ak)), (uT, .inl (E.2.1, 16, .inl ((mRd gf gc ak x n s9.2 (k + 1)).2))), (uP, .inl (E.2.1, 3, .inl rp))] := by rw [hE9]; exact hD
                          exact ih33 (k + 1) (by omega) (by omega)  _ _ hP hD hS ls hl
                        · skip
                          refine lv_iload hx hb dX4_decides_123 (lv_at hl 0 rfl) ?_
                          refine lv_if_eq (tgt := 158) hx hb dX4_decides_125 (by decide) (fun c_125 => ?_) (fun c_125 => ?_)
                          · skip
                            exact absurd c_125 (by decide)
                          · skip
                            refine lv_aload_n hx hb dX4_decides_128 rfl (lv_at hl 1 rfl) ?_
                            refine lv_aload_n hx hb dX4_decides_129 rfl (lv_at hl 1 rfl) ?_
                            refine va_get (D := E.1) (ci := 4) (v := .ref uR) (C := RX4) (T := TX4) (N := 15) hx hb hts (fun _ h => List.mem_cons_of_mem _ (List.mem_append_right _ h)) hown hK.1 hP 0 rfl rfl 9 (by decide) (hts (.fieldLink RX4 29 "QuarrelboardModel" "rests" "[I") (List.mem_of_getElem? (i := 4) rfl)) (fun _ h9 => h9) rfl dX4_decides_130 ?_
                            refine lv_iload_n hx hb dX4_decides_133 rfl (lv_at hl 4 rfl) ?_
                            refine k_iald hx hb hK hP 7 (f := gc) k rfl (by omega) (by decide) dX4_decides_134 ?_
                            refine lv_iconst (v := 2) hx hb dX4_decides_135 (by decide) ?_
                            refine lv_iconst (v := 0) hx hb dX4_decides_136 (by decide) ?_
                            refine cl_S (Wc := [(qM, .inr (4, [.ref uF, .int (nI nf), .ref uS, .ref uW, .int (nI sp), .ref uB, .int (nI n), .ref uO, .ref uG, .ref uR, .ref uK, .ref uT, .int cl, .ref uP, .int th])), (uF, .inl (E.2.2.1, 6, .inl (fun w9 => zI (fb w9)))), (uS, .inl (E.2.1, 14, .inl (fun w9 => nI (src w9)))), (uW, .inl (E.2.2.1, 14, .inl (fun w9 => zI (wb w9)))), (uB, .inl (E.2.1, 3, .inl bk)), (uO, .inl (E.2.1, 16, .inl (fun w9 => nI (ow w9)))), (uG, .inl (E.2.1, 16, .inl gf)), (uR, .inl (E.2.1, 16, .inl gc)), (uK, .inl (E.2.1, 16, .inl ak)), (uT, .inl (E.2.1, 16, .inl ((mRd gf gc ak x n s9.2 k).2))), (uP, .inl (E.2.1, 3, .inl rp))]) (As := [.int (gc k), .int 2, .int 0]) (rest := []) ⟨hx, hb, hml, hown, hts⟩ (c_X4_have l E qM uF nf uS uW sp uB n uO uG uR uK uT cl uP th fb src wb bk ow gf gc ak ((mRd gf gc ak x n s9.2 k).2) rp (gc k) 2 false (by omega)) (cwV 3 hts gX4_decides_X4_have rfl rfl rfl (by decide +kernel) ⟨Nat.le_of_ble_eq_true rfl, Nat.le_of_ble_eq_true rfl⟩) hK (hP.sub [0, 1, 2, 3, 4, 5, 6, 7, 8, 9, 10] rfl) (va_recv hK.1 hP (ci := 4) (q0 := 0) rfl rfl) rfl hl.1 rfl (Nat.le_of_ble_eq_true rfl) dX4_decides_137 ⟨Nat.zero_le _, Nat.zero_le _⟩ ?_
                            refine lv_if_ne (tgt := 158) hx hb dX4_decides_140 (by decide) (fun c_140 => ?_) (fun c_140 => ?_)
                            · have c_140 := zI_t c_140
                              refine lv_aload_n hx hb dX4_decides_158 rfl (lv_at hl 1 rfl) ?_
                              refine va_get (D := E.1) (ci := 4) (v := .ref uT) (C := RX4) (T := TX4) (N := 15) hx hb hts (fun _ h => List.mem_cons_of_mem _ (List.mem_append_right _ h)) hown hK.1 hP 0 rfl rfl 11 (by decide) (hts (.fieldLink RX4 35 "QuarrelboardModel" "states" "[I") (List.mem_of_getElem? (i := 2) rfl)) (fun _ h9 => h9) rfl dX4_decides_159 ?_
                              refine lv_iload_n hx hb dX4_decides_162 rfl (lv_at hl 4 rfl) ?_
                              refine lv_iconst (v := 2) hx hb dX4_decides_163 (by decide) ?_
                              refine k_iast hx hb hK hP hD hS 9 (f := ((mRd gf gc ak x n s9.2 k).2)) k (x := 2) rfl (by omega) (by decide) dX4_decides_164 (fun H locs hP hD hS => ?_)
                              have hP : va_P E.1 vwCl [(qM, .inr (4, [.ref uF, .int (nI nf), .ref uS, .ref uW, .int (nI sp), .ref uB, .int (nI n), .ref uO, .ref uG, .ref uR, .ref uK, .ref uT, .int cl, .ref uP, .int th])), (uF, .inl (E.2.2.1, 6, .inl (fun w9 => zI (fb w9)))), (uS, .inl (E.2.1, 14, .inl (fun w9 => nI (src w9)))), (uW, .inl (E.2.2.1, 14, .inl (fun w9 => zI (wb w9)))), (uB, .inl (E.2.1, 3, .inl bk)), (uO, .inl (E.2.1, 16, .inl (fun w9 => nI (ow w9)))), (uG, .inl (E.2.1, 16, .inl gf)), (uR, .inl (E.2.1, 16, .inl gc)), (uK, .inl (E.2.1, 16, .inl ak)), (uT, .inl (E.2.1, 16, .inl (upd ((mRd gf gc ak x n s9.2 k).2) k 2))), (uP, .inl (E.2.1, 3, .inl rp))] H := hP
                              have hD : va_D A [(qM, .inr (4, [.ref uF, .int (nI nf), .ref uS, .ref uW, .int (nI sp), .ref uB, .int (nI n), .ref uO, .ref uG, .ref uR, .ref uK, .ref uT, .int cl, .ref uP, .int th])), (uF, .inl (E.2.2.1, 6, .inl (fun w9 => zI (fb w9)))), (uS, .inl (E.2.1, 14, .inl (fun w9 => nI (src w9)))), (uW, .inl (E.2.2.1, 14, .inl (fun w9 => zI (wb w9)))), (uB, .inl (E.2.1, 3, .inl bk)), (uO, .inl (E.2.1, 16, .inl (fun w9 => nI (ow w9)))), (uG, .inl (E.2.1, 16, .inl gf)), (uR, .inl (E.2.1, 16, .inl gc)), (uK, .inl (E.2.1, 16, .inl ak)), (uT, .inl (E.2.1, 16, .inl (upd ((mRd gf gc ak x n s9.2 k).2) k 2))), (uP, .inl (E.2.1, 3, .inl rp))] := hD
                              refine lv_iconst (v := 1) hx hb dX4_decides_165 (by decide) ?_
                              refine lv_istore_n (lv' := [(2, .int 1), (4, .int 1), (0, .ref qM), (1, .int x), (3, .int (nI k))]) hx hb dX4_decides_166 rfl hl (by decide) rfl (fun ls hl => ?_)
                              refine lv_iinc (v := nI (k + 1)) (lv' := [(3, .int (nI (k + 1))), (2, .int 1), (4, .int 1), (0, .ref qM), (1, .int x)]) hx hb dX4_decides_167 hl (k := 4) rfl (nI_1 _) (by decide) rfl (fun ls hl => ?_)
                              refine lv_goto (tgt := 33) hx hb dX4_decides_170 (by decide) ?_
                              have hI9 : mI gf gc ak x n (mRd gf gc ak x n s9.2 k).2 k = false := by unfold mI; rw [decide_eq_false c_67]; rfl
                              have hO9 : mO gf gc ak x n (mRd gf gc ak x n s9.2 k).2 k = true := by unfold mO; rw [decide_eq_true c_120, c_140, Bool.true_or, Bool.or_true]; rfl
                              have hE9 := mRd_o hI9 hO9
                              have hl : lv_has ls 5 [(0, .ref qM), (1, .int x), (2, .int (zI ((mRd gf gc ak x n s9.2 (k + 1)).1))), (3, .int (nI (k + 1)))] := by rw [hE9]; exact lv_sub hl [3, 4, 1, 0] rfl
                              have hP : va_P E.1 vwCl [(qM, .inr (4, [.ref uF, .int (nI nf), .ref uS, .ref uW, .int (nI sp), .ref uB, .int (nI n), .ref uO, .ref uG, .ref uR, .ref uK, .ref uT, .int cl, .ref uP, .int th])), (uF, .inl (E.2.2.1, 6, .inl (fun w9 => zI (fb w9)))), (uS, .inl (E.2.1, 14, .inl (fun w9 => nI (src w9)))), (uW, .inl (E.2.2.1, 14, .inl (fun w9 => zI (wb w9)))), (uB, .inl (E.2.1, 3, .inl bk)), (uO, .inl (E.2.1, 16, .inl (fun w9 => nI (ow w9)))), (uG, .inl (E.2.1, 16, .inl gf)), (uR, .inl (E.2.1, 16, .inl gc)), (uK, .inl (E.2.1, 16, .inl ak)), (uT, .inl (E.2.1, 16, .inl ((mRd gf gc ak x n s9.2 (k + 1)).2))), (uP, .inl (E.2.1, 3, .inl rp))] H := by rw [hE9]; exact hP
                              have hD : va_D A [(qM, .inr (4, [.ref uF, .int (nI nf), .ref uS, .ref uW, .int (nI sp), .ref uB, .int (nI n), .ref uO, .ref uG, .ref uR, .ref uK, .ref uT, .int cl, .ref uP, .int th])), (uF, .inl (E.2.2.1, 6, .inl (fun w9 => zI (fb w9)))), (uS, .inl (E.2.1, 14, .inl (fun w9 => nI (src w9)))), (uW, .inl (E.2.2.1, 14, .inl (fun w9 => zI (wb w9)))), (uB, .inl (E.2.1, 3, .inl bk)), (uO, .inl (E.2.1, 16, .inl (fun w9 => nI (ow w9)))), (uG, .inl (E.2.1, 16, .inl gf)), (uR, .inl (E.2.1, 16, .inl gc)), (uK, .inl (E.2.1, 16, .inl ak)), (uT, .inl (E.2.1, 16, .inl ((mRd gf gc ak x n s9.2 (k + 1)).2))), (uP, .inl (E.2.1, 3, .inl rp))] := by rw [hE9]; exact hD
                              exact ih33 (k + 1) (by omega) (by omega)  _ _ hP hD hS ls hl
                            · have c_140 := zI_f c_140
                              refine lv_aload_n hx hb dX4_decides_143 rfl (lv_at hl 1 rfl) ?_
                              refine lv_aload_n hx hb dX4_decides_144 rfl (lv_at hl 1 rfl) ?_
                              refine va_get (D := E.1) (ci := 4) (v := .ref uK) (C := RX4) (T := TX4) (N := 15) hx hb hts (fun _ h => List.mem_cons_of_mem _ (List.mem_append_right _ h)) hown hK.1 hP 0 rfl rfl 10 (by decide) (hts (.fieldLink RX4 32 "QuarrelboardModel" "attackers" "[I") (List.mem_of_getElem? (i := 5) rfl)) (fun _ h9 => h9) rfl dX4_decides_145 ?_
                              refine lv_iload_n hx hb dX4_decides_148 rfl (lv_at hl 4 rfl) ?_
                              refine k_iald hx hb hK hP 8 (f := ak) k rfl (by omega) (by decide) dX4_decides_149 ?_
                              refine lv_iconst (v := 1) hx hb dX4_decides_150 (by decide) ?_
                              refine lv_iconst (v := 0) hx hb dX4_decides_151 (by decide) ?_
                              refine cl_S (Wc := [(qM, .inr (4, [.ref uF, .int (nI nf), .ref uS, .ref uW, .int (nI sp), .ref uB, .int (nI n), .ref uO, .ref uG, .ref uR, .ref uK, .ref uT, .int cl, .ref uP, .int th])), (uF, .inl (E.2.2.1, 6, .inl (fun w9 => zI (fb w9)))), (uS, .inl (E.2.1, 14, .inl (fun w9 => nI (src w9)))), (uW, .inl (E.2.2.1, 14, .inl (fun w9 => zI (wb w9)))), (uB, .inl (E.2.1, 3, .inl bk)), (uO, .inl (E.2.1, 16, .inl (fun w9 => nI (ow w9)))), (uG, .inl (E.2.1, 16, .inl gf)), (uR, .inl (E.2.1, 16, .inl gc)), (uK, .inl (E.2.1, 16, .inl ak)), (uT, .inl (E.2.1, 16, .inl ((mRd gf gc ak x n s9.2 k).2))), (uP, .inl (E.2.1, 3, .inl rp))]) (As := [.int (ak k), .int 1, .int 0]) (rest := []) ⟨hx, hb, hml, hown, hts⟩ (c_X4_have l E qM uF nf uS uW sp uB n uO uG uR uK uT cl uP th fb src wb bk ow gf gc ak ((mRd gf gc ak x n s9.2 k).2) rp (ak k) 1 false (by omega)) (cwV 3 hts gX4_decides_X4_have rfl rfl rfl (by decide +kernel) ⟨Nat.le_of_ble_eq_true rfl, Nat.le_of_ble_eq_true rfl⟩) hK (hP.sub [0, 1, 2, 3, 4, 5, 6, 7, 8, 9, 10] rfl) (va_recv hK.1 hP (ci := 4) (q0 := 0) rfl rfl) rfl hl.1 rfl (Nat.le_of_ble_eq_true rfl) dX4_decides_152 ⟨Nat.zero_le _, Nat.zero_le _⟩ ?_
                              refine lv_if_eq (tgt := 167) hx hb dX4_decides_155 (by decide) (fun c_155 => ?_) (fun c_155 => ?_)
                              · have c_155 := zI_f c_155
                                refine lv_iinc (v := nI (k + 1)) (lv' := [(3, .int (nI (k + 1))), (4, .int 1), (0, .ref qM), (1, .int x), (2, .int (zI ((mRd gf gc ak x n s9.2 k).1)))]) hx hb dX4_decides_167 hl (k := 4) rfl (nI_1 _) (by decide) rfl (fun ls hl => ?_)
                                refine lv_goto (tgt := 33) hx hb dX4_decides_170 (by decide) ?_
                                have hI9 : mI gf gc ak x n (mRd gf gc ak x n s9.2 k).2 k = false := by unfold mI; rw [decide_eq_false c_67]; rfl
                                have hO9 : mO gf gc ak x n (mRd gf gc ak x n s9.2 k).2 k = false := by unfold mO; rw [decide_eq_true c_51, c_140, c_155, show (!true || (false || false)) = false from rfl, Bool.and_false]
                                have hE9 := mRd_n hI9 hO9
                                have hl : lv_has ls 5 [(0, .ref qM), (1, .int x), (2, .int (zI ((mRd gf gc ak x n s9.2 (k + 1)).1))), (3, .int (nI (k + 1)))] := by rw [hE9]; exact lv_sub hl [2, 3, 4, 0] rfl
                                have hP : va_P E.1 vwCl [(qM, .inr (4, [.ref uF, .int (nI nf), .ref uS, .ref uW, .int (nI sp), .ref uB, .int (nI n), .ref uO, .ref uG, .ref uR, .ref uK, .ref uT, .int cl, .ref uP, .int th])), (uF, .inl (E.2.2.1, 6, .inl (fun w9 => zI (fb w9)))), (uS, .inl (E.2.1, 14, .inl (fun w9 => nI (src w9)))), (uW, .inl (E.2.2.1, 14, .inl (fun w9 => zI (wb w9)))), (uB, .inl (E.2.1, 3, .inl bk)), (uO, .inl (E.2.1, 16, .inl (fun w9 => nI (ow w9)))), (uG, .inl (E.2.1, 16, .inl gf)), (uR, .inl (E.2.1, 16, .inl gc)), (uK, .inl (E.2.1, 16, .inl ak)), (uT, .inl (E.2.1, 16, .inl ((mRd gf gc ak x n s9.2 (k + 1)).2))), (uP, .inl (E.2.1, 3, .inl rp))] H := by rw [hE9]; exact hP
                                have hD : va_D A [(qM, .inr (4, [.ref uF, .int (nI nf), .ref uS, .ref uW, .int (nI sp), .ref uB, .int (nI n), .ref uO, .ref uG, .ref uR, .ref uK, .ref uT, .int cl, .ref uP, .int th])), (uF, .inl (E.2.2.1, 6, .inl (fun w9 => zI (fb w9)))), (uS, .inl (E.2.1, 14, .inl (fun w9 => nI (src w9)))), (uW, .inl (E.2.2.1, 14, .inl (fun w9 => zI (wb w9)))), (uB, .inl (E.2.1, 3, .inl bk)), (uO, .inl (E.2.1, 16, .inl (fun w9 => nI (ow w9)))), (uG, .inl (E.2.1, 16, .inl gf)), (uR, .inl (E.2.1, 16, .inl gc)), (uK, .inl (E.2.1, 16, .inl ak)), (uT, .inl (E.2.1, 16, .inl ((mRd gf gc ak x n s9.2 (k + 1)).2))), (uP, .inl (E.2.1, 3, .inl rp))] := by rw [hE9]; exact hD
                                exact ih33 (k + 1) (by omega) (by omega)  _ _ hP hD hS ls hl
                              · have c_155 := zI_t c_155
                                refine lv_aload_n hx hb dX4_decides_158 rfl (lv_at hl 1 rfl) ?_
                                refine va_get (D := E.1) (ci := 4) (v := .ref uT) (C := RX4) (T := TX4) (N := 15) hx hb hts (fun _ h => List.mem_cons_of_mem _ (List.mem_append_right _ h)) hown hK.1 hP 0 rfl rfl 11 (by decide) (hts (.fieldLink RX4 35 "QuarrelboardModel" "states" "[I") (List.mem_of_getElem? (i := 2) rfl)) (fun _ h9 => h9) rfl dX4_decides_159 ?_
                                refine lv_iload_n hx hb dX4_decides_162 rfl (lv_at hl 4 rfl) ?_
                                refine lv_iconst (v := 2) hx hb dX4_decides_163 (by decide) ?_
                                refine k_iast hx hb hK hP hD hS 9 (f := ((mRd gf gc ak x n s9.2 k).2)) k (x := 2) rfl (by omega) (by decide) dX4_decides_164 (fun H locs hP hD hS => ?_)
                                have hP : va_P E.1 vwCl [(qM, .inr (4, [.ref uF, .int (nI nf), .ref uS, .ref uW, .int (nI sp), .ref uB, .int (nI n), .ref uO, .ref uG, .ref uR, .ref uK, .ref uT, .int cl, .ref uP, .int th])), (uF, .inl (E.2.2.1, 6, .inl (fun w9 => zI (fb w9)))), (uS, .inl (E.2.1, 14, .inl (fun w9 => nI (src w9)))), (uW, .inl (E.2.2.1, 14, .inl (fun w9 => zI (wb w9)))), (uB, .inl (E.2.1, 3, .inl bk)), (uO, .inl (E.2.1, 16, .inl (fun w9 => nI (ow w9)))), (uG, .inl (E.2.1, 16, .inl gf)), (uR, .inl (E.2.1, 16, .inl gc)), (uK, .inl (E.2.1, 16, .inl ak)), (uT, .inl (E.2.1, 16, .inl (upd ((mRd gf gc ak x n s9.2 k).2) k 2))), (uP, .inl (E.2.1, 3, .inl rp))] H := hP
                                have hD : va_D A [(qM, .inr (4, [.ref uF, .int (nI nf), .ref uS, .ref uW, .int (nI sp), .ref uB, .int (nI n), .ref uO, .ref uG, .ref uR, .ref uK, .ref uT, .int cl, .ref uP, .int th])), (uF, .inl (E.2.2.1, 6, .inl (fun w9 => zI (fb w9)))), (uS, .inl (E.2.1, 14, .inl (fun w9 => nI (src w9)))), (uW, .inl (E.2.2.1, 14, .inl (fun w9 => zI (wb w9)))), (uB, .inl (E.2.1, 3, .inl bk)), (uO, .inl (E.2.1, 16, .inl (fun w9 => nI (ow w9)))), (uG, .inl (E.2.1, 16, .inl gf)), (uR, .inl (E.2.1, 16, .inl gc)), (uK, .inl (E.2.1, 16, .inl ak)), (uT, .inl (E.2.1, 16, .inl (upd ((mRd gf gc ak x n s9.2 k).2) k 2))), (uP, .inl (E.2.1, 3, .inl rp))] := hD
                                refine lv_iconst (v := 1) hx hb dX4_decides_165 (by decide) ?_
                                refine lv_istore_n (lv' := [(2, .int 1), (4, .int 1), (0, .ref qM), (1, .int x), (3, .int (nI k))]) hx hb dX4_decides_166 rfl hl (by decide) rfl (fun ls hl => ?_)
                                refine lv_iinc (v := nI (k + 1)) (lv' := [(3, .int (nI (k + 1))), (2, .int 1), (4, .int 1), (0, .ref qM), (1, .int x)]) hx hb dX4_decides_167 hl (k := 4) rfl (nI_1 _) (by decide) rfl (fun ls hl => ?_)
                                refine lv_goto (tgt := 33) hx hb dX4_decides_170 (by decide) ?_
                                have hI9 : mI gf gc ak x n (mRd gf gc ak x n s9.2 k).2 k = false := by unfold mI; rw [decide_eq_false c_67]; rfl
                                have hO9 : mO gf gc ak x n (mRd gf gc ak x n s9.2 k).2 k = true := by unfold mO; rw [decide_eq_true c_120, c_155, Bool.or_true, Bool.or_true]; rfl
                                have hE9 := mRd_o hI9 hO9
                                have hl : lv_has ls 5 [(0, .ref qM), (1, .int x), (2, .int (zI ((mRd gf gc ak x n s9.2 (k + 1)).1))), (3, .int (nI (k + 1)))] := by rw [hE9]; exact lv_sub hl [3, 4, 1, 0] rfl
                                have hP : va_P E.1 vwCl [(qM, .inr (4, [.ref uF, .int (nI nf), .ref uS, .ref uW, .int (nI sp), .ref uB, .int (nI n), .ref uO, .ref uG, .ref uR, .ref uK, .ref uT, .int cl, .ref uP, .int th])), (uF, .inl (E.2.2.1, 6, .inl (fun w9 => zI (fb w9)))), (uS, .inl (E.2.1, 14, .inl (fun w9 => nI (src w9)))), (uW, .inl (E.2.2.1, 14, .inl (fun w9 => zI (wb w9)))), (uB, .inl (E.2.1, 3, .inl bk)), (uO, .inl (E.2.1, 16, .inl (fun w9 => nI (ow w9)))), (uG, .inl (E.2.1, 16, .inl gf)), (uR, .inl (E.2.1, 16, .inl gc)), (uK, .inl (E.2.1, 16, .inl ak)), (uT, .inl (E.2.1, 16, .inl ((mRd gf gc ak x n s9.2 (k + 1)).2))), (uP, .inl (E.2.1, 3, .inl rp))] H := by rw [hE9]; exact hP
                                have hD : va_D A [(qM, .inr (4, [.ref uF, .int (nI nf), .ref uS, .ref uW, .int (nI sp), .ref uB, .int (nI n), .ref uO, .ref uG, .ref uR, .ref uK, .ref uT, .int cl, .ref uP, .int th])), (uF, .inl (E.2.2.1, 6, .inl (fun w9 => zI (fb w9)))), (uS, .inl (E.2.1, 14, .inl (fun w9 => nI (src w9)))), (uW, .inl (E.2.2.1, 14, .inl (fun w9 => zI (wb w9)))), (uB, .inl (E.2.1, 3, .inl bk)), (uO, .inl (E.2.1, 16, .inl (fun w9 => nI (ow w9)))), (uG, .inl (E.2.1, 16, .inl gf)), (uR, .inl (E.2.1, 16, .inl gc)), (uK, .inl (E.2.1, 16, .inl ak)), (uT, .inl (E.2.1, 16, .inl ((mRd gf gc ak x n s9.2 (k + 1)).2))), (uP, .inl (E.2.1, 3, .inl rp))] := by rw [hE9]; exact hD
                                exact ih33 (k + 1) (by omega) (by omega)  _ _ hP hD hS ls hl
                      · skip
                        refine lv_iload hx hb dX4_decides_70 (lv_at hl 0 rfl) ?_
                        refine lv_if_eq (tgt := 114) hx hb dX4_decides_72 (by decide) (fun c_72 => ?_) (fun c_72 => ?_)
                        · skip
                          exact absurd c_72 (by decide)
                        · skip
                          refine lv_aload_n hx hb dX4_decides_75 rfl (lv_at hl 1 rfl) ?_
                          refine lv_aload_n hx hb dX4_decides_76 rfl (lv_at hl 1 rfl) ?_
                          refine va_get (D := E.1) (ci := 4) (v := .ref uR) (C := RX4) (T := TX4) (N := 15) hx hb hts (fun _ h => List.mem_cons_of_mem _ (List.mem_append_right _ h)) hown hK.1 hP 0 rfl rfl 9 (by decide) (hts (.fieldLink RX4 29 "QuarrelboardModel" "rests" "[I") (List.mem_of_getElem? (i := 4) rfl)) (fun _ h9 => h9) rfl dX4_decides_77 ?_
                          refine lv_iload_n hx hb dX4_decides_80 rfl (lv_at hl 4 rfl) ?_
                          refine k_iald hx hb hK hP 7 (f := gc) k rfl (by omega) (by decide) dX4_decides_81 ?_
                          refine lv_iconst (v := 1) hx hb dX4_decides_82 (by decide) ?_
                          refine lv_iconst (v := 1) hx hb dX4_decides_83 (by decide) ?_
                          refine cl_S (Wc := [(qM, .inr (4, [.ref uF, .int (nI nf), .ref uS, .ref uW, .int (nI sp), .ref uB, .int (nI n), .ref uO, .ref uG, .ref uR, .ref uK, .ref uT, .int cl, .ref uP, .int th])), (uF, .inl (E.2.2.1, 6, .inl (fun w9 => zI (fb w9)))), (uS, .inl (E.2.1, 14, .inl (fun w9 => nI (src w9)))), (uW, .inl (E.2.2.1, 14, .inl (fun w9 => zI (wb w9)))), (uB, .inl (E.2.1, 3, .inl bk)), (uO, .inl (E.2.1, 16, .inl (fun w9 => nI (ow w9)))), (uG, .inl (E.2.1, 16, .inl gf)), (uR, .inl (E.2.1, 16, .inl gc)), (uK, .inl (E.2.1, 16, .inl ak)), (uT, .inl (E.2.1, 16, .inl ((mRd gf gc ak x n s9.2 k).2))), (uP, .inl (E.2.1, 3, .inl rp))]) (As := [.int (gc k), .int 1, .int 1]) (rest := []) ⟨hx, hb, hml, hown, hts⟩ (c_X4_have l E qM uF nf uS uW sp uB n uO uG uR uK uT cl uP th fb src wb bk ow gf gc ak ((mRd gf gc ak x n s9.2 k).2) rp (gc k) 1 true (by omega)) (cwV 3 hts gX4_decides_X4_have rfl rfl rfl (by decide +kernel) ⟨Nat.le_of_ble_eq_true rfl, Nat.le_of_ble_eq_true rfl⟩) hK (hP.sub [0, 1, 2, 3, 4, 5, 6, 7, 8, 9, 10] rfl) (va_recv hK.1 hP (ci := 4) (q0 := 0) rfl rfl) rfl hl.1 rfl (Nat.le_of_ble_eq_true rfl) dX4_decides_84 ⟨Nat.zero_le _, Nat.zero_le _⟩ ?_
                          refine lv_if_eq (tgt := 114) hx hb dX4_decides_87 (by decide) (fun c_87 => ?_) (fun c_87 => ?_)
                          · have c_87 := zI_f c_87
                            refine lv_aload_n hx hb dX4_decides_114 rfl (lv_at hl 1 rfl) ?_
                            refine va_get (D := E.1) (ci := 4) (v := .ref uT) (C := RX4) (T := TX4) (N := 15) hx hb hts (fun _ h => List.mem_cons_of_mem _ (List.mem_append_right _ h)) hown hK.1 hP 0 rfl rfl 11 (by decide) (hts (.fieldLink RX4 35 "QuarrelboardModel" "states" "[I") (List.mem_of_getElem? (i := 2) rfl)) (fun _ h9 => h9) rfl dX4_decides_115 ?_
                            refine lv_iload_n hx hb dX4_decides_118 rfl (lv_at hl 4 rfl) ?_
                            refine k_iald hx hb hK hP 9 (f := ((mRd gf gc ak x n s9.2 k).2)) k rfl (by omega) (by decide) dX4_decides_119 ?_
                            refine lv_if_ne (tgt := 167) hx hb dX4_decides_120 (by decide) (fun c_120 => ?_) (fun c_120 => ?_)
                            · skip
                              refine lv_iinc (v := nI (k + 1)) (lv' := [(3, .int (nI (k + 1))), (4, .int 1), (0, .ref qM), (1, .int x), (2, .int (zI ((mRd gf gc ak x n s9.2 k).1)))]) hx hb dX4_decides_167 hl (k := 4) rfl (nI_1 _) (by decide) rfl (fun ls hl => ?_)
                              refine lv_goto (tgt := 33) hx hb dX4_decides_170 (by decide) ?_
                              have hI9 : mI gf gc ak x n (mRd gf gc ak x n s9.2 k).2 k = false := by unfold mI; rw [c_87, Bool.false_and, Bool.and_false, Bool.and_false]
                              have hO9 : mO gf gc ak x n (mRd gf gc ak x n s9.2 k).2 k = false := by unfold mO; rw [decide_eq_false c_120]; rfl
                              have hE9 := mRd_n hI9 hO9
                              have hl : lv_has ls 5 [(0, .ref qM), (1, .int x), (2, .int (zI ((mRd gf gc ak x n s9.2 (k + 1)).1))), (3, .int (nI (k + 1)))] := by rw [hE9]; exact lv_sub hl [2, 3, 4, 0] rfl
                              have hP : va_P E.1 vwCl [(qM, .inr (4, [.ref uF, .int (nI nf), .ref uS, .ref uW, .int (nI sp), .ref uB, .int (nI n), .ref uO, .ref uG, .ref uR, .ref uK, .ref uT, .int cl, .ref uP, .int th])), (uF, .inl (E.2.2.1, 6, .inl (fun w9 => zI (fb w9)))), (uS, .inl (E.2.1, 14, .inl (fun w9 => nI (src w9)))), (uW, .inl (E.2.2.1, 14, .inl (fun w9 => zI (wb w9)))), (uB, .inl (E.2.1, 3, .inl bk)), (uO, .inl (E.2.1, 16, .inl (fun w9 => nI (ow w9)))), (uG, .inl (E.2.1, 16, .inl gf)), (uR, .inl (E.2.1, 16, .inl gc)), (uK, .inl (E.2.1, 16, .inl ak)), (uT, .inl (E.2.1, 16, .inl ((mRd gf gc ak x n s9.2 (k + 1)).2))), (uP, .inl (E.2.1, 3, .inl rp))] H := by rw [hE9]; exact hP
                              have hD : va_D A [(qM, .inr (4, [.ref uF, .int (nI nf), .ref uS, .ref uW, .int (nI sp), .ref uB, .int (nI n), .ref uO, .ref uG, .ref uR, .ref uK, .ref uT, .int cl, .ref uP, .int th])), (uF, .inl (E.2.2.1, 6, .inl (fun w9 => zI (fb w9)))), (uS, .inl (E.2.1, 14, .inl (fun w9 => nI (src w9)))), (uW, .inl (E.2.2.1, 14, .inl (fun w9 => zI (wb w9)))), (uB, .inl (E.2.1, 3, .inl bk)), (uO, .inl (E.2.1, 16, .inl (fun w9 => nI (ow w9)))), (uG, .inl (E.2.1, 16, .inl gf)), (uR, .inl (E.2.1, 16, .inl gc)), (uK, .inl (E.2.1, 16, .inl ak)), (uT, .inl (E.2.1, 16, .inl ((mRd gf gc ak x n s9.2 (k + 1)).2))), (uP, .inl (E.2.1, 3, .inl rp))] := by rw [hE9]; exact hD
                              exact ih33 (k + 1) (by omega) (by omega)  _ _ hP hD hS ls hl
                            · skip
                              refine lv_iload hx hb dX4_decides_123 (lv_at hl 0 rfl) ?_
                              refine lv_if_eq (tgt := 158) hx hb dX4_decides_125 (by decide) (fun c_125 => ?_) (fun c_125 => ?_)
                              · skip
                                exact absurd c_125 (by decide)
                              · skip
                                refine lv_aload_n hx hb dX4_decides_128 rfl (lv_at hl 1 rfl) ?_
                                refine lv_aload_n hx hb dX4_decides_129 rfl (lv_at hl 1 rfl) ?_
                                refine va_get (D := E.1) (ci := 4) (v := .ref uR) (C := RX4) (T := TX4) (N := 15) hx hb hts (fun _ h => List.mem_cons_of_mem _ (List.mem_append_right _ h)) hown hK.1 hP 0 rfl rfl 9 (by decide) (hts (.fieldLink RX4 29 "QuarrelboardModel" "rests" "[I") (List.mem_of_getElem? (i := 4) rfl)) (fun _ h9 => h9) rfl dX4_decides_130 ?_
                                refine lv_iload_n hx hb dX4_decides_133 rfl (lv_at hl 4 rfl) ?_
                                refine k_iald hx hb hK hP 7 (f := gc) k rfl (by omega) (by decide) dX4_decides_134 ?_
                                refine lv_iconst (v := 2) hx hb dX4_decides_135 (by decide) ?_
                                refine lv_iconst (v := 0) hx hb dX4_decides_136 (by decide) ?_
                                refine cl_S (Wc := [(qM, .inr (4, [.ref uF, .int (nI nf), .ref uS, .ref uW, .int (nI sp), .ref uB, .int (nI n), .ref uO, .ref uG, .ref uR, .ref uK, .ref uT, .int cl, .ref uP, .int th])), (uF, .inl (E.2.2.1, 6, .inl (fun w9 => zI (fb w9)))), (uS, .inl (E.2.1, 14, .inl (fun w9 => nI (src w9)))), (uW, .inl (E.2.2.1, 14, .inl (fun w9 => zI (wb w9)))), (uB, .inl (E.2.1, 3, .inl bk)), (uO, .inl (E.2.1, 16, .inl (fun w9 => nI (ow w9)))), (uG, .inl (E.2.1, 16, .inl gf)), (uR, .inl (E.2.1, 16, .inl gc)), (uK, .inl (E.2.1, 16, .inl ak)), (uT, .inl (E.2.1, 16, .inl ((mRd gf gc ak x n s9.2 k).2))), (uP, .inl (E.2.1, 3, .inl rp))]) (As := [.int (gc k), .int 2, .int 0]) (rest := []) ⟨hx, hb, hml, hown, hts⟩ (c_X4_have l E qM uF nf uS uW sp uB n uO uG uR uK uT cl uP th fb src wb bk ow gf gc ak ((mRd gf gc ak x n s9.2 k).2) rp (gc k) 2 false (by omega)) (cwV 3 hts gX4_decides_X4_have rfl rfl rfl (by decide +kernel) ⟨Nat.le_of_ble_eq_true rfl, Nat.le_of_ble_eq_true rfl⟩) hK (hP.sub [0, 1, 2, 3, 4, 5, 6, 7, 8, 9, 10] rfl) (va_recv hK.1 hP (ci := 4) (q0 := 0) rfl rfl) rfl hl.1 rfl (Nat.le_of_ble_eq_true rfl) dX4_decides_137 ⟨Nat.zero_le _, Nat.zero_le _⟩ ?_
                                refine lv_if_ne (tgt := 158) hx hb dX4_decides_140 (by decide) (fun c_140 => ?_) (fun c_140 => ?_)
                                · have c_140 := zI_t c_140
                                  refine lv_aload_n hx hb dX4_decides_158 rfl (lv_at hl 1 rfl) ?_
                                  refine va_get (D := E.1) (ci := 4) (v := .ref uT) (C := RX4) (T := TX4) (N := 15) hx hb hts (fun _ h => List.mem_cons_of_mem _ (List.mem_append_right _ h)) hown hK.1 hP 0 rfl rfl 11 (by decide) (hts (.fieldLink RX4 35 "QuarrelboardModel" "states" "[I") (List.mem_of_getElem? (i := 2) rfl)) (fun _ h9 => h9) rfl dX4_decides_159 ?_
                                  refine lv_iload_n hx hb dX4_decides_162 rfl (lv_at hl 4 rfl) ?_
                                  refine lv_iconst (v := 2) hx hb dX4_decides_163 (by decide) ?_
                                  refine k_iast hx hb hK hP hD hS 9 (f := ((mRd gf gc ak x n s9.2 k).2)) k (x := 2) rfl (by omega) (by decide) dX4_decides_164 (fun H locs hP hD hS => ?_)
                                  have hP : va_P E.1 vwCl [(qM, .inr (4, [.ref uF, .int (nI nf), .ref uS, .ref uW, .int (nI sp), .ref uB, .int (nI n), .ref uO, .ref uG, .ref uR, .ref uK, .ref uT, .int cl, .ref uP, .int th])), (uF, .inl (E.2.2.1, 6, .inl (fun w9 => zI (fb w9)))), (uS, .inl (E.2.1, 14, .inl (fun w9 => nI (src w9)))), (uW, .inl (E.2.2.1, 14, .inl (fun w9 => zI (wb w9)))), (uB, .inl (E.2.1, 3, .inl bk)), (uO, .inl (E.2.1, 16, .inl (fun w9 => nI (ow w9)))), (uG, .inl (E.2.1, 16, .inl gf)), (uR, .inl (E.2.1, 16, .inl gc)), (uK, .inl (E.2.1, 16, .inl ak)), (uT, .inl (E.2.1, 16, .inl (upd ((mRd gf gc ak x n s9.2 k).2) k 2))), (uP, .inl (E.2.1, 3, .inl rp))] H := hP
                                  have hD : va_D A [(qM, .inr (4, [.ref uF, .int (nI nf), .ref uS, .ref uW, .int (nI sp), .ref uB, .int (nI n), .ref uO, .ref uG, .ref uR, .ref uK, .ref uT, .int cl, .ref uP, .int th])), (uF, .inl (E.2.2.1, 6, .inl (fun w9 => zI (fb w9)))), (uS, .inl (E.2.1, 14, .inl (fun w9 => nI (src w9)))), (uW, .inl (E.2.2.1, 14, .inl (fun w9 => zI (wb w9)))), (uB, .inl (E.2.1, 3, .inl bk)), (uO, .inl (E.2.1, 16, .inl (fun w9 => nI (ow w9)))), (uG, .inl (E.2.1, 16, .inl gf)), (uR, .inl (E.2.1, 16, .inl gc)), (uK, .inl (E.2.1, 16, .inl ak)), (uT, .inl (E.2.1, 16, .inl (upd ((mRd gf gc ak x n s9.2 k).2) k 2))), (uP, .inl (E.2.1, 3, .inl rp))] := hD
                                  refine lv_iconst (v := 1) hx hb dX4_decides_165 (by decide) ?_
                                  refine lv_istore_n (lv' := [(2, .int 1), (4, .int 1), (0, .ref qM), (1, .int x), (3, .int (nI k))]) hx hb dX4_decides_166 rfl hl (by decide) rfl (fun ls hl => ?_)
                                  refine lv_iinc (v := nI (k + 1)) (lv' := [(3, .int (nI (k + 1))), (2, .int 1), (4, .int 1), (0, .ref qM), (1, .int x)]) hx hb dX4_decides_167 hl (k := 4) rfl (nI_1 _) (by decide) rfl (fun ls hl => ?_)
                                  refine lv_goto (tgt := 33) hx hb dX4_decides_170 (by decide) ?_
                                  have hI9 : mI gf gc ak x n (mRd gf gc ak x n s9.2 k).2 k = false := by unfold mI; rw [c_87, Bool.false_and, Bool.and_false, Bool.and_false]
                                  have hO9 : mO gf gc ak x n (mRd gf gc ak x n s9.2 k).2 k = true := by unfold mO; rw [decide_eq_true c_120, c_140, Bool.true_or, Bool.or_true]; rfl
                                  have hE9 := mRd_o hI9 hO9
                                  have hl : lv_has ls 5 [(0, .ref qM), (1, .int x), (2, .int (zI ((mRd gf gc ak x n s9.2 (k + 1)).1))), (3, .int (nI (k + 1)))] := by rw [hE9]; exact lv_sub hl [3, 4, 1, 0] rfl
                                  have hP : va_P E.1 vwCl [(qM, .inr (4, [.ref uF, .int (nI nf), .ref uS, .ref uW, .int (nI sp), .ref uB, .int (nI n), .ref uO, .ref uG, .ref uR, .ref uK, .ref uT, .int cl, .ref uP, .int th])), (uF, .inl (E.2.2.1, 6, .inl (fun w9 => zI (fb w9)))), (uS, .inl (E.2.1, 14, .inl (fun w9 => nI (src w9)))), (uW, .inl (E.2.2.1, 14, .inl (fun w9 => zI (wb w9)))), (uB, .inl (E.2.1, 3, .inl bk)), (uO, .inl (E.2.1, 16, .inl (fun w9 => nI (ow w9)))), (uG, .inl (E.2.1, 16, .inl gf)), (uR, .inl (E.2.1, 16, .inl gc)), (uK, .inl (E.2.1, 16, .inl ak)), (uT, .inl (E.2.1, 16, .inl ((mRd gf gc ak x n s9.2 (k + 1)).2))), (uP, .inl (E.2.1, 3, .inl rp))] H := by rw [hE9]; exact hP
                                  have hD : va_D A [(qM, .inr (4, [.ref uF, .int (nI nf), .ref uS, .ref uW, .int (nI sp), .ref uB, .int (nI n), .ref uO, .ref uG, .ref uR, .ref uK, .ref uT, .int cl, .ref uP, .int th])), (uF, .inl (E.2.2.1, 6, .inl (fun w9 => zI (fb w9)))), (uS, .inl (E.2.1, 14, .inl (fun w9 => nI (src w9)))), (uW, .inl (E.2.2.1, 14, .inl (fun w9 => zI (wb w9)))), (uB, .inl (E.2.1, 3, .inl bk)), (uO, .inl (E.2.1, 16, .inl (fun w9 => nI (ow w9)))), (uG, .inl (E.2.1, 16, .inl gf)), (uR, .inl (E.2.1, 16, .inl gc)), (uK, .inl (E.2.1, 16, .inl ak)), (uT, .inl (E.2.1, 16, .inl ((mRd gf gc ak x n s9.2 (k + 1)).2))), (uP, .inl (E.2.1, 3, .inl rp))] := by rw [hE9]; exact hD
                                  exact ih33 (k + 1) (by omega) (by omega)  _ _ hP hD hS ls hl
                                · have c_140 := zI_f c_140
                                  refine lv_aload_n hx hb dX4_decides_143 rfl (lv_at hl 1 rfl) ?_
                                  refine lv_aload_n hx hb dX4_decides_144 rfl (lv_at hl 1 rfl) ?_
                                  refine va_get (D := E.1) (ci := 4) (v := .ref uK) (C := RX4) (T := TX4) (N := 15) hx hb hts (fun _ h => List.mem_cons_of_mem _ (List.mem_append_right _ h)) hown hK.1 hP 0 rfl rfl 10 (by decide) (hts (.fieldLink RX4 32 "QuarrelboardModel" "attackers" "[I") (List.mem_of_getElem? (i := 5) rfl)) (fun _ h9 => h9) rfl dX4_decides_145 ?_
                                  refine lv_iload_n hx hb dX4_decides_148 rfl (lv_at hl 4 rfl) ?_
                                  refine k_iald hx hb hK hP 8 (f := ak) k rfl (by omega) (by decide) dX4_decides_149 ?_
                                  refine lv_iconst (v := 1) hx hb dX4_decides_150 (by decide) ?_
                                  refine lv_iconst (v := 0) hx hb dX4_decides_151 (by decide) ?_
                                  refine cl_S (Wc := [(qM, .inr (4, [.ref uF, .int (nI nf), .ref uS, .ref uW, .int (nI sp), .ref uB, .int (nI n), .ref uO, .ref uG, .ref uR, .ref uK, .ref uT, .int cl, .ref uP, .int th])), (uF, .inl (E.2.2.1, 6, .inl (fun w9 => zI (fb w9)))), (uS, .inl (E.2.1, 14, .inl (fun w9 => nI (src w9)))), (uW, .inl (E.2.2.1, 14, .inl (fun w9 => zI (wb w9)))), (uB, .inl (E.2.1, 3, .inl bk)), (uO, .inl (E.2.1, 16, .inl (fun w9 => nI (ow w9)))), (uG, .inl (E.2.1, 16, .inl gf)), (uR, .inl (E.2.1, 16, .inl gc)), (uK, .inl (E.2.1, 16, .inl ak)), (uT, .inl (E.2.1, 16, .inl ((mRd gf gc ak x n s9.2 k).2))), (uP, .inl (E.2.1, 3, .inl rp))]) (As := [.int (ak k), .int 1, .int 0]) (rest := []) ⟨hx, hb, hml, hown, hts⟩ (c_X4_have l E qM uF nf uS uW sp uB n uO uG uR uK uT cl uP th fb src wb bk ow gf gc ak ((mRd gf gc ak x n s9.2 k).2) rp (ak k) 1 false (by omega)) (cwV 3 hts gX4_decides_X4_have rfl rfl rfl (by decide +kernel) ⟨Nat.le_of_ble_eq_true rfl, Nat.le_of_ble_eq_true rfl⟩) hK (hP.sub [0, 1, 2, 3, 4, 5, 6, 7, 8, 9, 10] rfl) (va_recv hK.1 hP (ci := 4) (q0 := 0) rfl rfl) rfl hl.1 rfl (Nat.le_of_ble_eq_true rfl) dX4_decides_152 ⟨Nat.zero_le _, Nat.zero_le _⟩ ?_
                                  refine lv_if_eq (tgt := 167) hx hb dX4_decides_155 (by decide) (fun c_155 => ?_) (fun c_155 => ?_)
                                  · have c_155 := zI_f c_155
                                    refine lv_iinc (v := nI (k + 1)) (lv' := [(3, .int (nI (k + 1))), (4, .int 1), (0, .ref qM), (1, .int x), (2, .int (zI ((mRd gf gc ak x n s9.2 k).1)))]) hx hb dX4_decides_167 hl (k := 4) rfl (nI_1 _) (by decide) rfl (fun ls hl => ?_)
                                    refine lv_goto (tgt := 33) hx hb dX4_decides_170 (by decide) ?_
                                    have hI9 : mI gf gc ak x n (mRd gf gc ak x n s9.2 k).2 k = false := by unfold mI; rw [c_87, Bool.false_and, Bool.and_false, Bool.and_false]
                                    have hO9 : mO gf gc ak x n (mRd gf gc ak x n s9.2 k).2 k = false := by unfold mO; rw [decide_eq_true c_51, c_140, c_155, show (!true || (false || false)) = false from rfl, Bool.and_false]
                                    have hE9 := mRd_n hI9 hO9
                                    have hl : lv_has ls 5 [(0, .ref qM), (1, .int x), (2, .int (zI ((mRd gf gc ak x n s9.2 (k + 1)).1))), (3, .int (nI (k + 1)))] := by rw [hE9]; exact lv_sub hl [2, 3, 4, 0] rfl
                                    have hP : va_P E.1 vwCl [(qM, .inr (4, [.ref uF, .int (nI nf), .ref uS, .ref uW, .int (nI sp), .ref uB, .int (nI n), .ref uO, .ref uG, .ref uR, .ref uK, .ref uT, .int cl, .ref uP, .int th])), (uF, .inl (E.2.2.1, 6, .inl (fun w9 => zI (fb w9)))), (uS, .inl (E.2.1, 14, .inl (fun w9 => nI (src w9)))), (uW, .inl (E.2.2.1, 14, .inl (fun w9 => zI (wb w9)))), (uB, .inl (E.2.1, 3, .inl bk)), (uO, .inl (E.2.1, 16, .inl (fun w9 => nI (ow w9)))), (uG, .inl (E.2.1, 16, .inl gf)), (uR, .inl (E.2.1, 16, .inl gc)), (uK, .inl (E.2.1, 16, .inl ak)), (uT, .inl (E.2.1, 16, .inl ((mRd gf gc ak x n s9.2 (k + 1)).2))), (uP, .inl (E.2.1, 3, .inl rp))] H := by rw [hE9]; exact hP
                                    have hD : va_D A [(qM, .inr (4, [.ref uF, .int (nI nf), .ref uS, .ref uW, .int (nI sp), .ref uB, .int (nI n), .ref uO, .ref uG, .ref uR, .ref uK, .ref uT, .int cl, .ref uP, .int th])), (uF, .inl (E.2.2.1, 6, .inl (fun w9 => zI (fb w9)))), (uS, .inl (E.2.1, 14, .inl (fun w9 => nI (src w9)))), (uW, .inl (E.2.2.1, 14, .inl (fun w9 => zI (wb w9)))), (uB, .inl (E.2.1, 3, .inl bk)), (uO, .inl (E.2.1, 16, .inl (fun w9 => nI (ow w9)))), (uG, .inl (E.2.1, 16, .inl gf)), (uR, .inl (E.2.1, 16, .inl gc)), (uK, .inl (E.2.1, 16, .inl ak)), (uT, .inl (E.2.1, 16, .inl ((mRd gf gc ak x n s9.2 (k + 1)).2))), (uP, .inl (E.2.1, 3, .inl rp))] := by rw [hE9]; exact hD
                                    exact ih33 (k + 1) (by omega) (by omega)  _ _ hP hD hS ls hl
                                  · have c_155 := zI_t c_155
                                    refine lv_aload_n hx hb dX4_decides_158 rfl (lv_at hl 1 rfl) ?_
                                    refine va_get (D := E.1) (ci := 4) (v := .ref uT) (C := RX4) (T := TX4) (N := 15) hx hb hts (fun _ h => List.mem_cons_of_mem _ (List.mem_append_right _ h)) hown hK.1 hP 0 rfl rfl 11 (by decide) (hts (.fieldLink RX4 35 "QuarrelboardModel" "states" "[I") (List.mem_of_getElem? (i := 2) rfl)) (fun _ h9 => h9) rfl dX4_decides_159 ?_
                                    refine lv_iload_n hx hb dX4_decides_162 rfl (lv_at hl 4 rfl) ?_
                                    refine lv_iconst (v := 2) hx hb dX4_decides_163 (by decide) ?_
                                    refine k_iast hx hb hK hP hD hS 9 (f := ((mRd gf gc ak x n s9.2 k).2)) k (x := 2) rfl (by omega) (by decide) dX4_decides_164 (fun H locs hP hD hS => ?_)
                                    have hP : va_P E.1 vwCl [(qM, .inr (4, [.ref uF, .int (nI nf), .ref uS, .ref uW, .int (nI sp), .ref uB, .int (nI n), .ref uO, .ref uG, .ref uR, .ref uK, .ref uT, .int cl, .ref uP, .int th])), (uF, .inl (E.2.2.1, 6, .inl (fun w9 => zI (fb w9)))), (uS, .inl (E.2.1, 14, .inl (fun w9 => nI (src w9)))), (uW, .inl (E.2.2.1, 14, .inl (fun w9 => zI (wb w9)))), (uB, .inl (E.2.1, 3, .inl bk)), (uO, .inl (E.2.1, 16, .inl (fun w9 => nI (ow w9)))), (uG, .inl (E.2.1, 16, .inl gf)), (uR, .inl (E.2.1, 16, .inl gc)), (uK, .inl (E.2.1, 16, .inl ak)), (uT, .inl (E.2.1, 16, .inl (upd ((mRd gf gc ak x n s9.2 k).2) k 2))), (uP, .inl (E.2.1, 3, .inl rp))] H := hP
                                    have hD : va_D A [(qM, .inr (4, [.ref uF, .int (nI nf), .ref uS, .ref uW, .int (nI sp), .ref uB, .int (nI n), .ref uO, .ref uG, .ref uR, .ref uK, .ref uT, .int cl, .ref uP, .int th])), (uF, .inl (E.2.2.1, 6, .inl (fun w9 => zI (fb w9)))), (uS, .inl (E.2.1, 14, .inl (fun w9 => nI (src w9)))), (uW, .inl (E.2.2.1, 14, .inl (fun w9 => zI (wb w9)))), (uB, .inl (E.2.1, 3, .inl bk)), (uO, .inl (E.2.1, 16, .inl (fun w9 => nI (ow w9)))), (uG, .inl (E.2.1, 16, .inl gf)), (uR, .inl (E.2.1, 16, .inl gc)), (uK, .inl (E.2.1, 16, .inl ak)), (uT, .inl (E.2.1, 16, .inl (upd ((mRd gf gc ak x n s9.2 k).2) k 2))), (uP, .inl (E.2.1, 3, .inl rp))] := hD
                                    refine lv_iconst (v := 1) hx hb dX4_decides_165 (by decide) ?_
                                    refine lv_istore_n (lv' := [(2, .int 1), (4, .int 1), (0, .ref qM), (1, .int x), (3, .int (nI k))]) hx hb dX4_decides_166 rfl hl (by decide) rfl (fun ls hl => ?_)
                                    refine lv_iinc (v := nI (k + 1)) (lv' := [(3, .int (nI (k + 1))), (2, .int 1), (4, .int 1), (0, .ref qM), (1, .int x)]) hx hb dX4_decides_167 hl (k := 4) rfl (nI_1 _) (by decide) rfl (fun ls hl => ?_)
                                    refine lv_goto (tgt := 33) hx hb dX4_decides_170 (by decide) ?_
                                    have hI9 : mI gf gc ak x n (mRd gf gc ak x n s9.2 k).2 k = false := by unfold mI; rw [c_87, Bool.false_and, Bool.and_false, Bool.and_false]
                                    have hO9 : mO gf gc ak x n (mRd gf gc ak x n s9.2 k).2 k = true := by unfold mO; rw [decide_eq_true c_120, c_155, Bool.or_true, Bool.or_true]; rfl
                                    have hE9 := mRd_o hI9 hO9
                                    have hl : lv_has ls 5 [(0, .ref qM), (1, .int x), (2, .int (zI ((mRd gf gc ak x n s9.2 (k + 1)).1))), (3, .int (nI (k + 1)))] := by rw [hE9]; exact lv_sub hl [3, 4, 1, 0] rfl
                                    have hP : va_P E.1 vwCl [(qM, .inr (4, [.ref uF, .int (nI nf), .ref uS, .ref uW, .int (nI sp), .ref uB, .int (nI n), .ref uO, .ref uG, .ref uR, .ref uK, .ref uT, .int cl, .ref uP, .int th])), (uF, .inl (E.2.2.1, 6, .inl (fun w9 => zI (fb w9)))), (uS, .inl (E.2.1, 14, .inl (fun w9 => nI (src w9)))), (uW, .inl (E.2.2.1, 14, .inl (fun w9 => zI (wb w9)))), (uB, .inl (E.2.1, 3, .inl bk)), (uO, .inl (E.2.1, 16, .inl (fun w9 => nI (ow w9)))), (uG, .inl (E.2.1, 16, .inl gf)), (uR, .inl (E.2.1, 16, .inl gc)), (uK, .inl (E.2.1, 16, .inl ak)), (uT, .inl (E.2.1, 16, .inl ((mRd gf gc ak x n s9.2 (k + 1)).2))), (uP, .inl (E.2.1, 3, .inl rp))] H := by rw [hE9]; exact hP
                                    have hD : va_D A [(qM, .inr (4, [.ref uF, .int (nI nf), .ref uS, .ref uW, .int (nI sp), .ref uB, .int (nI n), .ref uO, .ref uG, .ref uR, .ref uK, .ref uT, .int cl, .ref uP, .int th])), (uF, .inl (E.2.2.1, 6, .inl (fun w9 => zI (fb w9)))), (uS, .inl (E.2.1, 14, .inl (fun w9 => nI (src w9)))), (uW, .inl (E.2.2.1, 14, .inl (fun w9 => zI (wb w9)))), (uB, .inl (E.2.1, 3, .inl bk)), (uO, .inl (E.2.1, 16, .inl (fun w9 => nI (ow w9)))), (uG, .inl (E.2.1, 16, .inl gf)), (uR, .inl (E.2.1, 16, .inl gc)), (uK, .inl (E.2.1, 16, .inl ak)), (uT, .inl (E.2.1, 16, .inl ((mRd gf gc ak x n s9.2 (k + 1)).2))), (uP, .inl (E.2.1, 3, .inl rp))] := by rw [hE9]; exact hD
                                    exact ih33 (k + 1) (by omega) (by omega)  _ _ hP hD hS ls hl
                          · have c_87 := zI_t c_87
                            refine lv_aload_n hx hb dX4_decides_90 rfl (lv_at hl 1 rfl) ?_
                            refine lv_aload_n hx hb dX4_decides_91 rfl (lv_at hl 1 rfl) ?_
                            refine va_get (D := E.1) (ci := 4) (v := .ref uK) (C := RX4) (T := TX4) (N := 15) hx hb hts (fun _ h => List.mem_cons_of_mem _ (List.mem_append_right _ h)) hown hK.1 hP 0 rfl rfl 10 (by decide) (hts (.fieldLink RX4 32 "QuarrelboardModel" "attackers" "[I") (List.mem_of_getElem? (i := 5) rfl)) (fun _ h9 => h9) rfl dX4_decides_92 ?_
                            refine lv_iload_n hx hb dX4_decides_95 rfl (lv_at hl 4 rfl) ?_
                            refine k_iald hx hb hK hP 8 (f := ak) k rfl (by omega) (by decide) dX4_decides_96 ?_
                            refine lv_iconst (v := 2) hx hb dX4_decides_97 (by decide) ?_
                            refine lv_iconst (v := 1) hx hb dX4_decides_98 (by decide) ?_
                            refine cl_S (Wc := [(qM, .inr (4, [.ref uF, .int (nI nf), .ref uS, .ref uW, .int (nI sp), .ref uB, .int (nI n), .ref uO, .ref uG, .ref uR, .ref uK, .ref uT, .int cl, .ref uP, .int th])), (uF, .inl (E.2.2.1, 6, .inl (fun w9 => zI (fb w9)))), (uS, .inl (E.2.1, 14, .inl (fun w9 => nI (src w9)))), (uW, .inl (E.2.2.1, 14, .inl (fun w9 => zI (wb w9)))), (uB, .inl (E.2.1, 3, .inl bk)), (uO, .inl (E.2.1, 16, .inl (fun w9 => nI (ow w9)))), (uG, .inl (E.2.1, 16, .inl gf)), (uR, .inl (E.2.1, 16, .inl gc)), (uK, .inl (E.2.1, 16, .inl ak)), (uT, .inl (E.2.1, 16, .inl ((mRd gf gc ak x n s9.2 k).2))), (uP, .inl (E.2.1, 3, .inl rp))]) (As := [.int (ak k), .int 2, .int 1]) (rest := []) ⟨hx, hb, hml, hown, hts⟩ (c_X4_have l E qM uF nf uS uW sp uB n uO uG uR uK uT cl uP th fb src wb bk ow gf gc ak ((mRd gf gc ak x n s9.2 k).2) rp (ak k) 2 true (by omega)) (cwV 3 hts gX4_decides_X4_have rfl rfl rfl (by decide +kernel) ⟨Nat.le_of_ble_eq_true rfl, Nat.le_of_ble_eq_true rfl⟩) hK (hP.sub [0, 1, 2, 3, 4, 5, 6, 7, 8, 9, 10] rfl) (va_recv hK.1 hP (ci := 4) (q0 := 0) rfl rfl) rfl hl.1 rfl (Nat.le_of_ble_eq_true rfl) dX4_decides_99 ⟨Nat.zero_le _, Nat.zero_le _⟩ ?_
                            refine lv_if_eq (tgt := 114) hx hb dX4_decides_102 (by decide) (fun c_102 => ?_) (fun c_102 => ?_)
                            · have c_102 := zI_f c_102
                              refine lv_aload_n hx hb dX4_decides_114 rfl (lv_at hl 1 rfl) ?_
                              refine va_get (D := E.1) (ci := 4) (v := .ref uT) (C := RX4) (T := TX4) (N := 15) hx hb hts (fun _ h => List.mem_cons_of_mem _ (List.mem_append_right _ h)) hown hK.1 hP 0 rfl rfl 11 (by decide) (hts (.fieldLink RX4 35 "QuarrelboardModel" "states" "[I") (List.mem_of_getElem? (i := 2) rfl)) (fun _ h9 => h9) rfl dX4_decides_115 ?_
                              refine lv_iload_n hx hb dX4_decides_118 rfl (lv_at hl 4 rfl) ?_
                              refine k_iald hx hb hK hP 9 (f := ((mRd gf gc ak x n s9.2 k).2)) k rfl (by omega) (by decide) dX4_decides_119 ?_
                              refine lv_if_ne (tgt := 167) hx hb dX4_decides_120 (by decide) (fun c_120 => ?_) (fun c_120 => ?_)
                              · skip
                                refine lv_iinc (v := nI (k + 1)) (lv' := [(3, .int (nI (k + 1))), (4, .int 1), (0, .ref qM), (1, .int x), (2, .int (zI ((mRd gf gc ak x n s9.2 k).1)))]) hx hb dX4_decides_167 hl (k := 4) rfl (nI_1 _) (by decide) rfl (fun ls hl => ?_)
                                refine lv_goto (tgt := 33) hx hb dX4_decides_170 (by decide) ?_
                                have hI9 : mI gf gc ak x n (mRd gf gc ak x n s9.2 k).2 k = false := by unfold mI; rw [c_102, Bool.and_false, Bool.and_false, Bool.and_false]
                                have hO9 : mO gf gc ak x n (mRd gf gc ak x n s9.2 k).2 k = false := by unfold mO; rw [decide_eq_false c_120]; rfl
                                have hE9 := mRd_n hI9 hO9
                                have hl : lv_has ls 5 [(0, .ref qM), (1, .int x), (2, .int (zI ((mRd gf gc ak x n s9.2 (k + 1)).1))), (3, .int (nI (k + 1)))] := by rw [hE9]; exact lv_sub hl [2, 3, 4, 0] rfl
                                have hP : va_P E.1 vwCl [(qM, .inr (4, [.ref uF, .int (nI nf), .ref uS, .ref uW, .int (nI sp), .ref uB, .int (nI n), .ref uO, .ref uG, .ref uR, .ref uK, .ref uT, .int cl, .ref uP, .int th])), (uF, .inl (E.2.2.1, 6, .inl (fun w9 => zI (fb w9)))), (uS, .inl (E.2.1, 14, .inl (fun w9 => nI (src w9)))), (uW, .inl (E.2.2.1, 14, .inl (fun w9 => zI (wb w9)))), (uB, .inl (E.2.1, 3, .inl bk)), (uO, .inl (E.2.1, 16, .inl (fun w9 => nI (ow w9)))), (uG, .inl (E.2.1, 16, .inl gf)), (uR, .inl (E.2.1, 16, .inl gc)), (uK, .inl (E.2.1, 16, .inl ak)), (uT, .inl (E.2.1, 16, .inl ((mRd gf gc ak x n s9.2 (k + 1)).2))), (uP, .inl (E.2.1, 3, .inl rp))] H := by rw [hE9]; exact hP
                                have hD : va_D A [(qM, .inr (4, [.ref uF, .int (nI nf), .ref uS, .ref uW, .int (nI sp), .ref uB, .int (nI n), .ref uO, .ref uG, .ref uR, .ref uK, .ref uT, .int cl, .ref uP, .int th])), (uF, .inl (E.2.2.1, 6, .inl (fun w9 => zI (fb w9)))), (uS, .inl (E.2.1, 14, .inl (fun w9 => nI (src w9)))), (uW, .inl (E.2.2.1, 14, .inl (fun w9 => zI (wb w9)))), (uB, .inl (E.2.1, 3, .inl bk)), (uO, .inl (E.2.1, 16, .inl (fun w9 => nI (ow w9)))), (uG, .inl (E.2.1, 16, .inl gf)), (uR, .inl (E.2.1, 16, .inl gc)), (uK, .inl (E.2.1, 16, .inl ak)), (uT, .inl (E.2.1, 16, .inl ((mRd gf gc ak x n s9.2 (k + 1)).2))), (uP, .inl (E.2.1, 3, .inl rp))] := by rw [hE9]; exact hD
                                exact ih33 (k + 1) (by omega) (by omega)  _ _ hP hD hS ls hl
                              · skip
                                refine lv_iload hx hb dX4_decides_123 (lv_at hl 0 rfl) ?_
                                refine lv_if_eq (tgt := 158) hx hb dX4_decides_125 (by decide) (fun c_125 => ?_) (fun c_125 => ?_)
                                · skip
                                  exact absurd c_125 (by decide)
                                · skip
                                  refine lv_aload_n hx hb dX4_decides_128 rfl (lv_at hl 1 rfl) ?_
                                  refine lv_aload_n hx hb dX4_decides_129 rfl (lv_at hl 1 rfl) ?_
                                  refine va_get (D := E.1) (ci := 4) (v := .ref uR) (C := RX4) (T := TX4) (N := 15) hx hb hts (fun _ h => List.mem_cons_of_mem _ (List.mem_append_right _ h)) hown hK.1 hP 0 rfl rfl 9 (by decide) (hts (.fieldLink RX4 29 "QuarrelboardModel" "rests" "[I") (List.mem_of_getElem? (i := 4) rfl)) (fun _ h9 => h9) rfl dX4_decides_130 ?_
                                  refine lv_iload_n hx hb dX4_decides_133 rfl (lv_at hl 4 rfl) ?_
                                  refine k_iald hx hb hK hP 7 (f := gc) k rfl (by omega) (by decide) dX4_decides_134 ?_
                                  refine lv_iconst (v := 2) hx hb dX4_decides_135 (by decide) ?_
                                  refine lv_iconst (v := 0) hx hb dX4_decides_136 (by decide) ?_
                                  refine cl_S (Wc := [(qM, .inr (4, [.ref uF, .int (nI nf), .ref uS, .ref uW, .int (nI sp), .ref uB, .int (nI n), .ref uO, .ref uG, .ref uR, .ref uK, .ref uT, .int cl, .ref uP, .int th])), (uF, .inl (E.2.2.1, 6, .inl (fun w9 => zI (fb w9)))), (uS, .inl (E.2.1, 14, .inl (fun w9 => nI (src w9)))), (uW, .inl (E.2.2.1, 14, .inl (fun w9 => zI (wb w9)))), (uB, .inl (E.2.1, 3, .inl bk)), (uO, .inl (E.2.1, 16, .inl (fun w9 => nI (ow w9)))), (uG, .inl (E.2.1, 16, .inl gf)), (uR, .inl (E.2.1, 16, .inl gc)), (uK, .inl (E.2.1, 16, .inl ak)), (uT, .inl (E.2.1, 16, .inl ((mRd gf gc ak x n s9.2 k).2))), (uP, .inl (E.2.1, 3, .inl rp))]) (As := [.int (gc k), .int 2, .int 0]) (rest := []) ⟨hx, hb, hml, hown, hts⟩ (c_X4_have l E qM uF nf uS uW sp uB n uO uG uR uK uT cl uP th fb src wb bk ow gf gc ak ((mRd gf gc ak x n s9.2 k).2) rp (gc k) 2 false (by omega)) (cwV 3 hts gX4_decides_X4_have rfl rfl rfl (by decide +kernel) ⟨Nat.le_of_ble_eq_true rfl, Nat.le_of_ble_eq_true rfl⟩) hK (hP.sub [0, 1, 2, 3, 4, 5, 6, 7, 8, 9, 10] rfl) (va_recv hK.1 hP (ci := 4) (q0 := 0) rfl rfl) rfl hl.1 rfl (Nat.le_of_ble_eq_true rfl) dX4_decides_137 ⟨Nat.zero_le _, Nat.zero_le _⟩ ?_
                                  refine lv_if_ne (tgt := 158) hx hb dX4_decides_140 (by decide) (fun c_140 => ?_) (fun c_140 => ?_)
                                  · have c_140 := zI_t c_140
                                    refine lv_aload_n hx hb dX4_decides_158 rfl (lv_at hl 1 rfl) ?_
                                    refine va_get (D := E.1) (ci := 4) (v := .ref uT) (C := RX4) (T := TX4) (N := 15) hx hb hts (fun _ h => List.mem_cons_of_mem _ (List.mem_append_right _ h)) hown hK.1 hP 0 rfl rfl 11 (by decide) (hts (.fieldLink RX4 35 "QuarrelboardModel" "states" "[I") (List.mem_of_getElem? (i := 2) rfl)) (fun _ h9 => h9) rfl dX4_decides_159 ?_
                                    refine lv_iload_n hx hb dX4_decides_162 rfl (lv_at hl 4 rfl) ?_
                                    refine lv_iconst (v := 2) hx hb dX4_decides_163 (by decide) ?_
                                    refine k_iast hx hb hK hP hD hS 9 (f := ((mRd gf gc ak x n s9.2 k).2)) k (x := 2) rfl (by omega) (by decide) dX4_decides_164 (fun H locs hP hD hS => ?_)
                                    have hP : va_P E.1 vwCl [(qM, .inr (4, [.ref uF, .int (nI nf), .ref uS, .ref uW, .int (nI sp), .ref uB, .int (nI n), .ref uO, .ref uG, .ref uR, .ref uK, .ref uT, .int cl, .ref uP, .int th])), (uF, .inl (E.2.2.1, 6, .inl (fun w9 => zI (fb w9)))), (uS, .inl (E.2.1, 14, .inl (fun w9 => nI (src w9)))), (uW, .inl (E.2.2.1, 14, .inl (fun w9 => zI (wb w9)))), (uB, .inl (E.2.1, 3, .inl bk)), (uO, .inl (E.2.1, 16, .inl (fun w9 => nI (ow w9)))), (uG, .inl (E.2.1, 16, .inl gf)), (uR, .inl (E.2.1, 16, .inl gc)), (uK, .inl (E.2.1, 16, .inl ak)), (uT, .inl (E.2.1, 16, .inl (upd ((mRd gf gc ak x n s9.2 k).2) k 2))), (uP, .inl (E.2.1, 3, .inl rp))] H := hP
                                    have hD : va_D A [(qM, .inr (4, [.ref uF, .int (nI nf), .ref uS, .ref uW, .int (nI sp), .ref uB, .int (nI n), .ref uO, .ref uG, .ref uR, .ref uK, .ref uT, .int cl, .ref uP, .int th])), (uF, .inl (E.2.2.1, 6, .inl (fun w9 => zI (fb w9)))), (uS, .inl (E.2.1, 14, .inl (fun w9 => nI (src w9)))), (uW, .inl (E.2.2.1, 14, .inl (fun w9 => zI (wb w9)))), (uB, .inl (E.2.1, 3, .inl bk)), (uO, .inl (E.2.1, 16, .inl (fun w9 => nI (ow w9)))), (uG, .inl (E.2.1, 16, .inl gf)), (uR, .inl (E.2.1, 16, .inl gc)), (uK, .inl (E.2.1, 16, .inl ak)), (uT, .inl (E.2.1, 16, .inl (upd ((mRd gf gc ak x n s9.2 k).2) k 2))), (uP, .inl (E.2.1, 3, .inl rp))] := hD
                                    refine lv_iconst (v := 1) hx hb dX4_decides_165 (by decide) ?_
                                    refine lv_istore_n (lv' := [(2, .int 1), (4, .int 1), (0, .ref qM), (1, .int x), (3, .int (nI k))]) hx hb dX4_decides_166 rfl hl (by decide) rfl (fun ls hl => ?_)
                                    refine lv_iinc (v := nI (k + 1)) (lv' := [(3, .int (nI (k + 1))), (2, .int 1), (4, .int 1), (0, .ref qM), (1, .int x)]) hx hb dX4_decides_167 hl (k := 4) rfl (nI_1 _) (by decide) rfl (fun ls hl => ?_)
                                    refine lv_goto (tgt := 33) hx hb dX4_decides_170 (by decide) ?_
                                    have hI9 : mI gf gc ak x n (mRd gf gc ak x n s9.2 k).2 k = false := by unfold mI; rw [c_102, Bool.and_false, Bool.and_false, Bool.and_false]
                                    have hO9 : mO gf gc ak x n (mRd gf gc ak x n s9.2 k).2 k = true := by unfold mO; rw [decide_eq_true c_120, c_140, Bool.true_or, Bool.or_true]; rfl
                                    have hE9 := mRd_o hI9 hO9
                                    have hl : lv_has ls 5 [(0, .ref qM), (1, .int x), (2, .int (zI ((mRd gf gc ak x n s9.2 (k + 1)).1))), (3, .int (nI (k + 1)))] := by rw [hE9]; exact lv_sub hl [3, 4, 1, 0] rfl
                                    have hP : va_P E.1 vwCl [(qM, .inr (4, [.ref uF, .int (nI nf), .ref uS, .ref uW, .int (nI sp), .ref uB, .int (nI n), .ref uO, .ref uG, .ref uR, .ref uK, .ref uT, .int cl, .ref uP, .int th])), (uF, .inl (E.2.2.1, 6, .inl (fun w9 => zI (fb w9)))), (uS, .inl (E.2.1, 14, .inl (fun w9 => nI (src w9)))), (uW, .inl (E.2.2.1, 14, .inl (fun w9 => zI (wb w9)))), (uB, .inl (E.2.1, 3, .inl bk)), (uO, .inl (E.2.1, 16, .inl (fun w9 => nI (ow w9)))), (uG, .inl (E.2.1, 16, .inl gf)), (uR, .inl (E.2.1, 16, .inl gc)), (uK, .inl (E.2.1, 16, .inl ak)), (uT, .inl (E.2.1, 16, .inl ((mRd gf gc ak x n s9.2 (k + 1)).2))), (uP, .inl (E.2.1, 3, .inl rp))] H := by rw [hE9]; exact hP
                                    have hD : va_D A [(qM, .inr (4, [.ref uF, .int (nI nf), .ref uS, .ref uW, .int (nI sp), .ref uB, .int (nI n), .ref uO, .ref uG, .ref uR, .ref uK, .ref uT, .int cl, .ref uP, .int th])), (uF, .inl (E.2.2.1, 6, .inl (fun w9 => zI (fb w9)))), (uS, .inl (E.2.1, 14, .inl (fun w9 => nI (src w9)))), (uW, .inl (E.2.2.1, 14, .inl (fun w9 => zI (wb w9)))), (uB, .inl (E.2.1, 3, .inl bk)), (uO, .inl (E.2.1, 16, .inl (fun w9 => nI (ow w9)))), (uG, .inl (E.2.1, 16, .inl gf)), (uR, .inl (E.2.1, 16, .inl gc)), (uK, .inl (E.2.1, 16, .inl ak)), (uT, .inl (E.2.1, 16, .inl ((mRd gf gc ak x n s9.2 (k + 1)).2))), (uP, .inl (E.2.1, 3, .inl rp))] := by rw [hE9]; exact hD
                                    exact ih33 (k + 1) (by omega) (by omega)  _ _ hP hD hS ls hl
                                  · have c_140 := zI_f c_140
                                    refine lv_aload_n hx hb dX4_decides_143 rfl (lv_at hl 1 rfl) ?_
                                    refine lv_aload_n hx hb dX4_decides_144 rfl (lv_at hl 1 rfl) ?_
                                    refine va_get (D := E.1) (ci := 4) (v := .ref uK) (C := RX4) (T := TX4) (N := 15) hx hb hts (fun _ h => List.mem_cons_of_mem _ (List.mem_append_right _ h)) hown hK.1 hP 0 rfl rfl 10 (by decide) (hts (.fieldLink RX4 32 "QuarrelboardModel" "attackers" "[I") (List.mem_of_getElem? (i := 5) rfl)) (fun _ h9 => h9) rfl dX4_decides_145 ?_
                                    refine lv_iload_n hx hb dX4_decides_148 rfl (lv_at hl 4 rfl) ?_
                                    refine k_iald hx hb hK hP 8 (f := ak) k rfl (by omega) (by decide) dX4_decides_149 ?_
                                    refine lv_iconst (v := 1) hx hb dX4_decides_150 (by decide) ?_
                                    refine lv_iconst (v := 0) hx hb dX4_decides_151 (by decide) ?_
                                    refine cl_S (Wc := [(qM, .inr (4, [.ref uF, .int (nI nf), .ref uS, .ref uW, .int (nI sp), .ref uB, .int (nI n), .ref uO, .ref uG, .ref uR, .ref uK, .ref uT, .int cl, .ref uP, .int th])), (uF, .inl (E.2.2.1, 6, .inl (fun w9 => zI (fb w9)))), (uS, .inl (E.2.1, 14, .inl (fun w9 => nI (src w9)))), (uW, .inl (E.2.2.1, 14, .inl (fun w9 => zI (wb w9)))), (uB, .inl (E.2.1, 3, .inl bk)), (uO, .inl (E.2.1, 16, .inl (fun w9 => nI (ow w9)))), (uG, .inl (E.2.1, 16, .inl gf)), (uR, .inl (E.2.1, 16, .inl gc)), (uK, .inl (E.2.1, 16, .inl ak)), (uT, .inl (E.2.1, 16, .inl ((mRd gf gc ak x n s9.2 k).2))), (uP, .inl (E.2.1, 3, .inl rp))]) (As := [.int (ak k), .int 1, .int 0]) (rest := []) ⟨hx, hb, hml, hown, hts⟩ (c_X4_have l E qM uF nf uS uW sp uB n uO uG uR uK uT cl uP th fb src wb bk ow gf gc ak ((mRd gf gc ak x n s9.2 k).2) rp (ak k) 1 false (by omega)) (cwV 3 hts gX4_decides_X4_have rfl rfl rfl (by decide +kernel) ⟨Nat.le_of_ble_eq_true rfl, Nat.le_of_ble_eq_true rfl⟩) hK (hP.sub [0, 1, 2, 3, 4, 5, 6, 7, 8, 9, 10] rfl) (va_recv hK.1 hP (ci := 4) (q0 := 0) rfl rfl) rfl hl.1 rfl (Nat.le_of_ble_eq_true rfl) dX4_decides_152 ⟨Nat.zero_le _, Nat.zero_le _⟩ ?_
                                    refine lv_if_eq (tgt := 167) hx hb dX4_decides_155 (by decide) (fun c_155 => ?_) (fun c_155 => ?_)
                                    · have c_155 := zI_f c_155
                                      refine lv_iinc (v := nI (k + 1)) (lv' := [(3, .int (nI (k + 1))), (4, .int 1), (0, .ref qM), (1, .int x), (2, .int (zI ((mRd gf gc ak x n s9.2 k).1)))]) hx hb dX4_decides_167 hl (k := 4) rfl (nI_1 _) (by decide) rfl (fun ls hl => ?_)
                                      refine lv_goto (tgt := 33) hx hb dX4_decides_170 (by decide) ?_
                                      have hI9 : mI gf gc ak x n (mRd gf gc ak x n s9.2 k).2 k = false := by unfold mI; rw [c_102, Bool.and_false, Bool.and_false, Bool.and_false]
                                      have hO9 : mO gf gc ak x n (mRd gf gc ak x n s9.2 k).2 k = false := by unfold mO; rw [decide_eq_true c_51, c_140, c_155, show (!true || (false || false)) = false from rfl, Bool.and_false]
                                      have hE9 := mRd_n hI9 hO9
                                      have hl : lv_has ls 5 [(0, .ref qM), (1, .int x), (2, .int (zI ((mRd gf gc ak x n s9.2 (k + 1)).1))), (3, .int (nI (k + 1)))] := by rw [hE9]; exact lv_sub hl [2, 3, 4, 0] rfl
                                      have hP : va_P E.1 vwCl [(qM, .inr (4, [.ref uF, .int (nI nf), .ref uS, .ref uW, .int (nI sp), .ref uB, .int (nI n), .ref uO, .ref uG, .ref uR, .ref uK, .ref uT, .int cl, .ref uP, .int th])), (uF, .inl (E.2.2.1, 6, .inl (fun w9 => zI (fb w9)))), (uS, .inl (E.2.1, 14, .inl (fun w9 => nI (src w9)))), (uW, .inl (E.2.2.1, 14, .inl (fun w9 => zI (wb w9)))), (uB, .inl (E.2.1, 3, .inl bk)), (uO, .inl (E.2.1, 16, .inl (fun w9 => nI (ow w9)))), (uG, .inl (E.2.1, 16, .inl gf)), (uR, .inl (E.2.1, 16, .inl gc)), (uK, .inl (E.2.1, 16, .inl ak)), (uT, .inl (E.2.1, 16, .inl ((mRd gf gc ak x n s9.2 (k + 1)).2))), (uP, .inl (E.2.1, 3, .inl rp))] H := by rw [hE9]; exact hP
                                      have hD : va_D A [(qM, .inr (4, [.ref uF, .int (nI nf), .ref uS, .ref uW, .int (nI sp), .ref uB, .int (nI n), .ref uO, .ref uG, .ref uR, .ref uK, .ref uT, .int cl, .ref uP, .int th])), (uF, .inl (E.2.2.1, 6, .inl (fun w9 => zI (fb w9)))), (uS, .inl (E.2.1, 14, .inl (fun w9 => nI (src w9)))), (uW, .inl (E.2.2.1, 14, .inl (fun w9 => zI (wb w9)))), (uB, .inl (E.2.1, 3, .inl bk)), (uO, .inl (E.2.1, 16, .inl (fun w9 => nI (ow w9)))), (uG, .inl (E.2.1, 16, .inl gf)), (uR, .inl (E.2.1, 16, .inl gc)), (uK, .inl (E.2.1, 16, .inl ak)), (uT, .inl (E.2.1, 16, .inl ((mRd gf gc ak x n s9.2 (k + 1)).2))), (uP, .inl (E.2.1, 3, .inl rp))] := by rw [hE9]; exact hD
                                      exact ih33 (k + 1) (by omega) (by omega)  _ _ hP hD hS ls hl
                                    · have c_155 := zI_t c_155
                                      refine lv_aload_n hx hb dX4_decides_158 rfl (lv_at hl 1 rfl) ?_
                                      refine va_get (D := E.1) (ci := 4) (v := .ref uT) (C := RX4) (T := TX4) (N := 15) hx hb hts (fun _ h => List.mem_cons_of_mem _ (List.mem_append_right _ h)) hown hK.1 hP 0 rfl rfl 11 (by decide) (hts (.fieldLink RX4 35 "QuarrelboardModel" "states" "[I") (List.mem_of_getElem? (i := 2) rfl)) (fun _ h9 => h9) rfl dX4_decides_159 ?_
                                      refine lv_iload_n hx hb dX4_decides_162 rfl (lv_at hl 4 rfl) ?_
                                      refine lv_iconst (v := 2) hx hb dX4_decides_163 (by decide) ?_
                                      refine k_iast hx hb hK hP hD hS 9 (f := ((mRd gf gc ak x n s9.2 k).2)) k (x := 2) rfl (by omega) (by decide) dX4_decides_164 (fun H locs hP hD hS => ?_)
                                      have hP : va_P E.1 vwCl [(qM, .inr (4, [.ref uF, .int (nI nf), .ref uS, .ref uW, .int (nI sp), .ref uB, .int (nI n), .ref uO, .ref uG, .ref uR, .ref uK, .ref uT, .int cl, .ref uP, .int th])), (uF, .inl (E.2.2.1, 6, .inl (fun w9 => zI (fb w9)))), (uS, .inl (E.2.1, 14, .inl (fun w9 => nI (src w9)))), (uW, .inl (E.2.2.1, 14, .inl (fun w9 => zI (wb w9)))), (uB, .inl (E.2.1, 3, .inl bk)), (uO, .inl (E.2.1, 16, .inl (fun w9 => nI (ow w9)))), (uG, .inl (E.2.1, 16, .inl gf)), (uR, .inl (E.2.1, 16, .inl gc)), (uK, .inl (E.2.1, 16, .inl ak)), (uT, .inl (E.2.1, 16, .inl (upd ((mRd gf gc ak x n s9.2 k).2) k 2))), (uP, .inl (E.2.1, 3, .inl rp))] H := hP
                                      have hD : va_D A [(qM, .inr (4, [.ref uF, .int (nI nf), .ref uS, .ref uW, .int (nI sp), .ref uB, .int (nI n), .ref uO, .ref uG, .ref uR, .ref uK, .ref uT, .int cl, .ref uP, .int th])), (uF, .inl (E.2.2.1, 6, .inl (fun w9 => zI (fb w9)))), (uS, .inl (E.2.1, 14, .inl (fun w9 => nI (src w9)))), (uW, .inl (E.2.2.1, 14, .inl (fun w9 => zI (wb w9)))), (uB, .inl (E.2.1, 3, .inl bk)), (uO, .inl (E.2.1, 16, .inl (fun w9 => nI (ow w9)))), (uG, .inl (E.2.1, 16, .inl gf)), (uR, .inl (E.2.1, 16, .inl gc)), (uK, .inl (E.2.1, 16, .inl ak)), (uT, .inl (E.2.1, 16, .inl (upd ((mRd gf gc ak x n s9.2 k).2) k 2))), (uP, .inl (E.2.1, 3, .inl rp))] := hD
                                      refine lv_iconst (v := 1) hx hb dX4_decides_165 (by decide) ?_
                                      refine lv_istore_n (lv' := [(2, .int 1), (4, .int 1), (0, .ref qM), (1, .int x), (3, .int (nI k))]) hx hb dX4_decides_166 rfl hl (by decide) rfl (fun ls hl => ?_)
                                      refine lv_iinc (v := nI (k + 1)) (lv' := [(3, .int (nI (k + 1))), (2, .int 1), (4, .int 1), (0, .ref qM), (1, .int x)]) hx hb dX4_decides_167 hl (k := 4) rfl (nI_1 _) (by decide) rfl (fun ls hl => ?_)
                                      refine lv_goto (tgt := 33) hx hb dX4_decides_170 (by decide) ?_
                                      have hI9 : mI gf gc ak x n (mRd gf gc ak x n s9.2 k).2 k = false := by unfold mI; rw [c_102, Bool.and_false, Bool.and_false, Bool.and_false]
                                      have hO9 : mO gf gc ak x n (mRd gf gc ak x n s9.2 k).2 k = true := by unfold mO; rw [decide_eq_true c_120, c_155, Bool.or_true, Bool.or_true]; rfl
                                      have hE9 := mRd_o hI9 hO9
                                      have hl : lv_has ls 5 [(0, .ref qM), (1, .int x), (2, .int (zI ((mRd gf gc ak x n s9.2 (k + 1)).1))), (3, .int (nI (k + 1)))] := by rw [hE9]; exact lv_sub hl [3, 4, 1, 0] rfl
                                      have hP : va_P E.1 vwCl [(qM, .inr (4, [.ref uF, .int (nI nf), .ref uS, .ref uW, .int (nI sp), .ref uB, .int (nI n), .ref uO, .ref uG, .ref uR, .ref uK, .ref uT, .int cl, .ref uP, .int th])), (uF, .inl (E.2.2.1, 6, .inl (fun w9 => zI (fb w9)))), (uS, .inl (E.2.1, 14, .inl (fun w9 => nI (src w9)))), (uW, .inl (E.2.2.1, 14, .inl (fun w9 => zI (wb w9)))), (uB, .inl (E.2.1, 3, .inl bk)), (uO, .inl (E.2.1, 16, .inl (fun w9 => nI (ow w9)))), (uG, .inl (E.2.1, 16, .inl gf)), (uR, .inl (E.2.1, 16, .inl gc)), (uK, .inl (E.2.1, 16, .inl ak)), (uT, .inl (E.2.1, 16, .inl ((mRd gf gc ak x n s9.2 (k + 1)).2))), (uP, .inl (E.2.1, 3, .inl rp))] H := by rw [hE9]; exact hP
                                      have hD : va_D A [(qM, .inr (4, [.ref uF, .int (nI nf), .ref uS, .ref uW, .int (nI sp), .ref uB, .int (nI n), .ref uO, .ref uG, .ref uR, .ref uK, .ref uT, .int cl, .ref uP, .int th])), (uF, .inl (E.2.2.1, 6, .inl (fun w9 => zI (fb w9)))), (uS, .inl (E.2.1, 14, .inl (fun w9 => nI (src w9)))), (uW, .inl (E.2.2.1, 14, .inl (fun w9 => zI (wb w9)))), (uB, .inl (E.2.1, 3, .inl bk)), (uO, .inl (E.2.1, 16, .inl (fun w9 => nI (ow w9)))), (uG, .inl (E.2.1, 16, .inl gf)), (uR, .inl (E.2.1, 16, .inl gc)), (uK, .inl (E.2.1, 16, .inl ak)), (uT, .inl (E.2.1, 16, .inl ((mRd gf gc ak x n s9.2 (k + 1)).2))), (uP, .inl (E.2.1, 3, .inl rp))] := by rw [hE9]; exact hD
                                      exact ih33 (k + 1) (by omega) (by omega)  _ _ hP hD hS ls hl
                            · have c_102 := zI_t c_102
                              refine lv_aload_n hx hb dX4_decides_105 rfl (lv_at hl 1 rfl) ?_
                              refine va_get (D := E.1) (ci := 4) (v := .ref uT) (C := RX4) (T := TX4) (N := 15) hx hb hts (fun _ h => List.mem_cons_of_mem _ (List.mem_append_right _ h)) hown hK.1 hP 0 rfl rfl 11 (by decide) (hts (.fieldLink RX4 35 "QuarrelboardModel" "states" "[I") (List.mem_of_getElem? (i := 2) rfl)) (fun _ h9 => h9) rfl dX4_decides_106 ?_
                              refine lv_iload_n hx hb dX4_decides_109 rfl (lv_at hl 4 rfl) ?_
                              refine lv_iconst (v := 1) hx hb dX4_decides_110 (by decide) ?_
                              refine k_iast hx hb hK hP hD hS 9 (f := ((mRd gf gc ak x n s9.2 k).2)) k (x := 1) rfl (by omega) (by decide) dX4_decides_111 (fun H locs hP hD hS => ?_)
                              have hP : va_P E.1 vwCl [(qM, .inr (4, [.ref uF, .int (nI nf), .ref uS, .ref uW, .int (nI sp), .ref uB, .int (nI n), .ref uO, .ref uG, .ref uR, .ref uK, .ref uT, .int cl, .ref uP, .int th])), (uF, .inl (E.2.2.1, 6, .inl (fun w9 => zI (fb w9)))), (uS, .inl (E.2.1, 14, .inl (fun w9 => nI (src w9)))), (uW, .inl (E.2.2.1, 14, .inl (fun w9 => zI (wb w9)))), (uB, .inl (E.2.1, 3, .inl bk)), (uO, .inl (E.2.1, 16, .inl (fun w9 => nI (ow w9)))), (uG, .inl (E.2.1, 16, .inl gf)), (uR, .inl (E.2.1, 16, .inl gc)), (uK, .inl (E.2.1, 16, .inl ak)), (uT, .inl (E.2.1, 16, .inl (upd ((mRd gf gc ak x n s9.2 k).2) k 1))), (uP, .inl (E.2.1, 3, .inl rp))] H := hP
                              have hD : va_D A [(qM, .inr (4, [.ref uF, .int (nI nf), .ref uS, .ref uW, .int (nI sp), .ref uB, .int (nI n), .ref uO, .ref uG, .ref uR, .ref uK, .ref uT, .int cl, .ref uP, .int th])), (uF, .inl (E.2.2.1, 6, .inl (fun w9 => zI (fb w9)))), (uS, .inl (E.2.1, 14, .inl (fun w9 => nI (src w9)))), (uW, .inl (E.2.2.1, 14, .inl (fun w9 => zI (wb w9)))), (uB, .inl (E.2.1, 3, .inl bk)), (uO, .inl (E.2.1, 16, .inl (fun w9 => nI (ow w9)))), (uG, .inl (E.2.1, 16, .inl gf)), (uR, .inl (E.2.1, 16, .inl gc)), (uK, .inl (E.2.1, 16, .inl ak)), (uT, .inl (E.2.1, 16, .inl (upd ((mRd gf gc ak x n s9.2 k).2) k 1))), (uP, .inl (E.2.1, 3, .inl rp))] := hD
                              refine lv_iconst (v := 1) hx hb dX4_decides_112 (by decide) ?_
                              refine lv_istore_n (lv' := [(2, .int 1), (4, .int 1), (0, .ref qM), (1, .int x), (3, .int (nI k))]) hx hb dX4_decides_113 rfl hl (by decide) rfl (fun ls hl => ?_)
                              refine lv_aload_n hx hb dX4_decides_114 rfl (lv_at hl 2 rfl) ?_
                              refine va_get (D := E.1) (ci := 4) (v := .ref uT) (C := RX4) (T := TX4) (N := 15) hx hb hts (fun _ h => List.mem_cons_of_mem _ (List.mem_append_right _ h)) hown hK.1 hP 0 rfl rfl 11 (by decide) (hts (.fieldLink RX4 35 "QuarrelboardModel" "states" "[I") (List.mem_of_getElem? (i := 2) rfl)) (fun _ h9 => h9) rfl dX4_decides_115 ?_
                              refine lv_iload_n hx hb dX4_decides_118 rfl (lv_at hl 4 rfl) ?_
                              refine k_iald hx hb hK hP 9 (f := (upd ((mRd gf gc ak x n s9.2 k).2) k 1)) k rfl (by omega) (by decide) dX4_decides_119 ?_
                              refine lv_if_ne (tgt := 167) hx hb dX4_decides_120 (by decide) (fun c_120 => ?_) (fun c_120 => ?_)
                              · skip
                                refine lv_iinc (v := nI (k + 1)) (lv' := [(3, .int (nI (k + 1))), (2, .int 1), (4, .int 1), (0, .ref qM), (1, .int x)]) hx hb dX4_decides_167 hl (k := 4) rfl (nI_1 _) (by decide) rfl (fun ls hl => ?_)
                                refine lv_goto (tgt := 33) hx hb dX4_decides_170 (by decide) ?_
                                have hI9 : mI gf gc ak x n (mRd gf gc ak x n s9.2 k).2 k = true := by unfold mI; rw [decide_eq_true c_67, decide_eq_true c_51, c_87, c_102]; rfl
                                have hE9 := mRd_i hI9
                                have hl : lv_has ls 5 [(0, .ref qM), (1, .int x), (2, .int (zI ((mRd gf gc ak x n s9.2 (k + 1)).1))), (3, .int (nI (k + 1)))] := by rw [hE9]; exact lv_sub hl [3, 4, 1, 0] rfl
                                have hP : va_P E.1 vwCl [(qM, .inr (4, [.ref uF, .int (nI nf), .ref uS, .ref uW, .int (nI sp), .ref uB, .int (nI n), .ref uO, .ref uG, .ref uR, .ref uK, .ref uT, .int cl, .ref uP, .int th])), (uF, .inl (E.2.2.1, 6, .inl (fun w9 => zI (fb w9)))), (uS, .inl (E.2.1, 14, .inl (fun w9 => nI (src w9)))), (uW, .inl (E.2.2.1, 14, .inl (fun w9 => zI (wb w9)))), (uB, .inl (E.2.1, 3, .inl bk)), (uO, .inl (E.2.1, 16, .inl (fun w9 => nI (ow w9)))), (uG, .inl (E.2.1, 16, .inl gf)), (uR, .inl (E.2.1, 16, .inl gc)), (uK, .inl (E.2.1, 16, .inl ak)), (uT, .inl (E.2.1, 16, .inl ((mRd gf gc ak x n s9.2 (k + 1)).2))), (uP, .inl (E.2.1, 3, .inl rp))] H := by rw [hE9]; exact hP
                                have hD : va_D A [(qM, .inr (4, [.ref uF, .int (nI nf), .ref uS, .ref uW, .int (nI sp), .ref uB, .int (nI n), .ref uO, .ref uG, .ref uR, .ref uK, .ref uT, .int cl, .ref uP, .int th])), (uF, .inl (E.2.2.1, 6, .inl (fun w9 => zI (fb w9)))), (uS, .inl (E.2.1, 14, .inl (fun w9 => nI (src w9)))), (uW, .inl (E.2.2.1, 14, .inl (fun w9 => zI (wb w9)))), (uB, .inl (E.2.1, 3, .inl bk)), (uO, .inl (E.2.1, 16, .inl (fun w9 => nI (ow w9)))), (uG, .inl (E.2.1, 16, .inl gf)), (uR, .inl (E.2.1, 16, .inl gc)), (uK, .inl (E.2.1, 16, .inl ak)), (uT, .inl (E.2.1, 16, .inl ((mRd gf gc ak x n s9.2 (k + 1)).2))), (uP, .inl (E.2.1, 3, .inl rp))] := by rw [hE9]; exact hD
                                exact ih33 (k + 1) (by omega) (by omega)  _ _ hP hD hS ls hl
                              · skip
                                exact absurd c_120 (by rw [show upd (mRd gf gc ak x n s9.2 k).2 k 1 k = 1 from if_pos rfl]; decide)
              have hl : lv_has ls 5 [(0, .ref qM), (1, .int x), (2, .int (zI ((mRd gf gc ak x n s9.2 0).1))), (3, .int (nI 0))] := by exact lv_sub hl [2, 3, 1, 0] rfl
              have hP : va_P E.1 vwCl [(qM, .inr (4, [.ref uF, .int (nI nf), .ref uS, .ref uW, .int (nI sp), .ref uB, .int (nI n), .ref uO, .ref uG, .ref uR, .ref uK, .ref uT, .int cl, .ref uP, .int th])), (uF, .inl (E.2.2.1, 6, .inl (fun w9 => zI (fb w9)))), (uS, .inl (E.2.1, 14, .inl (fun w9 => nI (src w9)))), (uW, .inl (E.2.2.1, 14, .inl (fun w9 => zI (wb w9)))), (uB, .inl (E.2.1, 3, .inl bk)), (uO, .inl (E.2.1, 16, .inl (fun w9 => nI (ow w9)))), (uG, .inl (E.2.1, 16, .inl gf)), (uR, .inl (E.2.1, 16, .inl gc)), (uK, .inl (E.2.1, 16, .inl ak)), (uT, .inl (E.2.1, 16, .inl ((mRd gf gc ak x n s9.2 0).2))), (uP, .inl (E.2.1, 3, .inl rp))] H := by exact hP
              have hD : va_D A [(qM, .inr (4, [.ref uF, .int (nI nf), .ref uS, .ref uW, .int (nI sp), .ref uB, .int (nI n), .ref uO, .ref uG, .ref uR, .ref uK, .ref uT, .int cl, .ref uP, .int th])), (uF, .inl (E.2.2.1, 6, .inl (fun w9 => zI (fb w9)))), (uS, .inl (E.2.1, 14, .inl (fun w9 => nI (src w9)))), (uW, .inl (E.2.2.1, 14, .inl (fun w9 => zI (wb w9)))), (uB, .inl (E.2.1, 3, .inl bk)), (uO, .inl (E.2.1, 16, .inl (fun w9 => nI (ow w9)))), (uG, .inl (E.2.1, 16, .inl gf)), (uR, .inl (E.2.1, 16, .inl gc)), (uK, .inl (E.2.1, 16, .inl ak)), (uT, .inl (E.2.1, 16, .inl ((mRd gf gc ak x n s9.2 0).2))), (uP, .inl (E.2.1, 3, .inl rp))] := by exact hD
              exact loop33 (n + 1) 0 (by omega) (by omega)  _ _ hP hD hS ls hl
        have hl : lv_has ls 5 [(0, .ref qM), (1, .int x), (2, .int (zI (true, zr st n).1))] := by exact lv_sub hl [1, 2, 0] rfl
        have hP : va_P E.1 vwCl [(qM, .inr (4, [.ref uF, .int (nI nf), .ref uS, .ref uW, .int (nI sp), .ref uB, .int (nI n), .ref uO, .ref uG, .ref uR, .ref uK, .ref uT, .int cl, .ref uP, .int th])), (uF, .inl (E.2.2.1, 6, .inl (fun w9 => zI (fb w9)))), (uS, .inl (E.2.1, 14, .inl (fun w9 => nI (src w9)))), (uW, .inl (E.2.2.1, 14, .inl (fun w9 => zI (wb w9)))), (uB, .inl (E.2.1, 3, .inl bk)), (uO, .inl (E.2.1, 16, .inl (fun w9 => nI (ow w9)))), (uG, .inl (E.2.1, 16, .inl gf)), (uR, .inl (E.2.1, 16, .inl gc)), (uK, .inl (E.2.1, 16, .inl ak)), (uT, .inl (E.2.1, 16, .inl ((true, zr st n).2))), (uP, .inl (E.2.1, 3, .inl rp))] H := by rw [show zr st n = zr st k from by rw [show n = k from by omega]]; exact hP
        have hD : va_D A [(qM, .inr (4, [.ref uF, .int (nI nf), .ref uS, .ref uW, .int (nI sp), .ref uB, .int (nI n), .ref uO, .ref uG, .ref uR, .ref uK, .ref uT, .int cl, .ref uP, .int th])), (uF, .inl (E.2.2.1, 6, .inl (fun w9 => zI (fb w9)))), (uS, .inl (E.2.1, 14, .inl (fun w9 => nI (src w9)))), (uW, .inl (E.2.2.1, 14, .inl (fun w9 => zI (wb w9)))), (uB, .inl (E.2.1, 3, .inl bk)), (uO, .inl (E.2.1, 16, .inl (fun w9 => nI (ow w9)))), (uG, .inl (E.2.1, 16, .inl gf)), (uR, .inl (E.2.1, 16, .inl gc)), (uK, .inl (E.2.1, 16, .inl ak)), (uT, .inl (E.2.1, 16, .inl ((true, zr st n).2))), (uP, .inl (E.2.1, 3, .inl rp))] := by rw [show zr st n = zr st k from by rw [show n = k from by omega]]; exact hD
        exact loop25 (17 + 1) 0 (by omega) (by omega) (true, zr st n) rfl (fun _ => by have h9 := opn_le (zr st n) n; show 0 + opn (zr st n) n ≤ n; omega) _ _ hP hD hS ls hl
      · have c_7 : ¬ (nI n ≤ nI k) := c_7
        have c_7 : ¬ (n ≤ k) := fun h9 => c_7 ((nI_leI (a := n) (b := k) (by omega) (by omega)).mpr h9)
        refine lv_aload_n hx hb dX4_decides_10 rfl (lv_at hl 0 rfl) ?_
        refine va_get (D := E.1) (ci := 4) (v := .ref uT) (C := RX4) (T := TX4) (N := 15) hx hb hts (fun _ h => List.mem_cons_of_mem _ (List.mem_append_right _ h)) hown hK.1 hP 0 rfl rfl 11 (by decide) (hts (.fieldLink RX4 35 "QuarrelboardModel" "states" "[I") (List.mem_of_getElem? (i := 2) rfl)) (fun _ h9 => h9) rfl dX4_decides_11 ?_
        refine lv_iload_n hx hb dX4_decides_14 rfl (lv_at hl 2 rfl) ?_
        refine lv_iconst (v := 0) hx hb dX4_decides_15 (by decide) ?_
        refine k_iast hx hb hK hP hD hS 9 (f := (zr st k)) k (x := 0) rfl (by omega) (by decide) dX4_decides_16 (fun H locs hP hD hS => ?_)
        have hP : va_P E.1 vwCl [(qM, .inr (4, [.ref uF, .int (nI nf), .ref uS, .ref uW, .int (nI sp), .ref uB, .int (nI n), .ref uO, .ref uG, .ref uR, .ref uK, .ref uT, .int cl, .ref uP, .int th])), (uF, .inl (E.2.2.1, 6, .inl (fun w9 => zI (fb w9)))), (uS, .inl (E.2.1, 14, .inl (fun w9 => nI (src w9)))), (uW, .inl (E.2.2.1, 14, .inl (fun w9 => zI (wb w9)))), (uB, .inl (E.2.1, 3, .inl bk)), (uO, .inl (E.2.1, 16, .inl (fun w9 => nI (ow w9)))), (uG, .inl (E.2.1, 16, .inl gf)), (uR, .inl (E.2.1, 16, .inl gc)), (uK, .inl (E.2.1, 16, .inl ak)), (uT, .inl (E.2.1, 16, .inl (upd (zr st k) k 0))), (uP, .inl (E.2.1, 3, .inl rp))] H := hP
        have hD : va_D A [(qM, .inr (4, [.ref uF, .int (nI nf), .ref uS, .ref uW, .int (nI sp), .ref uB, .int (nI n), .ref uO, .ref uG, .ref uR, .ref uK, .ref uT, .int cl, .ref uP, .int th])), (uF, .inl (E.2.2.1, 6, .inl (fun w9 => zI (fb w9)))), (uS, .inl (E.2.1, 14, .inl (fun w9 => nI (src w9)))), (uW, .inl (E.2.2.1, 14, .inl (fun w9 => zI (wb w9)))), (uB, .inl (E.2.1, 3, .inl bk)), (uO, .inl (E.2.1, 16, .inl (fun w9 => nI (ow w9)))), (uG, .inl (E.2.1, 16, .inl gf)), (uR, .inl (E.2.1, 16, .inl gc)), (uK, .inl (E.2.1, 16, .inl ak)), (uT, .inl (E.2.1, 16, .inl (upd (zr st k) k 0))), (uP, .inl (E.2.1, 3, .inl rp))] := hD
        refine lv_iinc (v := nI (k + 1)) (lv' := [(2, .int (nI (k + 1))), (0, .ref qM), (1, .int x)]) hx hb dX4_decides_17 hl (k := 2) rfl (nI_1 _) (by decide) rfl (fun ls hl => ?_)
        refine lv_goto (tgt := 2) hx hb dX4_decides_20 (by decide) ?_
        have hl : lv_has ls 5 [(0, .ref qM), (1, .int x), (2, .int (nI (k + 1)))] := by exact lv_sub hl [1, 2, 0] rfl
        have hP : va_P E.1 vwCl [(qM, .inr (4, [.ref uF, .int (nI nf), .ref uS, .ref uW, .int (nI sp), .ref uB, .int (nI n), .ref uO, .ref uG, .ref uR, .ref uK, .ref uT, .int cl, .ref uP, .int th])), (uF, .inl (E.2.2.1, 6, .inl (fun w9 => zI (fb w9)))), (uS, .inl (E.2.1, 14, .inl (fun w9 => nI (src w9)))), (uW, .inl (E.2.2.1, 14, .inl (fun w9 => zI (wb w9)))), (uB, .inl (E.2.1, 3, .inl bk)), (uO, .inl (E.2.1, 16, .inl (fun w9 => nI (ow w9)))), (uG, .inl (E.2.1, 16, .inl gf)), (uR, .inl (E.2.1, 16, .inl gc)), (uK, .inl (E.2.1, 16, .inl ak)), (uT, .inl (E.2.1, 16, .inl (zr st (k + 1)))), (uP, .inl (E.2.1, 3, .inl rp))] H := by rw [zr_s]; exact hP
        have hD : va_D A [(qM, .inr (4, [.ref uF, .int (nI nf), .ref uS, .ref uW, .int (nI sp), .ref uB, .int (nI n), .ref uO, .ref uG, .ref uR, .ref uK, .ref uT, .int cl, .ref uP, .int th])), (uF, .inl (E.2.2.1, 6, .inl (fun w9 => zI (fb w9)))), (uS, .inl (E.2.1, 14, .inl (fun w9 => nI (src w9)))), (uW, .inl (E.2.2.1, 14, .inl (fun w9 => zI (wb w9)))), (uB, .inl (E.2.1, 3, .inl bk)), (uO, .inl (E.2.1, 16, .inl (fun w9 => nI (ow w9)))), (uG, .inl (E.2.1, 16, .inl gf)), (uR, .inl (E.2.1, 16, .inl gc)), (uK, .inl (E.2.1, 16, .inl ak)), (uT, .inl (E.2.1, 16, .inl (zr st (k + 1)))), (uP, .inl (E.2.1, 3, .inl rp))] := by rw [zr_s]; exact hD
        exact ih2 (k + 1) (by omega) (by omega)  _ _ hP hD hS ls hl
  have hl : lv_has ls 5 [(0, .ref qM), (1, .int x), (2, .int (nI 0))] := by exact lv_sub hl [1, 2, 0] rfl
  have hP : va_P E.1 vwCl [(qM, .inr (4, [.ref uF, .int (nI nf), .ref uS, .ref uW, .int (nI sp), .ref uB, .int (nI n), .ref uO, .ref uG, .ref uR, .ref uK, .ref uT, .int cl, .ref uP, .int th])), (uF, .inl (E.2.2.1, 6, .inl (fun w9 => zI (fb w9)))), (uS, .inl (E.2.1, 14, .inl (fun w9 => nI (src w9)))), (uW, .inl (E.2.2.1, 14, .inl (fun w9 => zI (wb w9)))), (uB, .inl (E.2.1, 3, .inl bk)), (uO, .inl (E.2.1, 16, .inl (fun w9 => nI (ow w9)))), (uG, .inl (E.2.1, 16, .inl gf)), (uR, .inl (E.2.1, 16, .inl gc)), (uK, .inl (E.2.1, 16, .inl ak)), (uT, .inl (E.2.1, 16, .inl (zr st 0))), (uP, .inl (E.2.1, 3, .inl rp))] s.heap := by rw [zr_0]; exact hP
  have hD : va_D A [(qM, .inr (4, [.ref uF, .int (nI nf), .ref uS, .ref uW, .int (nI sp), .ref uB, .int (nI n), .ref uO, .ref uG, .ref uR, .ref uK, .ref uT, .int cl, .ref uP, .int th])), (uF, .inl (E.2.2.1, 6, .inl (fun w9 => zI (fb w9)))), (uS, .inl (E.2.1, 14, .inl (fun w9 => nI (src w9)))), (uW, .inl (E.2.2.1, 14, .inl (fun w9 => zI (wb w9)))), (uB, .inl (E.2.1, 3, .inl bk)), (uO, .inl (E.2.1, 16, .inl (fun w9 => nI (ow w9)))), (uG, .inl (E.2.1, 16, .inl gf)), (uR, .inl (E.2.1, 16, .inl gc)), (uK, .inl (E.2.1, 16, .inl ak)), (uT, .inl (E.2.1, 16, .inl (zr st 0))), (uP, .inl (E.2.1, 3, .inl rp))] := by rw [zr_0]; exact hD
  exact loop2 (n + 1) 0 (by omega) (by omega)  _ _ hP hD hS ls hl
