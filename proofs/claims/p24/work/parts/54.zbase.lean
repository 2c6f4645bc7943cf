/-! ===== ours: p24's law on a script of zeros, and how many cells it makes at the least ===== -/
theorem nIx_neg {v : Int32} {N : Nat} (hN : N < 2 ^ 31) (h : v < 0) : nIx v N := fun j hj e => by
  subst e
  exact absurd h (nI_pos (by omega))
theorem nIx_0 (v : Int32) : nIx v 0 := fun _ h => absurd h (Nat.not_lt_zero _)
theorem hasF_0 : ∀ n, n < 15 → hasF 0 n = true := by decide +kernel
theorem upN_z (k : Nat) : upN (fun _ => 0) k 0 = fun _ => 0 := funext fun i => by
  show (if i = k then 0 else 0) = 0
  exact ite_self 0
theorem upd_z (k : Nat) : upd (fun _ => 0) k 0 = fun _ => 0 := funext fun i => by
  show (if i = k then (0 : Int32) else 0) = 0
  exact ite_self 0
theorem bt_stC {src : Nat → Nat} {wd fl : Int32} {i : Nat} (hi : i < 32) : ∀ k, k ≤ 32 → bt (stC src wd fl k) i = true → i < k
  | 0, _ => fun h => by rw [show stC src wd fl 0 = 0 from rfl, b_0] at h; cases h
  | k + 1, hk => fun h => by
    have ih := bt_stC (src := src) (wd := wd) (fl := fl) hi k (by omega)
    have e : stC src wd fl (k + 1) = if (bt wd k || bt fl (src k)) = true then stC src wd fl k else stC src wd fl k ||| m1 k := rfl
    rw [e] at h
    by_cases c : (bt wd k || bt fl (src k)) = true
    · rw [if_pos c] at h
      have := ih h
      omega
    · rw [if_neg c, b_or, bt_m1 (by omega) hi] at h
      by_cases c2 : i = k
      · omega
      · rw [decide_eq_false c2, Bool.or_false] at h
        have := ih h
        omega
theorem kyC_z (S : Int32) (q : Nat) (sf : Int32) : ∀ k, (kyC (fun _ => 0) (fun _ => 0) (fun _ => 0) 0 (fun _ => 0) S q sf ((fun _ => 0), 0, 0, 0) k).2.2.2 = ((fun _ => 0), 0, 0, 0)
  | 0 => rfl
  | k + 1 => by
    cases h : bt S k with
    | true =>
      rw [kyC_t h]
      show jG (fun _ => 0) (fun _ => 0) (fun _ => 0) (S &&& (m1 k ^^^ (-1))) 0 (kyC (fun _ => 0) (fun _ => 0) (fun _ => 0) 0 (fun _ => 0) S q sf ((fun _ => 0), 0, 0, 0) k).2.2.2.1 = _
      rw [kyC_z S q sf k]
      rfl
    | false => rw [kyC_f h]; exact kyC_z S q sf k
theorem kyC_1 (S : Int32) (q : Nat) (sf : Int32) : ∀ k, (kyC (fun _ => 0) (fun _ => 0) (fun _ => 0) 0 (fun _ => 0) S q sf ((fun _ => 0), 0, 0, 0) k).1 = -1 ∨ ∃ j, j < k ∧ bt S j = true ∧ (kyC (fun _ => 0) (fun _ => 0) (fun _ => 0) 0 (fun _ => 0) S q sf ((fun _ => 0), 0, 0, 0) k).1 = nI j
  | 0 => Or.inl rfl
  | k + 1 => by
    cases h : bt S k with
    | true =>
      rw [kyC_t h]
      by_cases h1 : (kyC (fun _ => 0) (fun _ => 0) (fun _ => 0) 0 (fun _ => 0) S q sf ((fun _ => 0), 0, 0, 0) k).1 = -1
      · exact Or.inr ⟨k, Nat.lt_succ_self k, h, if_pos h1⟩
      · by_cases h2 : (kyC (fun _ => 0) (fun _ => 0) (fun _ => 0) 0 (fun _ => 0) S q sf ((fun _ => 0), 0, 0, 0) k).2.1 ≤ nI (cnF (fun _ => 0) q (jG (fun _ => 0) (fun _ => 0) (fun _ => 0) (S &&& (m1 k ^^^ (-1))) 0 (kyC (fun _ => 0) (fun _ => 0) (fun _ => 0) 0 (fun _ => 0) S q sf ((fun _ => 0), 0, 0, 0) k).2.2.2.1).2.2.1 0)
        · rcases kyC_1 S q sf k with h3 | ⟨j, hj, hb, he⟩
          · exact absurd h3 h1
          · exact Or.inr ⟨j, Nat.lt_succ_of_lt hj, hb, (if_neg h1).trans ((if_pos h2).trans he)⟩
        · exact Or.inr ⟨k, Nat.lt_succ_self k, h, (if_neg h1).trans (if_neg h2)⟩
    | false =>
      rw [kyC_f h]
      rcases kyC_1 S q sf k with h3 | ⟨j, hj, hb, he⟩
      · exact Or.inl h3
      · exact Or.inr ⟨j, Nat.lt_succ_of_lt hj, hb, he⟩
theorem rem_n : ∀ k, k < 121 → ∀ d, d < 21 → d = 2 ∨ d = 3 ∨ d = 20 → nI k - nI k / nI d * nI d = nI (k % d) := by decide +kernel
/-- the facts that a set has, as the law sums them -/
def sdL (S : Int32) : Nat → Int32
  | 0 => 0
  | k + 1 => sdL S k ||| (if bt S k = true then m1 k else 0)
/-- what a throw needs, with the cells that may change -/
def kTA (A : Nat → Prop) (U : State) : Prop := vx_Zq Bundle.tN "UNASSIGNED_STACK" Bundle.steD A U U.heap ∧ vx_Zq Bundle.tN "SUPPRESSED_SENTINEL" Bundle.listD A U U.heap ∧ kC U
theorem kTA.calling {A : Nat → Prop} {U : State} {g : JFrame} {mk : MethodId} {a : Array Value} (h : kTA A U) : kTA A (U.calling g mk a) := ⟨vx_Zq.moved (u := U) (U := U.calling g mk a) (Vm.Alike.refl U.vm) h.1, vx_Zq.moved (u := U) (U := U.calling g mk a) (Vm.Alike.refl U.vm) h.2.1, h.2.2.calling⟩
theorem kTA.at {A B : Nat → Prop} {s U : State} {H : Heap} {locs : List Loc} (h : kTA A s) (hS : va_S A s.heap H locs) (hB : ∀ q, B q → A q) (hU : U.heap = H) (hW : s.WarmedH U.vm) : kTA B U := by
  have e1 := vx_Zq.narrow (B := B) (vx_Zq.moved hW.alike (vx_Zq.kept h.1 hS.2.1)) hB
  have e2 := vx_Zq.narrow (B := B) (vx_Zq.moved hW.alike (vx_Zq.kept h.2.1 hS.2.1)) hB
  subst hU
  exact ⟨e1, e2, h.2.2.warm hW⟩
def pT2 (E : gE) (W : va_W) (sz : Nat) (U : State) : Prop := U.heap.size = sz ∧ va_P E.1 vwCl W U.heap ∧ kS E U ∧ va_D (fun _ => True) W ∧ kTA (va_A W sz) U
theorem pT2_blind {av : List Value} {E : gE} {W : va_W} {sz : Nat} : FrameBlind (va_Pc av (pT2 E W sz)) := fun _ _ _ _ q => ⟨q.1, q.2.1, q.2.2.1, q.2.2.2.1.calling, q.2.2.2.2.1, q.2.2.2.2.2.calling⟩
section OURS6
variable {p : Program} {l : Launch} {e : Env} {R : Room} {s : State} {m : MethodId} {args : Array Value} {below : List Frame} {meth : Method} {c : Code} {H : Heap} {locs : List Loc} {cells slots : Nat} {Q : State → Prop}
variable {cc : ByteArray} {pc : Nat} {ls : Array Slot} {rest st0 : List Value} {E : gE} {A : Nat → Prop} {H0 : Heap} {ws : va_W} {a : Nat}
variable {y : MethodName} {bytes : ByteArray} {maxL nL mc ms n index : Nat} {ret : Option FieldType} {wsy : List Cond} {rm : Room} {Ts : List Cond} {own C host : String} {b : Addr} {As : List Value}
/-- a call of one of the law's own methods that catch: its answer, and how much the heap has grown -/
theorem cl_LM {k : Nat} {hh : List (Nat × Nat × Nat × Nat)} {Wl Wc Wr W1 W2 : va_W} {ans : Int32} (S : CallFix p m c cc nL s args Ts own) (hM : vx_Met l y wsy rm (va_Pc As (pT E Wc H.size)) (va_Qi (fun r (_ : Unit) => r = ans) (fun _ t => eW E (va_A Wc H.size) W1 t ∧ H.size + k ≤ t.heap.size) (va_A Wc H.size)) (xL (va_A Wc H.size)) mc ms (va_A Wc H.size)) (cw : vx_CSW R s args own index y bytes maxL ret hh wsy rm mc ms n) (hK : kS E s) (hT : kTA A s)
    (hP : va_P E.1 vwCl Wl H) (hD : va_D A Wl) (hS : va_S A s.heap H locs) (hA : ∀ q, s.heap.size ≤ q → A q) (isC isR pm : List Nat) (hC0 : isC.filterMap (fun i => Wl[i]?) = Wc) (hC : isC.map (fun i => Wl[i]?) = Wc.map some) (hnC : va_nd isC = true) (hR : isR.map (fun i => Wl[i]?) = Wr.map some) (hnd : va_nd isR = true) (hdis : ∀ i ∈ isR, i ∉ isC)
    (hm : pm.map (fun i => (Wr ++ W1)[i]?) = W2.map some) (hnm : va_nd pm = true)
    (hn : As.length = n) (hsize : ls.size = nL) (hst : st0 = As.reverse ++ rest) (hWd : (rest.map fun v => v.category).sum ≤ 8) (hdg : decode cc pc = .ok (.invokestatic index, 3)) (hf : cells + mc ≤ R.cells ∧ slots + ms ≤ R.slots)
    (kk : ∀ (H1 : Heap) (locs1 : List Loc), va_P E.1 vwCl W2 H1 → va_D A W2 → va_S A s.heap H1 locs1 → H.size + k ≤ H1.size → W p l e R s m args below meth c H1 locs1 (cells + mc) (slots + ms) Q (F0 m (pc + 3) ls (.int ans :: rest))) : W p l e R s m args below meth c H locs cells slots Q (F0 m pc ls st0) := by
  have hFc := va_free (wc := Wc) hD hS hA isC hC
  refine vx_calli (A0 := A) (vx_runSX (As := As) (rest := rest) S hM cw ⟨pT_blind, fun U hU hW => ⟨rfl, by rw [hU], by rw [hU]; exact hP.sub isC hC0, hK.warm hW, (hD.sub isC hnC hC).weaken (fun _ _ _ _ => trivial), kTA.at (B := fun q : Nat => U.heap.size ≤ q) hT hS (fun q hq => hA q (Nat.le_trans hS.1 (by rw [← hU]; exact hq))) hU hW⟩⟩ rfl hn hsize hst (lv_room hWd) hdg hf) hS (fun q _ h => hFc q h) hFc (fun q _ h => hFc q h) (fun E9 ce q9 u t H1 locs1 ht hvm hu => hu.elim) (fun r u t H1 locs1 ht hvm hw hB hz1 hk1 hS1 => ?_)
  subst hw
  obtain ⟨⟨hP1, hD1⟩, hg⟩ := hB
  rw [ht] at hP1 hg
  obtain ⟨hP2, hD2⟩ := cl_join hP hD isC isR pm hC hR hnd hdis hm hnm hk1 hFc hP1 hD1
  exact kk H1 locs1 hP2 hD2 hS1 hg
/-- a call of one of the law's own methods that answer yes or no -/
theorem cl_Z {k : Nat} {Wl Wc Wr : va_W} {W1 W2 : Int32 → Int32 → va_W} (S : CallFix p m c cc nL s args Ts own) (hM : Met l y wsy rm (va_Pc As (pT2 E Wc H.size)) (va_Qi (fun r (u : Bool × Int32 × Int32) => r = zI u.1) (fun u t => eW E (va_A Wc H.size) (W1 u.2.1 u.2.2) t ∧ (u.1 = true → H.size + k ≤ t.heap.size)) (va_A Wc H.size)) mc ms (va_A Wc H.size)) (cw : CallB R s args own index y bytes maxL ret wsy rm mc ms n ∧ (Cond.static y).before args s = true) (hK : kS E s) (hT : kTA A s)
    (hP : va_P E.1 vwCl Wl H) (hD : va_D A Wl) (hS : va_S A s.heap H locs) (hA : ∀ q, s.heap.size ≤ q → A q) (isC isR pm : List Nat) (hC0 : isC.filterMap (fun i => Wl[i]?) = Wc) (hC : isC.map (fun i => Wl[i]?) = Wc.map some) (hnC : va_nd isC = true) (hR : isR.map (fun i => Wl[i]?) = Wr.map some) (hnd : va_nd isR = true) (hdis : ∀ i ∈ isR, i ∉ isC)
    (hm : ∀ f g, pm.map (fun i => (Wr ++ W1 f g)[i]?) = (W2 f g).map some) (hnm : va_nd pm = true)
    (hn : As.length = n) (hsize : ls.size = nL) (hst : st0 = As.reverse ++ rest) (hWd : (rest.map fun v => v.category).sum ≤ 8) (hdg : decode cc pc = .ok (.invokestatic index, 3)) (hf : cells + mc ≤ R.cells ∧ slots + ms ≤ R.slots)
    (kk : ∀ (b9 : Bool) (f9 g9 : Int32) (H1 : Heap) (locs1 : List Loc), va_P E.1 vwCl (W2 f9 g9) H1 → va_D A (W2 f9 g9) → va_S A s.heap H1 locs1 → H.size ≤ H1.size → (b9 = true → H.size + k ≤ H1.size) → W p l e R s m args below meth c H1 locs1 (cells + mc) (slots + ms) Q (F0 m (pc + 3) ls (.int (zI b9) :: rest))) : W p l e R s m args below meth c H locs cells slots Q (F0 m pc ls st0) := by
  have hFc := va_free (wc := Wc) hD hS hA isC hC
  refine va_calli (va_runS (As := As) (rest := rest) S hM cw ⟨pT2_blind, fun U hU hW => ⟨rfl, by rw [hU], by rw [hU]; exact hP.sub isC hC0, hK.warm hW, (hD.sub isC hnC hC).weaken (fun _ _ _ _ => trivial), hT.at hS hFc hU hW⟩⟩ rfl hn hsize hst (lv_room hWd) hdg hf) hS (fun q _ h => hFc q h) hFc (fun r u t H1 locs1 ht hvm hw hB hz1 hk1 hS1 => ?_)
  subst hw
  obtain ⟨⟨hP1, hD1⟩, hg⟩ := hB
  rw [ht] at hP1 hg
  obtain ⟨hP2, hD2⟩ := cl_join hP hD isC isR pm hC hR hnd hdis (hm u.2.1 u.2.2) hnm hk1 hFc hP1 hD1
  exact kk u.1 u.2.1 u.2.2 H1 locs1 hP2 hD2 hS1 hz1 hg
/-- a call of the law's own sum: a long that nobody asks for -/
theorem cl_ZL {Wl Wc Wr : va_W} {W1 W2 : Int32 → va_W} (S : CallFix p m c cc nL s args Ts own) (hM : Met l y wsy rm (va_Pc As (pW E Wc H.size)) (va_Ql (fun _ (_ : Int32) => True) (fun u => eW E (va_A Wc H.size) (W1 u)) (va_A Wc H.size)) mc ms (va_A Wc H.size)) (cw : CallB R s args own index y bytes maxL ret wsy rm mc ms n ∧ (Cond.static y).before args s = true) (hK : kS E s)
    (hP : va_P E.1 vwCl Wl H) (hD : va_D A Wl) (hS : va_S A H0 H locs) (hA : ∀ q, H0.size ≤ q → A q) (isC isR pm : List Nat) (hC0 : isC.filterMap (fun i => Wl[i]?) = Wc) (hC : isC.map (fun i => Wl[i]?) = Wc.map some) (hnC : va_nd isC = true) (hR : isR.map (fun i => Wl[i]?) = Wr.map some) (hnd : va_nd isR = true) (hdis : ∀ i ∈ isR, i ∉ isC)
    (hm : ∀ f, pm.map (fun i => (Wr ++ W1 f)[i]?) = (W2 f).map some) (hnm : va_nd pm = true)
    (hn : As.length = n) (hsize : ls.size = nL) (hst : st0 = As.reverse ++ rest) (hWd : (rest.map fun v => v.category).sum ≤ 8) (hdg : decode cc pc = .ok (.invokestatic index, 3)) (hf : cells + mc ≤ R.cells ∧ slots + ms ≤ R.slots)
    (kk : ∀ (r9 : Int64) (g9 : Int32) (H1 : Heap) (locs1 : List Loc), va_P E.1 vwCl (W2 g9) H1 → va_D A (W2 g9) → va_S A H0 H1 locs1 → H.size ≤ H1.size → W p l e R s m args below meth c H1 locs1 (cells + mc) (slots + ms) Q (F0 m (pc + 3) ls (.long r9 :: rest))) : W p l e R s m args below meth c H locs cells slots Q (F0 m pc ls st0) := by
  have hFc := va_free (wc := Wc) hD hS hA isC hC
  refine va_calll (va_runS (As := As) (rest := rest) S hM cw ⟨pW_blind, fun U hU hW => ⟨rfl, by rw [hU], by rw [hU]; exact hP.sub isC hC0, hK.warm hW, (hD.sub isC hnC hC).weaken (fun _ _ _ _ => trivial)⟩⟩ rfl hn hsize hst (lv_room hWd) hdg hf) hS (fun q _ h => hFc q h) hFc (fun r u t H1 locs1 ht hvm hw hB hz1 hk1 hS1 => ?_)
  obtain ⟨hP1, hD1⟩ := hB
  rw [ht] at hP1
  obtain ⟨hP2, hD2⟩ := cl_join hP hD isC isR pm hC hR hnd hdis (hm u) hnm hk1 hFc hP1 hD1
  exact kk r u H1 locs1 hP2 hD2 hS1 hz1
end OURS6
