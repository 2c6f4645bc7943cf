/-! THE CLAIM OUT OF ONE WALK OF THE LAW'S BODY. Your part is whole_start (and what it stands on); all else here is the same for every law, but numbers. -/
def R_law : String := "QuarrelboardLaw"
def lw_P (b : Addr) (xs : List Int32) (args : Array Value) (s : State) : Prop := args = #[.ref b] ∧ s.IntsAt b xs ∧ xs.length ≤ 1536 ∧ (Jvm.Cond.and given_1 narrow_1).before args s = true
def lw_Q (_ : Array Value) (s : State) (o : Outcome) (t : State) : Prop := o = .returned (some (.int 1)) ∧ Framed s o t [] 1057 8504
def lw_Z (below : List Frame) (a : Array Value) (s : State) : State → Prop := fun t => ∃ o, t.status = .running ∧ Ended t below o ∧ lw_Q a s o t
/-- the law's own end, with 1 on the stack, nothing written that was there before, its room as the claim has it -/
theorem lw_ret {p : Program} {l : Launch} {e : Env} {s : State} {m : MethodId} {below : List Frame} {meth : Method} {c : Code} {b : Nat} (hx : p.tables.exec = Jvm.exec) (hb : c.code = code) (hr : meth.sig.returnType = ret) (hlocks : meth.locks = false) {pc : Nat} {H : Heap} {ls : Array Slot} (hdg : decode code pc = .ok (.ireturn, 1)) : W p l e room_1 s m #[Value.ref b] below meth c H [] 1057 8504 (lw_Z below #[Value.ref b] s) (F0 m pc ls [.int 1]) := by
  intro T hT X
  obtain ⟨fs, hret, hrun, hended, hW, hframe⟩ := X.leave (v := some (.int 1)) (hlocks := hlocks) (fun h => by rw [hr] at h; cases h)
  have hmeth' : T.vm.method? m = some meth := X.method'
  refine ⟨T.setFrames fs, ?_, .returned (some (.int 1)), hrun, hended, rfl, ⟨_, rfl⟩, hW, hframe⟩
  jvm_step X.here [X.here.top, hx, hb, hdg, hmeth', hr, ret, narrow_b1]
  (try refine ⟨rfl, ?_⟩); (try refine ⟨rfl, ?_⟩)
  first | (intro acts; rw [hret _ acts rfl rfl rfl]) | rw [hret _ _ rfl rfl rfl]
  exact Steps.refl _
/-- what holds at the law's entry: the machine, the code, the tables' words (any of lw_tbl by 'hts w (by decide +kernel)'), the script of L ints xs at the cell b, what the Statement gives of the start (any of its parts by flat_of_before) -/
def lw_At (p : Program) (s : State) (m : MethodId) (meth : Method) (c : Code) (b L : Nat) (xs : Nat → Int32) : Prop :=
  p.tables.exec = Jvm.exec ∧ c.code = code ∧ meth.sig.returnType = ret ∧ c.maxLocals = 7 ∧ s.vm.findClass R_law = some m.cls ∧ (∀ w ∈ lw_tbl, w.before #[Value.ref b] s = true) ∧ va_X b L xs s s.heap ∧ b < s.heap.size ∧ meth.locks = false ∧ (Jvm.Cond.and given_1 narrow_1).before #[Value.ref b] s = true
-- ===== MY PART BEGINS =====
set_option maxHeartbeats 4000000 in
set_option maxRecDepth 100000 in
theorem lw_kC {s : State} {b : Nat} (hts0 : ∀ w ∈ lw_tbl, w.before #[Value.ref b] s = true) (hq : ∀ c ∈ flatC (Jvm.Cond.and given_1 narrow_1), c.before #[Value.ref b] s = true) : kC s := by
  have hs : ∀ (k : Nat) (tx : String), (Cond.stringRef RX3 k tx).before #[Value.ref b] s = true → (Cond.exactly (.string RX3 k) "java/lang/String").before #[Value.ref b] s = true → ∃ a, vk_R RX3 k tx a s := fun k tx h1 h2 => by
    obtain ⟨a, c, cA, kA, q1, -⟩ := Cond.exactly_spec (args := #[Value.ref b]) (first := s) (o := none) (s := s) (idx := []) h2
    exact ⟨a, vk_R.of h1 q1⟩
  exact ⟨hs 149 "there is no such source" (hts0 _ (List.mem_of_getElem? (i := 289) (by decide +kernel))) (hq _ (by decide +kernel)), hs 50 "there is no room for another fact" (hts0 _ (List.mem_of_getElem? (i := 329) (by decide +kernel))) (hq _ (by decide +kernel)), hs 81 "there is no such fact" (hts0 _ (List.mem_of_getElem? (i := 358) (by decide +kernel))) (hq _ (by decide +kernel)), hs 84 "the seconds are out of range" (hts0 _ (List.mem_of_getElem? (i := 398) (by decide +kernel))) (hq _ (by decide +kernel)), hs 89 "there is no room for another claim, or too little time" (hts0 _ (List.mem_of_getElem? (i := 404) (by decide +kernel))) (hq _ (by decide +kernel)), hs 154 "there is no such claim" (hts0 _ (List.mem_of_getElem? (i := 420) (by decide +kernel))) (hq _ (by decide +kernel)), hs 156 "both claims are the same" (hts0 _ (List.mem_of_getElem? (i := 421) (by decide +kernel))) (hq _ (by decide +kernel)), hs 152 "there is no such player" (hts0 _ (List.mem_of_getElem? (i := 459) (by decide +kernel))) (hq _ (by decide +kernel)), va_Nw.of rfl (hts0 _ (List.mem_of_getElem? (i := 250) (by decide +kernel))), va_Nw.of rfl (hts0 _ (List.mem_of_getElem? (i := 385) (by decide +kernel))), va_Nw.of rfl (hts0 _ (List.mem_of_getElem? (i := 322) (by decide +kernel))), va_Nc.of (hq _ (by decide +kernel : Cond.not (.castable "java/lang/IllegalStateException" "java/lang/IndexOutOfBoundsException") ∈ flatC (Jvm.Cond.and given_1 narrow_1))), va_Nc.of (hq _ (by decide +kernel : Cond.not (.castable "java/lang/IllegalStateException" "java/lang/IllegalArgumentException") ∈ flatC (Jvm.Cond.and given_1 narrow_1))), va_Nc.of (hq _ (by decide +kernel : Cond.not (.castable "java/lang/IllegalArgumentException" "java/lang/IndexOutOfBoundsException") ∈ flatC (Jvm.Cond.and given_1 narrow_1))), va_Nw.of rfl (hts0 _ (List.mem_of_getElem? (i := 252) (by decide +kernel))), va_Nw.of rfl (hts0 _ (List.mem_of_getElem? (i := 254) (by decide +kernel))), va_Nw.of rfl (hts0 _ (List.mem_of_getElem? (i := 256) (by decide +kernel)))⟩
set_option maxHeartbeats 4000000 in
set_option maxRecDepth 100000 in
theorem lw_kT {s : State} {b : Nat} (hts0 : ∀ w ∈ lw_tbl, w.before #[Value.ref b] s = true) (hq : ∀ c ∈ flatC (Jvm.Cond.and given_1 narrow_1), c.before #[Value.ref b] s = true) : kT s :=
  ⟨vx_Zqof (hts0 _ (List.mem_of_getElem? (i := 275) (by decide +kernel))) (hts0 _ (List.mem_of_getElem? (i := 31) (by decide +kernel))) (hq _ (by decide +kernel)) (fun a h => Nat.not_le.mpr h), vx_Zqof (hts0 _ (List.mem_of_getElem? (i := 277) (by decide +kernel))) (hts0 _ (List.mem_of_getElem? (i := 31) (by decide +kernel))) (hq _ (by decide +kernel)) (fun a h => Nat.not_le.mpr h), lw_kC hts0 hq⟩
set_option maxHeartbeats 4000000 in
set_option maxRecDepth 100000 in
theorem lw_E {p : Program} {s : State} {m : MethodId} {meth : Method} {c : Code} {b L : Nat} {xs : Nat → Int32} (hL : L ≤ 1536) (C0 : lw_At p s m meth c b L xs) : ∃ E : gE, lwC p s m c b L xs E := by
  obtain ⟨hx, hb, hr, hml, hown, hts0, hX, hbl, hlocks, hgv⟩ := C0
  have hts : ∀ w ∈ wsL_law, w.before #[Value.ref b] s = true := fun w h => hts0 w (wsL_law_in w h)
  have hq : ∀ c ∈ flatC (Jvm.Cond.and given_1 narrow_1), c.before #[Value.ref b] s = true := flat_of_before _ hgv
  obtain ⟨c0, i0, k0⟩ := u_known (C := RX0) (T := TX0) (N := 7) (n := 7) hts inlX0 (hts (.instantiable RX0 7) (List.mem_of_getElem? (i := 18) rfl))
  obtain ⟨c1, i1, k1⟩ := u_known (C := RX1) (T := TX1) (N := 4) (n := 4) hts inlX1 (hts (.instantiable RX1 4) (List.mem_of_getElem? (i := 14) rfl))
  obtain ⟨c2, i2, k2⟩ := u_known (C := RX2) (T := TX2) (N := 6) (n := 6) hts inlX2 (hts (.instantiable RX2 6) (List.mem_of_getElem? (i := 22) rfl))
  obtain ⟨c3, i3, k3⟩ := u_known (C := RX3) (T := TX3) (N := 5) (n := 5) hts inlX3 (hts (.instantiable RX3 5) (List.mem_of_getElem? (i := 1) rfl))
  obtain ⟨c4, i4, k4⟩ := u_known (C := RX4) (T := TX4) (N := 15) (n := 15) hts inlX4 (hts (.instantiable RX4 15) (List.mem_of_getElem? (i := 4) rfl))
  obtain ⟨cI, kI, oI, fI, gI, rI⟩ := Cond.arrayClass_spec (hts (.arrayClass .int) (List.mem_of_getElem? (i := 25) rfl))
  obtain ⟨cZ, kZ, oZ, fZ, gZ, rZ⟩ := Cond.arrayClass_spec (hts (.arrayClass .boolean) (List.mem_of_getElem? (i := 65) rfl))
  obtain ⟨cL, kL, oL, fL, gL, rL⟩ := Cond.arrayClass_spec (hts (.arrayClass .long) (List.mem_of_getElem? (i := 6) rfl))
  refine ⟨((fun c => match c with | 0 => c0 | 1 => c1 | 2 => c2 | 3 => c3 | _ => c4, fun c => match c with | 0 => i0 | 1 => i1 | 2 => i2 | 3 => i3 | _ => i4), cI, cZ, cL), hx, hb, hml, hown, hts, hX, hbl, hL, ⟨⟨?_, ?_⟩, va_Nw.of rfl (hts0 _ (List.mem_of_getElem? (i := 214) (by decide +kernel))), va_Nw.of rfl (hts0 _ (List.mem_of_getElem? (i := 177) (by decide +kernel))), va_Nw.of rfl (hts0 _ (List.mem_of_getElem? (i := 197) (by decide +kernel)))⟩, lw_kT hts0 hq⟩
  · intro k q hq9
    rcases k with _ | _ | _ | _ | _ | k
    · cases hq9; exact k0
    · cases hq9; exact k1
    · cases hq9; exact k2
    · cases hq9; exact k3
    · cases hq9; exact k4
    · exact absurd hq9 (by show ¬ (none = some q); exact fun z => by cases z)
  · intro k q hq9
    rcases k with _ | _ | _ | k
    · cases hq9; exact ⟨fun n z => ⟨fun k h => (by cases h), kI, gI, oI, rI⟩, fI⟩
    · cases hq9; exact ⟨fun n z => ⟨fun k h => (by cases h), kZ, gZ, oZ, rZ⟩, fZ⟩
    · cases hq9; exact ⟨fun n z => ⟨fun k h => (by cases h), kL, gL, oL, rL⟩, fL⟩
    · exact absurd hq9 (by show ¬ (none = some q); exact fun z => by cases z)
set_option maxHeartbeats 8000000 in
set_option maxRecDepth 100000 in
/-- from the entry, for every script of at most 1536 ints, the law comes to its end with true -/
theorem whole_start {p : Program} {e : Env} {s : State} {m : MethodId} {below : List Frame} {meth : Method} {c : Code} (l : Launch) (hflags : l.flags = flags0) {b L : Nat} {xs : Nat → Int32} (hL : L ≤ 1536) (C0 : lw_At p s m meth c b L xs) : W p l e room_1 s m #[Value.ref b] below meth c s.heap [] 0 0 (lw_Z below #[Value.ref b] s) (entryFrame m ([Value.ref b] : List Value).toArray 7) := by
  have hl9 : l.stackTraces = false := by unfold Launch.stackTraces; rw [hflags]; decide
  obtain ⟨E, hC⟩ := lw_E hL C0
  obtain ⟨-, -, hr, -, -, -, -, -, hlocks, -⟩ := C0
  have hC9 := hC
  obtain ⟨hx, hb, hml, hown, hts, hX, hbl, -, hK, hT⟩ := hC9
  have hret : ∀ (H : Heap) (locs : List Loc) (ls : Array Slot) (cells slots : Nat), (∀ q ∈ locs, s.heap.size ≤ q.base) → cells ≤ 1057 → slots ≤ 8504 → W p l e room_1 s m #[Value.ref b] below meth c H locs cells slots (lw_Z below #[Value.ref b] s) (F0 m 1143 ls []) := by
    intro H locs ls cells slots h1 h2 h3
    refine va_forget h1 (W.widen h2 h3 ?_)
    refine lv_iconst (v := 1) hx hb dL_law_1143 (by decide) ?_
    exact lw_ret hx hb hr hlocks dL_law_1144
  have hP : va_P E.1 vwCl [] s.heap := fun k q hq => by cases hq
  have hD : va_D (lA s) [] := ⟨fun _ _ _ _ h1 _ _ => (by cases h1), fun _ _ h1 => (by cases h1)⟩
  have hA : ∀ q : Nat, s.heap.size ≤ q → lA s q := fun q h => h
  have hS : va_S (lA s) s.heap s.heap [] := va_S.rf
  have hl := lv_entry ([.ref b]) (n := 7) (Nat.le_of_ble_eq_true rfl)
  rw [lg_entry_eq]
  generalize (lg_sl ([.ref b]) ++ List.replicate (7 - (lg_sl ([.ref b])).length) Slot.unset).toArray = ls at hl ⊢
  have hl : lv_has ls 7 [(0, .ref b)] := hl
  refine va_new (ci := 3) (fs := [.null, .null, .null, .null, .int 0]) (C := RX3) (T := TX3) (N := 5) hx hb hts inlX3 tyX3 tyX3_ok hown (hts (.classLink RL 8 RX3) (List.mem_of_getElem? (i := 0) rfl)) (hts (.instantiable RX3 5) (List.mem_of_getElem? (i := 1) rfl)) (hts (.initialized RX3) (List.mem_of_getElem? (i := 2) rfl)) hK.1 hP hD hS hA rfl (fun j hj => by rcases (show j = 0 ∨ j = 1 ∨ j = 2 ∨ j = 3 ∨ j = 4 by omega) with rfl | rfl | rfl | rfl | rfl <;> rfl) (Nat.le_of_ble_eq_true rfl) (Nat.le_of_ble_eq_true rfl) dL_law_0 (fun qX H hP hD hS => ?_)
  have hP : va_P E.1 vwCl [(qX, .inr (3, [.null, .null, .null, .null, .int 0]))] H := hP
  have hD : va_D (lA s) [(qX, .inr (3, [.null, .null, .null, .null, .int 0]))] := hD
  refine lv_dup hx hb dL_law_3 rfl ?_
  refine cl_N (Wl := [(qX, .inr (3, [.null, .null, .null, .null, .int 0]))]) (Wc := [(qX, .inr (3, [.null, .null, .null, .null, .int 0]))]) (Wr := []) (W1 := (fun u : Nat × Nat × Nat × Nat × Nat × Nat × Nat × Nat × Nat × Nat × Nat => [(qX, .inr (3, [.ref u.2.1, .ref u.2.2.2.2.2.1, .ref u.2.2.2.1, .ref u.1, .int 0])), (u.1, .inl (E.2.1, 3, .inl (fun _ => 0))), (u.2.1, .inr (1, [.ref u.2.2.1, .int (nI 0), .int 0, .int 0])), (u.2.2.1, .inl (E.2.1, 14, .inl (fun w9 => nI ((fun _ => 0) w9)))), (u.2.2.2.1, .inr (2, [.ref u.2.2.2.2.2.1, .ref u.2.2.2.2.1, .int (nI 0), .int 0, .int 0, .int 0])), (u.2.2.2.2.1, .inl (E.2.1, 16, .inl (fun w9 => nI ((fun _ => 0) w9)))), (u.2.2.2.2.2.1, .inr (0, [.ref u.2.2.2.2.2.2.1, .ref u.2.2.2.2.2.2.2.1, .ref u.2.2.2.2.2.2.2.2.1, .ref u.2.2.2.2.2.2.2.2.2.1, .ref u.2.2.2.2.2.2.2.2.2.2, .int (nI 0), .int (nI 0)])), (u.2.2.2.2.2.2.1, .inl (E.2.1, 16, .inl (fun w9 => nI ((fun _ => 0) w9)))), (u.2.2.2.2.2.2.2.1, .inl (E.2.1, 16, .inl (fun _ => 0))), (u.2.2.2.2.2.2.2.2.1, .inl (E.2.1, 16, .inl (fun _ => 0))), (u.2.2.2.2.2.2.2.2.2.1, .inl (E.2.1, 16, .inl (fun _ => 0))), (u.2.2.2.2.2.2.2.2.2.2, .inl (E.2.1, 3, .inl (fz 300 (fun _ => 0) 3)))])) (As := []) (rest := [.ref qX]) ⟨hx, hb, hml, hown, hts⟩ (c_X3_init l E qX H.size) (cwI 0 hts gL_law_X3_init rfl rfl rfl (hts (.initialized RX3) (List.mem_of_getElem? (i := 2) rfl)) (hts (.methodLink RL 64 yX3_init) (List.mem_of_getElem? (i := 7) rfl)) (hts (.instanceMethod yX3_init) (List.mem_of_getElem? (i := 8) rfl)) rfl (by decide +kernel) ⟨Nat.le_of_ble_eq_true rfl, Nat.le_of_ble_eq_true rfl⟩) hK hP hD hS hA [0] [] rfl rfl (by decide) rfl (by decide) (by decide) rfl hl.1 rfl (Nat.le_of_ble_eq_true rfl) dL_law_4 ⟨Nat.le_of_ble_eq_true rfl, Nat.le_of_ble_eq_true rfl⟩ (fun u9 H locs hP hD hS => ?_)
  obtain ⟨qR, qK, qS, qJ, qQ, qD, qO, qG, qC, qA, qB⟩ := u9
  have hP : va_P E.1 vwCl [(qX, .inr (3, [.ref qK, .ref qD, .ref qJ, .ref qR, .int 0])), (qR, .inl (E.2.1, 3, .inl (fun _ => 0))), (qK, .inr (1, [.ref qS, .int (nI 0), .int 0, .int 0])), (qS, .inl (E.2.1, 14, .inl (fun w9 => nI ((fun _ => 0) w9)))), (qJ, .inr (2, [.ref qD, .ref qQ, .int (nI 0), .int 0, .int 0, .int 0])), (qQ, .inl (E.2.1, 16, .inl (fun w9 => nI ((fun _ => 0) w9)))), (qD, .inr (0, [.ref qO, .ref qG, .ref qC, .ref qA, .ref qB, .int (nI 0), .int (nI 0)])), (qO, .inl (E.2.1, 16, .inl (fun w9 => nI ((fun _ => 0) w9)))), (qG, .inl (E.2.1, 16, .inl (fun _ => 0))), (qC, .inl (E.2.1, 16, .inl (fun _ => 0))), (qA, .inl (E.2.1, 16, .inl (fun _ => 0))), (qB, .inl (E.2.1, 3, .inl (fz 300 (fun _ => 0) 3)))] H := hP
  have hD : va_D (lA s) [(qX, .inr (3, [.ref qK, .ref qD, .ref qJ, .ref qR, .int 0])), (qR, .inl (E.2.1, 3, .inl (fun _ => 0))), (qK, .inr (1, [.ref qS, .int (nI 0), .int 0, .int 0])), (qS, .inl (E.2.1, 14, .inl (fun w9 => nI ((fun _ => 0) w9)))), (qJ, .inr (2, [.ref qD, .ref qQ, .int (nI 0), .int 0, .int 0, .int 0])), (qQ, .inl (E.2.1, 16, .inl (fun w9 => nI ((fun _ => 0) w9)))), (qD, .inr (0, [.ref qO, .ref qG, .ref qC, .ref qA, .ref qB, .int (nI 0), .int (nI 0)])), (qO, .inl (E.2.1, 16, .inl (fun w9 => nI ((fun _ => 0) w9)))), (qG, .inl (E.2.1, 16, .inl (fun _ => 0))), (qC, .inl (E.2.1, 16, .inl (fun _ => 0))), (qA, .inl (E.2.1, 16, .inl (fun _ => 0))), (qB, .inl (E.2.1, 3, .inl (fz 300 (fun _ => 0) 3)))] := hD
  refine lv_astore_n (lv' := [(1, .ref qX), (0, .ref b)]) hx hb dL_law_7 rfl hl (by decide) rfl (fun ls hl => ?_)
  refine va_new (ci := 4) (fs := [.null, .int 0, .null, .null, .int 0, .null, .int 0, .null, .null, .null, .null, .null, .int 0, .null, .int 0]) (C := RX4) (T := TX4) (N := 15) hx hb hts inlX4 tyX4 tyX4_ok hown (hts (.classLink RL 65 RX4) (List.mem_of_getElem? (i := 3) rfl)) (hts (.instantiable RX4 15) (List.mem_of_getElem? (i := 4) rfl)) (hts (.initialized RX4) (List.mem_of_getElem? (i := 5) rfl)) hK.1 hP hD hS hA rfl (fun j hj => by rcases (show j = 0 ∨ j = 1 ∨ j = 2 ∨ j = 3 ∨ j = 4 ∨ j = 5 ∨ j = 6 ∨ j = 7 ∨ j = 8 ∨ j = 9 ∨ j = 10 ∨ j = 11 ∨ j = 12 ∨ j = 13 ∨ j = 14 by omega) with rfl | rfl | rfl | rfl | rfl | rfl | rfl | rfl | rfl | rfl | rfl | rfl | rfl | rfl | rfl <;> rfl) (Nat.le_of_ble_eq_true rfl) (Nat.le_of_ble_eq_true rfl) dL_law_8 (fun qM H hP hD hS => ?_)
  have hP : va_P E.1 vwCl [(qX, .inr (3, [.ref qK, .ref qD, .ref qJ, .ref qR, .int 0])), (qR, .inl (E.2.1, 3, .inl (fun _ => 0))), (qK, .inr (1, [.ref qS, .int (nI 0), .int 0, .int 0])), (qS, .inl (E.2.1, 14, .inl (fun w9 => nI ((fun _ => 0) w9)))), (qJ, .inr (2, [.ref qD, .ref qQ, .int (nI 0), .int 0, .int 0, .int 0])), (qQ, .inl (E.2.1, 16, .inl (fun w9 => nI ((fun _ => 0) w9)))), (qD, .inr (0, [.ref qO, .ref qG, .ref qC, .ref qA, .ref qB, .int (nI 0), .int (nI 0)])), (qO, .inl (E.2.1, 16, .inl (fun w9 => nI ((fun _ => 0) w9)))), (qG, .inl (E.2.1, 16, .inl (fun _ => 0))), (qC, .inl (E.2.1, 16, .inl (fun _ => 0))), (qA, .inl (E.2.1, 16, .inl (fun _ => 0))), (qB, .inl (E.2.1, 3, .inl (fz 300 (fun _ => 0) 3))), (qM, .inr (4, [.null, .int (nI 0), .null, .null, .int (nI 0), .null, .int (nI 0), .null, .null, .null, .null, .null, .int 0, .null, .int 0]))] H := hP
  have hD : va_D (lA s) [(qX, .inr (3, [.ref qK, .ref qD, .ref qJ, .ref qR, .int 0])), (qR, .inl (E.2.1, 3, .inl (fun _ => 0))), (qK, .inr (1, [.ref qS, .int (nI 0), .int 0, .int 0])), (qS, .inl (E.2.1, 14, .inl (fun w9 => nI ((fun _ => 0) w9)))), (qJ, .inr (2, [.ref qD, .ref qQ, .int (nI 0), .int 0, .int 0, .int 0])), (qQ, .inl (E.2.1, 16, .inl (fun w9 => nI ((fun _ => 0) w9)))), (qD, .inr (0, [.ref qO, .ref qG, .ref qC, .ref qA, .ref qB, .int (nI 0), .int (nI 0)])), (qO, .inl (E.2.1, 16, .inl (fun w9 => nI ((fun _ => 0) w9)))), (qG, .inl (E.2.1, 16, .inl (fun _ => 0))), (qC, .inl (E.2.1, 16, .inl (fun _ => 0))), (qA, .inl (E.2.1, 16, .inl (fun _ => 0))), (qB, .inl (E.2.1, 3, .inl (fz 300 (fun _ => 0) 3))), (qM, .inr (4, [.null, .int (nI 0), .null, .null, .int (nI 0), .null, .int (nI 0), .null, .null, .null, .null, .null, .int 0, .null, .int 0]))] := hD
  refine lv_dup hx hb dL_law_11 rfl ?_
  refine cl_N (Wl := [(qX, .inr (3, [.ref qK, .ref qD, .ref qJ, .ref qR, .int 0])), (qR, .inl (E.2.1, 3, .inl (fun _ => 0))), (qK, .inr (1, [.ref qS, .int (nI 0), .int 0, .int 0])), (qS, .inl (E.2.1, 14, .inl (fun w9 => nI ((fun _ => 0) w9)))), (qJ, .inr (2, [.ref qD, .ref qQ, .int (nI 0), .int 0, .int 0, .int 0])), (qQ, .inl (E.2.1, 16, .inl (fun w9 => nI ((fun _ => 0) w9)))), (qD, .inr (0, [.ref qO, .ref qG, .ref qC, .ref qA, .ref qB, .int (nI 0), .int (nI 0)])), (qO, .inl (E.2.1, 16, .inl (fun w9 => nI ((fun _ => 0) w9)))), (qG, .inl (E.2.1, 16, .inl (fun _ => 0))), (qC, .inl (E.2.1, 16, .inl (fun _ => 0))), (qA, .inl (E.2.1, 16, .inl (fun _ => 0))), (qB, .inl (E.2.1, 3, .inl (fz 300 (fun _ => 0) 3))), (qM, .inr (4, [.null, .int (nI 0), .null, .null, .int (nI 0), .null, .int (nI 0), .null, .null, .null, .null, .null, .int 0, .null, .int 0]))]) (Wc := [(qM, .inr (4, [.null, .int (nI 0), .null, .null, .int (nI 0), .null, .int (nI 0), .null, .null, .null, .null, .null, .int 0, .null, .int 0]))]) (Wr := [(qX, .inr (3, [.ref qK, .ref qD, .ref qJ, .ref qR, .int 0])), (qR, .inl (E.2.1, 3, .inl (fun _ => 0))), (qK, .inr (1, [.ref qS, .int (nI 0), .int 0, .int 0])), (qS, .inl (E.2.1, 14, .inl (fun w9 => nI ((fun _ => 0) w9)))), (qJ, .inr (2, [.ref qD, .ref qQ, .int (nI 0), .int 0, .int 0, .int 0])), (qQ, .inl (E.2.1, 16, .inl (fun w9 => nI ((fun _ => 0) w9)))), (qD, .inr (0, [.ref qO, .ref qG, .ref qC, .ref qA, .ref qB, .int (nI 0), .int (nI 0)])), (qO, .inl (E.2.1, 16, .inl (fun w9 => nI ((fun _ => 0) w9)))), (qG, .inl (E.2.1, 16, .inl (fun _ => 0))), (qC, .inl (E.2.1, 16, .inl (fun _ => 0))), (qA, .inl (E.2.1, 16, .inl (fun _ => 0))), (qB, .inl (E.2.1, 3, .inl (fz 300 (fun _ => 0) 3)))]) (W1 := (fun u : Nat × Nat × Nat × Nat × Nat × Nat × Nat × Nat × Nat × Nat => [(qM, .inr (4, [.ref u.1, .int (nI 0), .ref u.2.1, .ref u.2.2.1, .int (nI 0), .ref u.2.2.2.1, .int (nI 0), .ref u.2.2.2.2.1, .ref u.2.2.2.2.2.1, .ref u.2.2.2.2.2.2.1, .ref u.2.2.2.2.2.2.2.1, .ref u.2.2.2.2.2.2.2.2.1, .int 0, .ref u.2.2.2.2.2.2.2.2.2, .int 0])), (u.1, .inl (E.2.2.1, 6, .inl (fun w9 => zI ((fun _ => false) w9)))), (u.2.1, .inl (E.2.1, 14, .inl (fun w9 => nI ((fun _ => 0) w9)))), (u.2.2.1, .inl (E.2.2.1, 14, .inl (fun w9 => zI ((fun _ => false) w9)))), (u.2.2.2.1, .inl (E.2.1, 3, .inl (fz 300 (fun _ => 0) 3))), (u.2.2.2.2.1, .inl (E.2.1, 16, .inl (fun w9 => nI ((fun _ => 0) w9)))), (u.2.2.2.2.2.1, .inl (E.2.1, 16, .inl (fun _ => 0))), (u.2.2.2.2.2.2.1, .inl (E.2.1, 16, .inl (fun _ => 0))), (u.2.2.2.2.2.2.2.1, .inl (E.2.1, 16, .inl (fun _ => 0))), (u.2.2.2.2.2.2.2.2.1, .inl (E.2.1, 16, .inl (fun _ => 0))), (u.2.2.2.2.2.2.2.2.2, .inl (E.2.1, 3, .inl (fun _ => 0)))])) (As := []) (rest := [.ref qM]) ⟨hx, hb, hml, hown, hts⟩ (c_X4_init l E qM H.size) (cwI 0 hts gL_law_X4_init rfl rfl rfl (hts (.initialized RX4) (List.mem_of_getElem? (i := 5) rfl)) (hts (.methodLink RL 67 yX4_init) (List.mem_of_getElem? (i := 61) rfl)) (hts (.instanceMethod yX4_init) (List.mem_of_getElem? (i := 62) rfl)) rfl (by decide +kernel) ⟨Nat.le_of_ble_eq_true rfl, Nat.le_of_ble_eq_true rfl⟩) hK hP hD hS hA [12] [0, 1, 2, 3, 4, 5, 6, 7, 8, 9, 10, 11] rfl rfl (by decide) rfl (by decide) (by decide) rfl hl.1 rfl (Nat.le_of_ble_eq_true rfl) dL_law_12 ⟨Nat.le_of_ble_eq_true rfl, Nat.le_of_ble_eq_true rfl⟩ (fun u9 H locs hP hD hS => ?_)
  obtain ⟨uF, uS, uW, uB, uO, uG, uR, uK, uT, uP⟩ := u9
  have hP : va_P E.1 vwCl [(qX, .inr (3, [.ref qK, .ref qD, .ref qJ, .ref qR, .int 0])), (qR, .inl (E.2.1, 3, .inl (fun _ => 0))), (qK, .inr (1, [.ref qS, .int (nI 0), .int 0, .int 0])), (qS, .inl (E.2.1, 14, .inl (fun w9 => nI ((fun _ => 0) w9)))), (qJ, .inr (2, [.ref qD, .ref qQ, .int (nI 0), .int 0, .int 0, .int 0])), (qQ, .inl (E.2.1, 16, .inl (fun w9 => nI ((fun _ => 0) w9)))), (qD, .inr (0, [.ref qO, .ref qG, .ref qC, .ref qA, .ref qB, .int (nI 0), .int (nI 0)])), (qO, .inl (E.2.1, 16, .inl (fun w9 => nI ((fun _ => 0) w9)))), (qG, .inl (E.2.1, 16, .inl (fun _ => 0))), (qC, .inl (E.2.1, 16, .inl (fun _ => 0))), (qA, .inl (E.2.1, 16, .inl (fun _ => 0))), (qB, .inl (E.2.1, 3, .inl (fz 300 (fun _ => 0) 3))), (qM, .inr (4, [.ref uF, .int (nI 0), .ref uS, .ref uW, .int (nI 0), .ref uB, .int (nI 0), .ref uO, .ref uG, .ref uR, .ref uK, .ref uT, .int 0, .ref uP, .int 0])), (uF, .inl (E.2.2.1, 6, .inl (fun w9 => zI ((fun _ => false) w9)))), (uS, .inl (E.2.1, 14, .inl (fun w9 => nI ((fun _ => 0) w9)))), (uW, .inl (E.2.2.1, 14, .inl (fun w9 => zI ((fun _ => false) w9)))), (uB, .inl (E.2.1, 3, .inl (fz 300 (fun _ => 0) 3))), (uO, .inl (E.2.1, 16, .inl (fun w9 => nI ((fun _ => 0) w9)))), (uG, .inl (E.2.1, 16, .inl (fun _ => 0))), (uR, .inl (E.2.1, 16, .inl (fun _ => 0))), (uK, .inl (E.2.1, 16, .inl (fun _ => 0))), (uT, .inl (E.2.1, 16, .inl (fun _ => 0))), (uP, .inl (E.2.1, 3, .inl (fun _ => 0)))] H := hP
  have hD : va_D (lA s) [(qX, .inr (3, [.ref qK, .ref qD, .ref qJ, .ref qR, .int 0])), (qR, .inl (E.2.1, 3, .inl (fun _ => 0))), (qK, .inr (1, [.ref qS, .int (nI 0), .int 0, .int 0])), (qS, .inl (E.2.1, 14, .inl (fun w9 => nI ((fun _ => 0) w9)))), (qJ, .inr (2, [.ref qD, .ref qQ, .int (nI 0), .int 0, .int 0, .int 0])), (qQ, .inl (E.2.1, 16, .inl (fun w9 => nI ((fun _ => 0) w9)))), (qD, .inr (0, [.ref qO, .ref qG, .ref qC, .ref qA, .ref qB, .int (nI 0), .int (nI 0)])), (qO, .inl (E.2.1, 16, .inl (fun w9 => nI ((fun _ => 0) w9)))), (qG, .inl (E.2.1, 16, .inl (fun _ => 0))), (qC, .inl (E.2.1, 16, .inl (fun _ => 0))), (qA, .inl (E.2.1, 16, .inl (fun _ => 0))), (qB, .inl (E.2.1, 3, .inl (fz 300 (fun _ => 0) 3))), (qM, .inr (4, [.ref uF, .int (nI 0), .ref uS, .ref uW, .int (nI 0), .ref uB, .int (nI 0), .ref uO, .ref uG, .ref uR, .ref uK, .ref uT, .int 0, .ref uP, .int 0])), (uF, .inl (E.2.2.1, 6, .inl (fun w9 => zI ((fun _ => false) w9)))), (uS, .inl (E.2.1, 14, .inl (fun w9 => nI ((fun _ => 0) w9)))), (uW, .inl (E.2.2.1, 14, .inl (fun w9 => zI ((fun _ => false) w9)))), (uB, .inl (E.2.1, 3, .inl (fz 300 (fun _ => 0) 3))), (uO, .inl (E.2.1, 16, .inl (fun w9 => nI ((fun _ => 0) w9)))), (uG, .inl (E.2.1, 16, .inl (fun _ => 0))), (uR, .inl (E.2.1, 16, .inl (fun _ => 0))), (uK, .inl (E.2.1, 16, .inl (fun _ => 0))), (uT, .inl (E.2.1, 16, .inl (fun _ => 0))), (uP, .inl (E.2.1, 3, .inl (fun _ => 0)))] := hD
  refine lv_astore_n (lv' := [(2, .ref qM), (1, .ref qX), (0, .ref b)]) hx hb dL_law_15 rfl hl (by decide) rfl (fun ls hl => ?_)
  refine lv_iconst (v := 1) hx hb dL_law_16 (by decide) ?_
  refine k_newL hx hb (hts (.arrayClass .long) (List.mem_of_getElem? (i := 6) rfl)) hK hP hD hS hA 1 (by decide) (by decide) (by decide) (Nat.le_of_ble_eq_true rfl) (Nat.le_of_ble_eq_true rfl) dL_law_17 (fun qL H hP hD hS => ?_)
  have hP : va_P E.1 vwCl [(qX, .inr (3, [.ref qK, .ref qD, .ref qJ, .ref qR, .int 0])), (qR, .inl (E.2.1, 3, .inl (fun _ => 0))), (qK, .inr (1, [.ref qS, .int (nI 0), .int 0, .int 0])), (qS, .inl (E.2.1, 14, .inl (fun w9 => nI ((fun _ => 0) w9)))), (qJ, .inr (2, [.ref qD, .ref qQ, .int (nI 0), .int 0, .int 0, .int 0])), (qQ, .inl (E.2.1, 16, .inl (fun w9 => nI ((fun _ => 0) w9)))), (qD, .inr (0, [.ref qO, .ref qG, .ref qC, .ref qA, .ref qB, .int (nI 0), .int (nI 0)])), (qO, .inl (E.2.1, 16, .inl (fun w9 => nI ((fun _ => 0) w9)))), (qG, .inl (E.2.1, 16, .inl (fun _ => 0))), (qC, .inl (E.2.1, 16, .inl (fun _ => 0))), (qA, .inl (E.2.1, 16, .inl (fun _ => 0))), (qB, .inl (E.2.1, 3, .inl (fz 300 (fun _ => 0) 3))), (qM, .inr (4, [.ref uF, .int (nI 0), .ref uS, .ref uW, .int (nI 0), .ref uB, .int (nI 0), .ref uO, .ref uG, .ref uR, .ref uK, .ref uT, .int 0, .ref uP, .int 0])), (uF, .inl (E.2.2.1, 6, .inl (fun w9 => zI ((fun _ => false) w9)))), (uS, .inl (E.2.1, 14, .inl (fun w9 => nI ((fun _ => 0) w9)))), (uW, .inl (E.2.2.1, 14, .inl (fun w9 => zI ((fun _ => false) w9)))), (uB, .inl (E.2.1, 3, .inl (fz 300 (fun _ => 0) 3))), (uO, .inl (E.2.1, 16, .inl (fun w9 => nI ((fun _ => 0) w9)))), (uG, .inl (E.2.1, 16, .inl (fun _ => 0))), (uR, .inl (E.2.1, 16, .inl (fun _ => 0))), (uK, .inl (E.2.1, 16, .inl (fun _ => 0))), (uT, .inl (E.2.1, 16, .inl (fun _ => 0))), (uP, .inl (E.2.1, 3, .inl (fun _ => 0))), (qL, .inl (E.2.2.2, 1, .inr (.inl (fun _ => 0))))] H := hP
  have hD : va_D (lA s) [(qX, .inr (3, [.ref qK, .ref qD, .ref qJ, .ref qR, .int 0])), (qR, .inl (E.2.1, 3, .inl (fun _ => 0))), (qK, .inr (1, [.ref qS, .int (nI 0), .int 0, .int 0])), (qS, .inl (E.2.1, 14, .inl (fun w9 => nI ((fun _ => 0) w9)))), (qJ, .inr (2, [.ref qD, .ref qQ, .int (nI 0), .int 0, .int 0, .int 0])), (qQ, .inl (E.2.1, 16, .inl (fun w9 => nI ((fun _ => 0) w9)))), (qD, .inr (0, [.ref qO, .ref qG, .ref qC, .ref qA, .ref qB, .int (nI 0), .int (nI 0)])), (qO, .inl (E.2.1, 16, .inl (fun w9 => nI ((fun _ => 0) w9)))), (qG, .inl (E.2.1, 16, .inl (fun _ => 0))), (qC, .inl (E.2.1, 16, .inl (fun _ => 0))), (qA, .inl (E.2.1, 16, .inl (fun _ => 0))), (qB, .inl (E.2.1, 3, .inl (fz 300 (fun _ => 0) 3))), (qM, .inr (4, [.ref uF, .int (nI 0), .ref uS, .ref uW, .int (nI 0), .ref uB, .int (nI 0), .ref uO, .ref uG, .ref uR, .ref uK, .ref uT, .int 0, .ref uP, .int 0])), (uF, .inl (E.2.2.1, 6, .inl (fun w9 => zI ((fun _ => false) w9)))), (uS, .inl (E.2.1, 14, .inl (fun w9 => nI ((fun _ => 0) w9)))), (uW, .inl (E.2.2.1, 14, .inl (fun w9 => zI ((fun _ => false) w9)))), (uB, .inl (E.2.1, 3, .inl (fz 300 (fun _ => 0) 3))), (uO, .inl (E.2.1, 16, .inl (fun w9 => nI ((fun _ => 0) w9)))), (uG, .inl (E.2.1, 16, .inl (fun _ => 0))), (uR, .inl (E.2.1, 16, .inl (fun _ => 0))), (uK, .inl (E.2.1, 16, .inl (fun _ => 0))), (uT, .inl (E.2.1, 16, .inl (fun _ => 0))), (uP, .inl (E.2.1, 3, .inl (fun _ => 0))), (qL, .inl (E.2.2.2, 1, .inr (.inl (fun _ => 0))))] := hD
  refine lv_astore_n (lv' := [(3, .ref qL), (2, .ref qM), (1, .ref qX), (0, .ref b)]) hx hb dL_law_19 rfl hl (by decide) rfl (fun ls hl => ?_)
  refine lv_iconst (v := 0) hx hb dL_law_20 (by decide) ?_
  refine lv_istore (lv' := [(4, .int 0), (3, .ref qL), (2, .ref qM), (1, .ref qX), (0, .ref b)]) hx hb dL_law_21 hl (by decide) rfl (fun ls hl => ?_)
  refine W.widen (k := 24 + 0) (n := 258 + 6 * 0) (by decide) (by decide) ?_
  exact w_loop hl9 E qX qR qK qS qJ qQ qD qO qG qC qA qB qM uF uS uW uB uO uG uR uK uT uP qL hC hret (L + 1) 0 (by omega) (by omega) 0 (fun _ => 0) 0 0 0 (fun _ => 0) 0 0 0 0 (fun _ => 0) 0 0 (fun _ => 0) (fun _ => 0) (fun _ => 0) (fun _ => 0) (fz 300 (fun _ => 0) 3) 0 (fun _ => false) (fun _ => false) (fun _ => 0) (fun _ => 0) Iv_0 H locs _ hP hD hS (lv_sub hl [4, 3, 2, 1, 0] rfl)
-- ===== MY PART ENDS =====
set_option maxHeartbeats 4000000 in
theorem lw_walk (l : Launch) (hflags : l.flags = flags0) (b : Addr) (xs : List Int32) : MetFree l x (headSpec (Jvm.Cond.code x code maxLocals ret :: tables_1) room_1) (lw_P b xs) (fun _ _ _ _ _ => True) lw_Q := by
  refine MetFree.of_bodyS (code := code) (maxLocals := maxLocals) (ret := ret) (by decide) ?_ ?_
  · intro args s m h hn
    obtain ⟨meth, c, h1, h2, h3, h4, h5, h6, -, -⟩ := Cond.code_spec hn (atoms_spec (ws := Jvm.Cond.code x code maxLocals ret :: tables_1) h _ List.mem_cons_self)
    exact ⟨meth, c, h1, h2, h3, h4, h5, h6⟩
  · intro p e s m args below meth c s₁ B hml0 hP _
    obtain ⟨rfl, hx, hbd, hgv⟩ := hP
    obtain ⟨scr, harrAt, hlist, hof, hsmall⟩ := hx
    obtain ⟨hcb, hkn, -, -⟩ := State.arrayAt?_spec harrAt
    have hown : s.vm.findClass R_law = some m.cls := findClass_of_methodNamed B.named
    have hts0 : ∀ c ∈ (Jvm.Cond.code x code maxLocals ret :: tables_1), c.before #[Value.ref b] s = true := atoms_spec (ws := Jvm.Cond.code x code maxLocals ret :: tables_1) B.pre
    have hts : ∀ w ∈ lw_tbl, w.before #[Value.ref b] s = true := k2_hts_sels lw_privs (fun w hw => hts0 w (List.mem_cons_of_mem _ hw)) lw_privs_ok
    have hml : c.maxLocals = 7 := B.maxLocals_eq (hts0 _ List.mem_cons_self)
    have X₀ : Stand p l e room_1 s m #[Value.ref b] below meth c s₁ [] 0 0 := Stand.of_body B
    have hh0 : s₁.heap = s.heap := by rw [B.state]; rfl
    have hsz : scr.slots.size = xs.length := by rw [← Array.length_toList, hlist, List.length_map]
    have hval : ∀ j : Nat, j < xs.length → scr.slots[j]? = some (.int (xs.getD j 0)) := fun j hj => by
      rw [← Array.getElem?_toList, hlist]
      simp [hj]
    have hbl : b < s.heap.size := (Array.getElem?_eq_some_iff.mp hcb).1
    have hX : va_X b xs.length (fun j => xs.getD j 0) s s.heap := ⟨scr, hcb, hof, hkn, hsz, hval⟩
    have K : W p l e room_1 s m #[Value.ref b] below meth c s₁.heap [] 0 0 (lw_Z below #[Value.ref b] s) (entryFrame m ([Value.ref b] : List Value).toArray 7) := by
      rw [hh0]
      exact whole_start l hflags hbd ⟨B.exec, B.bytes, B.returns, hml, hown, hts, hX, hbl, B.notSynchronized, hgv⟩
    obtain ⟨t, a1, o, b1, b2, b3⟩ := K s₁ rfl X₀
    exact ⟨t, o, a1, b1, b2, b3⟩
theorem lw_pre_spec {args : Array Value} {s : State} (h : (Jvm.Cond.and given_1 narrow_1).before args s = true) (hr : rest_1_c.before args s = true) : ∃ (b : Addr) (xs : List Int32), lw_P b xs args s := by
  have hs := flat_of_before _ h
  have hq := flat_of_before _ hr
  have hc : (Cond.count 1).before args s = true := hs _ (by decide +kernel)
  have harr : (Cond.arrayOf (.arg 0) .int).before args s = true := hs _ (by decide +kernel)
  have hle : (Cond.le (.length (.arg 0)) (.int 1536)).before args s = true := hs _ (by decide +kernel)
  have hlen : (Cond.isInt (.length (.arg 0))).before args s = true := hq _ (by decide +kernel)
  have hall : (Cond.all (.arg 0) (.isInt (.elem (.arg 0) (.index 0)))).before args s = true := hq _ (by decide +kernel)
  obtain ⟨b, xs, hb, hx⟩ := State.ints_of_pre rfl harr hlen hall
  have hsm : xs.length < 2 ^ 31 := hx.choose_spec.2.2.2
  have hev : (Term.length (.arg 0)).eval args s none [] s = some (.int xs.length.toInt32) := hx.length_eval hb
  have hv := Cond.le_ints hev (show (Term.int 1536).eval args s none [] s = some (.int 1536) from rfl)
  have hd : xs.length.toInt32 ≤ 1536 := by
    simpa [Cond.before, Cond.holds, hv] using hle
  have hN : xs.length ≤ 1536 := (Int32.ofNat_le_ofNat hsm (by decide)).mp (show Int32.ofNat xs.length ≤ Int32.ofNat 1536 from hd)
  exact ⟨b, xs, Cond.one_arg hc (show args[0]? = some (.ref b) from hb), hx, hN, h⟩
theorem lw_comes (l : Launch) (hflags : l.flags = flags0) : Comes l x (Jvm.Cond.code x code maxLocals ret :: tables_1) room_1 (fun tb e args s => Calls_1 tb e args s ∧ rest_1 tb e args s ∧ Pre_1 tb e args s)
    (fun _ _ args s o t => lw_Q args s o t) := by
  intro p e ha hc hk s m args below hf hfit hheap happ hpre
  obtain ⟨b, xs, hP⟩ := lw_pre_spec hpre.2.2 hpre.2.1
  obtain ⟨k, o, h1, h2, h3, hQ⟩ := lw_walk l hflags b xs p e ha hc hk s m args below hf ((Spec.applies_iff_loose hf).mp happ).1 hP trivial
  exact ⟨k, o, h1, h2, h3, hQ⟩
theorem lw_frame {s t : State} {o : Outcome} {args : Array Value} (h : Framed s o t [] 1057 8504) :
    Framed s o t (fieldLocs frame_1_writes args s ++ arrayLocs frame_1_arrays args s ++ staticLocs frame_1_statics s) 1057 8504 := h
theorem lw_limb (L : Cond) (hL : ∀ (args : Array Value) (s t : State), L.after args s (.returned (some (.int 1))) t = true) :
    ArmFor flags0 classFile x code maxLocals ret World_1 tables_1 room_1 Calls_1 rest_1 Pre_1
      (fun tb e a s o t => postC L tb e a s o t ∧ Framed s o t (fieldLocs frame_1_writes a s ++ arrayLocs frame_1_arrays a s ++ staticLocs frame_1_statics s) 1057 8504) := by
  intro l hflags _ _ p e ha hc hk s m args below hf hfit hheap happ hpre
  obtain ⟨k, o, h1, h2, h3, rfl, hF⟩ := lw_comes l hflags p e ha hc hk s m args below hf hfit hheap happ hpre
  exact ⟨k, _, h1, h2, h3, hL args s _, lw_frame hF⟩
theorem i_vc : Claimed_1_1 ∧ Claimed_1_2 := ⟨lw_limb limb_1_1 (fun args s t => by simp [limb_1_1, Cond.after, Cond.holds, Cond.value]), lw_limb limb_1_2 (fun args s t => Cond.after_iff.mpr (by
  first | (rw [show limb_1_2 = Cond.eq .result (.int 1) from rfl, Cond.eq_ints (x := 1) (y := 1) rfl rfl]; simp; done) | (simp [limb_1_2, Cond.value, Term.eval]; done)))⟩
