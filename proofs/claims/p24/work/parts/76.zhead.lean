set_option maxHeartbeats 8000000 in
set_option maxRecDepth 100000 in
theorem w_head {p : Program} {l : Launch} {e : Env} {s : State} {m : MethodId} {below : List Frame} {meth : Method} {c : Code} {b L : Nat} {xs : Nat → Int32} {Q : State → Prop} (hl9 : l.stackTraces = false) (E : gE) (qX qR qK qS qJ qQ qD qO qG qC qA qB qW qF qM qU : Nat) (hC : zC p s m meth c b L xs E) (hret : ∀ (bb : Bool) (H : Heap) (locs : List Loc) (ls : Array Slot) (cells slots : Nat), (∀ q ∈ locs, s.heap.size ≤ q.base) → (bb = true → s.heap.size + 198 ≤ H.size) → cells ≤ 3000 → slots ≤ 20000 → W p l e room_z s m #[Value.ref b] below meth c H locs cells slots Q (F0 m 720 ls [.int (zI bb)])) : ∀ (z n : Nat), n ≤ 120 → 121 ≤ n + z → zHd p l e s m below meth c b E qX qR qK qS qJ qQ qD qO qG qC qA qB qW qF qM qU Q n (kH n) (60 + 20 * n) (500 + 120 * n) := by
  intro z
  induction z with
  | zero => intro n h1 h2; exact absurd h2 (by omega)
  | succ z ih =>
    intro n hn1 hn2
    have hC9 := hC
    obtain ⟨hx, hb, hml, hown, hts, hX, hbl, hL, hK, hT, hL0, hxs, hr, hlocks⟩ := hC9
    intro nf fl sf bb hnf H locs ls hP hD hS hzb hl
    refine lv_iload hx hb dL_law_68 (lv_at hl 7 rfl) ?_
    refine lv_bipush (v := 120) hx hb dL_law_70 (by decide) ?_
    refine lv_icmp_ge (tgt := 718) hx hb dL_law_72 (by decide) (fun c9 => ?_) (fun c9 => ?_)
    · have c9 : nI 120 ≤ nI n := c9
      have c9 := (nI_leI (a := 120) (b := n) (by decide) (by omega)).mp c9
      refine lv_iload hx hb dL_law_718 (lv_at hl 6 rfl) ?_
      exact hret bb H locs ls _ _ hS.2.2 (fun h => by have h9 := hzb h; unfold kH at h9; omega) (by omega) (by omega)
    · have c9 : ¬ (nI 120 ≤ nI n) := c9
      have c9 : ¬ (120 ≤ n) := fun h9 => c9 ((nI_leI (a := 120) (b := n) (by decide) (by omega)).mpr h9)
      refine lv_iload hx hb dL_law_75 (lv_at hl 6 rfl) ?_
      refine lv_if_eq (tgt := 718) hx hb dL_law_77 (by decide) (fun c8 => ?_) (fun c8 => ?_)
      · have c8 := zI_f c8
        refine lv_iload hx hb dL_law_718 (lv_at hl 6 rfl) ?_
        exact hret bb H locs ls _ _ hS.2.2 (fun h => by rw [h] at c8; cases c8) (by omega) (by omega)
      · have c8 := zI_t c8
        have kk : zHd p l e s m below meth c b E qX qR qK qS qJ qQ qD qO qG qC qA qB qW qF qM qU Q (n + 1) (kH (n + 1)) (60 + 20 * n + 20) (500 + 120 * n + 120) := by
          have h9 := ih (n + 1) (by omega) (by omega)
          rw [show 60 + 20 * (n + 1) = 60 + 20 * n + 20 from by omega, show 500 + 120 * (n + 1) = 500 + 120 * n + 120 from by omega] at h9
          exact h9
        have k4 := w_C4 hl9 E qX qR qK qS qJ qQ qD qO qG qC qA qB qW qF qM qU hC n (60 + 20 * n + 1) (500 + 120 * n + 6) (60 + 20 * n + 20) (500 + 120 * n + 120) (by omega) (by omega) (by omega) (by omega) (by omega) kk
        have k3 := w_C3 hl9 E qX qR qK qS qJ qQ qD qO qG qC qA qB qW qF qM qU hC n (60 + 20 * n + 1) (500 + 120 * n + 6) (60 + 20 * n + 20) (500 + 120 * n + 120) (by omega) (by omega) (by omega) (by omega) (by omega) kk k4
        have k2 := w_C2 hl9 E qX qR qK qS qJ qQ qD qO qG qC qA qB qW qF qM qU hC n (60 + 20 * n + 1) (500 + 120 * n + 6) (60 + 20 * n + 20) (500 + 120 * n + 120) (by omega) (by omega) (by omega) (by omega) (by omega) kk k3
        have k1 := w_C1 hl9 E qX qR qK qS qJ qQ qD qO qG qC qA qB qW qF qM qU hC n (60 + 20 * n + 1) (500 + 120 * n + 6) (60 + 20 * n + 20) (500 + 120 * n + 120) (by omega) (by omega) (by omega) (by omega) (by omega) kk k2
        exact w_A hl9 E qX qR qK qS qJ qQ qD qO qG qC qA qB qW qF qM qU hC n (60 + 20 * n) (500 + 120 * n) (by omega) (by omega) (by omega) k1 nf fl sf hnf H locs ls hP hD hS (hzb c8) (lv_sub hl [0, 1, 2, 3, 4, 5, 7] rfl)
