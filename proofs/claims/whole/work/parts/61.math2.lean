/-! the queue -/
def pk9 (h k x : Nat) : Nat := if x < k then h + 1 else h
theorem pk9_lt {h k x : Nat} (l : x < k) : pk9 h k x = h + 1 := if_pos l
theorem pk9_ge {h k x : Nat} (l : ¬ x < k) : pk9 h k x = h := if_neg l
section QUE
variable {gf gc ak : Nat → Int32} {S : Int32} {n : Nat}
/-- how x is decided hangs on y -/
def Dp (gc ak : Nat → Int32) (x y : Nat) : Prop := bt (gc x ||| ak x) y = true
/-- every claim that could be decided waits for one of the queue's from lo on; of those with P -/
def Pd (gf gc ak : Nat → Int32) (S : Int32) (n : Nat) (P : Nat → Nat) (j : jT) (d : Nat → Int32) : Prop := ∀ x, x < n → d x = 0 → (Hd gf gc ak S n d x ∨ Fl gf gc ak S n d x) → ∃ q, P x ≤ q ∧ q < j.2.1 ∧ Dp gc ak x (j.1 q)
def Qi (gf gc ak : Nat → Int32) (S : Int32) (n : Nat) (j : jT) (d : Nat → Int32) : Prop := Ab j.2.2.1 j.2.2.2 d ∧ Gd gf gc ak S n d ∧ opn d n + j.2.1 = n
theorem Hd_back {d : Nat → Int32} {c x : Nat} {v : Int32} (hn : ¬ Dp gc ak x c) (h : Hd gf gc ak S n (upd d c v) x) : Hd gf gc ak S n d x := by
  refine ⟨h.1, fun i hi hb => ?_, fun i hi hb => ?_⟩
  · have e := h.2.1 i hi hb
    rwa [upd_ne (fun z => hn (by subst z; unfold Dp; rw [b_or, hb]; rfl))] at e
  · have e := h.2.2 i hi hb
    rwa [upd_ne (fun z => hn (by subst z; unfold Dp; rw [b_or, hb, Bool.or_true]))] at e
theorem Fl_back {d : Nat → Int32} {c x : Nat} {v : Int32} (hn : ¬ Dp gc ak x c) (h : Fl gf gc ak S n (upd d c v) x) : Fl gf gc ak S n d x := by
  rcases h with b | ⟨i, hi, b1, b2⟩ | ⟨i, hi, b1, b2⟩
  · exact Or.inl b
  · exact Or.inr (Or.inl ⟨i, hi, b1, by rwa [upd_ne (fun z => hn (by subst z; unfold Dp; rw [b_or, b1]; rfl))] at b2⟩)
  · exact Or.inr (Or.inr ⟨i, hi, b1, by rwa [upd_ne (fun z => hn (by subst z; unfold Dp; rw [b_or, b1, Bool.or_true]))] at b2⟩)
/-- one claim is looked at, and queued: what waited waits, from P on; that claim needs no more -/
theorem dQ_inv {j : jT} {d : Nat → Int32} {c : Nat} {P P' : Nat → Nat} (hn : n ≤ 16) (hg : Bd n gc) (ha : Bd n ak) (hc : c < n) (hQ : Qi gf gc ak S n j d) (hP : ∀ x, x < n → x ≠ c → d x = 0 → (Hd gf gc ak S n d x ∨ Fl gf gc ak S n d x) → ∃ q, P x ≤ q ∧ q < j.2.1 ∧ Dp gc ak x (j.1 q)) (hPq : ∀ x, P x ≤ j.2.1) :
    ∃ d', Qi gf gc ak S n (dQ gf gc ak S c j) d' ∧ Pd gf gc ak S n P (dQ gf gc ak S c j) d' ∧ j.2.1 ≤ (dQ gf gc ak S c j).2.1 ∧ ∀ i, i < j.2.1 → (dQ gf gc ak S c j).1 i = j.1 i := by
  obtain ⟨hA, hG, ho⟩ := hQ
  obtain ⟨qu, qn, I, O⟩ := j
  rcases dR_ab hn hg ha hA hG hc with ⟨e, hq⟩ | ⟨v, I', O', e, h0, hv, hA'⟩
  · have e1 : (dR gf gc ak S c I O) = (false, I, O) := e
    have e2 : dQ gf gc ak S c (qu, qn, I, O) = (qu, qn, I, O) := by rw [dQ_a (by rw [e1]), e1]
    rw [e2]
    refine ⟨d, ⟨hA, hG, ho⟩, fun x hx h0 h => ?_, Nat.le_refl _, fun i _ => rfl⟩
    by_cases ex : x = c
    · subst ex
      rcases h with h | h
      · exact absurd h (hq h0).1
      · exact absurd h (hq h0).2
    · exact hP x hx ex h0 h
  · have e1 : (dR gf gc ak S c I O) = (true, I', O') := e
    have hv0 : ¬ v = 0 := by rcases hv with ⟨rfl, _⟩ | ⟨rfl, _⟩ <;> decide
    have hop := opn_upd h0 hv0 n hc
    have ho' : opn d n + qn = n := ho
    have e2 : dQ gf gc ak S c (qu, qn, I, O) = (upN qu qn c, qn + 1, I', O') := by rw [dQ_c (by rw [e1]) (by omega), e1]
    rw [e2]
    refine ⟨upd d c v, ⟨hA', Gd_step hG hc h0 hv, ?_⟩, fun x hx hx0 h => ?_, Nat.le_succ _, fun i hi => if_neg (Nat.ne_of_lt hi)⟩
    · show opn (upd d c v) n + (qn + 1) = n
      omega
    · by_cases ex : x = c
      · subst ex; rw [upd_at] at hx0; exact absurd hx0 hv0
      · rw [upd_ne ex] at hx0
        by_cases hd : Dp gc ak x c
        · exact ⟨qn, hPq x, Nat.lt_succ_self _, by show Dp gc ak x (if qn = qn then c else qu qn); rw [if_pos rfl]; exact hd⟩
        · obtain ⟨q, q1, q2, q3⟩ := hP x hx ex hx0 (h.elim (fun h => Or.inl (Hd_back hd h)) (fun h => Or.inr (Fl_back hd h)))
          have q2' : q < qn := q2
          exact ⟨q, q1, Nat.lt_succ_of_lt q2', by show Dp gc ak x (if q = qn then c else qu q); rw [if_neg (Nat.ne_of_lt q2')]; exact q3⟩
theorem aQ_inv (hn : n ≤ 16) (hg : Bd n gc) (ha : Bd n ak) (qu : Nat → Nat) : ∀ k, k ≤ n → ∃ d, Qi gf gc ak S n (aQ gf gc ak S qu k) d ∧ ∀ x, x < k → d x = 0 → (Hd gf gc ak S n d x ∨ Fl gf gc ak S n d x) → ∃ q, 0 ≤ q ∧ q < (aQ gf gc ak S qu k).2.1 ∧ Dp gc ak x ((aQ gf gc ak S qu k).1 q)
  | 0, _ => ⟨fun _ => 0, ⟨Ab_0, Gd_zero (fun _ _ => rfl), by
      have : ∀ m, opn (fun _ => (0 : Int32)) m = m := fun m => by
        induction m with
        | zero => rfl
        | succ m ih => unfold opn; rw [ih, if_pos rfl]
      rw [this]; rfl⟩, fun x hx => absurd hx (Nat.not_lt_zero x)⟩
  | k + 1, hk => by
    obtain ⟨d, h1, h2⟩ := aQ_inv hn hg ha qu k (by omega)
    -- claims beyond k are given a place that is surely there only when they are looked at: look at those up to k alone
    obtain ⟨hA, hG, ho⟩ := h1
    generalize hj : aQ gf gc ak S qu k = j at hA ho h2
    have e0 : aQ gf gc ak S qu (k + 1) = dQ gf gc ak S k j := by rw [← hj]; rfl
    rw [e0]
    obtain ⟨qu', qn, I, O⟩ := j
    rcases dR_ab hn hg ha hA hG (show k < n by omega) with ⟨e, hq⟩ | ⟨v, I', O', e, h0, hv, hA'⟩
    · have e1 : (dR gf gc ak S k I O) = (false, I, O) := e
      rw [show dQ gf gc ak S k (qu', qn, I, O) = (qu', qn, I, O) by rw [dQ_a (by rw [e1]), e1]]
      refine ⟨d, ⟨hA, hG, ho⟩, fun x hx h0 h => ?_⟩
      by_cases ex : x = k
      · subst ex
        rcases h with h | h
        · exact absurd h (hq h0).1
        · exact absurd h (hq h0).2
      · exact h2 x (by omega) h0 h
    · have e1 : (dR gf gc ak S k I O) = (true, I', O') := e
      have hv0 : ¬ v = 0 := by rcases hv with ⟨rfl, _⟩ | ⟨rfl, _⟩ <;> decide
      have hop := opn_upd h0 hv0 n (show k < n by omega)
      have ho' : opn d n + qn = n := ho
      rw [show dQ gf gc ak S k (qu', qn, I, O) = (upN qu' qn k, qn + 1, I', O') by rw [dQ_c (by rw [e1]) (by omega), e1]]
      refine ⟨upd d k v, ⟨hA', Gd_step hG (by omega) h0 hv, ?_⟩, fun x hx hx0 h => ?_⟩
      · show opn (upd d k v) n + (qn + 1) = n
        omega
      · by_cases ex : x = k
        · subst ex; rw [upd_at] at hx0; exact absurd hx0 hv0
        · rw [upd_ne ex] at hx0
          by_cases hd : Dp gc ak x k
          · exact ⟨qn, Nat.zero_le _, Nat.lt_succ_self _, by show Dp gc ak x (if qn = qn then k else qu' qn); rw [if_pos rfl]; exact hd⟩
          · obtain ⟨q, q1, q2, q3⟩ := h2 x (by omega) hx0 (h.elim (fun h => Or.inl (Hd_back hd h)) (fun h => Or.inr (Fl_back hd h)))
            have q2' : q < qn := q2
            exact ⟨q, q1, Nat.lt_succ_of_lt q2', by show Dp gc ak x (if q = qn then k else qu' q); rw [if_neg (Nat.ne_of_lt q2')]; exact q3⟩
/-- going on from the h-th of the queue, over the first k claims -/
theorem gO_inv (hn : n ≤ 16) (hg : Bd n gc) (ha : Bd n ak) {j : jT} {d : Nat → Int32} {h : Nat} (hh : h < j.2.1) (hQ : Qi gf gc ak S n j d) (hP : Pd gf gc ak S n (fun _ => h) j d) :
    ∀ k, k ≤ n → ∃ d', Qi gf gc ak S n (gO gf gc ak S (j.1 h) j k) d' ∧ Pd gf gc ak S n (pk9 h k) (gO gf gc ak S (j.1 h) j k) d' ∧ j.2.1 ≤ (gO gf gc ak S (j.1 h) j k).2.1 ∧ ∀ i, i < j.2.1 → (gO gf gc ak S (j.1 h) j k).1 i = j.1 i
  | 0, _ => ⟨d, hQ, fun x hx h0 hy => by
      obtain ⟨q, q1, q2⟩ := hP x hx h0 hy
      exact ⟨q, by rw [pk9_ge (Nat.not_lt_zero x)]; exact q1, q2⟩, Nat.le_refl _, fun _ _ => rfl⟩
  | k + 1, hk => by
    obtain ⟨d', h1, h2, h3, h4⟩ := gO_inv hn hg ha hh hQ hP k (by omega)
    cases hb : bt (gc k ||| ak k) (j.1 h) with
    | false =>
      rw [gO_f hb]
      refine ⟨d', h1, fun x hx h0 hy => ?_, h3, h4⟩
      obtain ⟨q, q1, q2, q3⟩ := h2 x hx h0 hy
      refine ⟨q, ?_, q2, q3⟩
      by_cases e : x = k
      · subst e
        rw [pk9_ge (Nat.lt_irrefl x)] at q1
        rw [pk9_lt (Nat.lt_succ_self x)]
        by_cases eq : q = h
        · subst eq
          rw [h4 q hh] at q3
          exact (tf_ q3 hb).elim
        · omega
      · by_cases l : x < k
        · rw [pk9_lt l] at q1; rw [pk9_lt (by omega)]; exact q1
        · rw [pk9_ge l] at q1; rw [pk9_ge (by omega)]; exact q1
    | true =>
      rw [gO_t hb]
      obtain ⟨d2, a1, a2, a3, a4⟩ := dQ_inv (P := pk9 h (k + 1)) (P' := fun _ => 0) hn hg ha (show k < n by omega) h1 (fun x hx ex h0 hy => by
        obtain ⟨q, q1, q2⟩ := h2 x hx h0 hy
        refine ⟨q, ?_, q2⟩
        by_cases l : x < k
        · rw [pk9_lt l] at q1; rw [pk9_lt (by omega)]; exact q1
        · rw [pk9_ge l] at q1; rw [pk9_ge (by omega)]; exact q1) (fun x => by
        by_cases l : x < k + 1
        · rw [pk9_lt l]; omega
        · rw [pk9_ge l]; omega)
      exact ⟨d2, a1, a2, Nat.le_trans h3 a3, fun i hi => (a4 i (by omega)).trans (h4 i hi)⟩
theorem hQ_inv (hn : n ≤ 16) (hg : Bd n gc) (ha : Bd n ak) : ∀ (f h : Nat) (j : jT) (d : Nat → Int32), f + h = 16 → Qi gf gc ak S n j d → Pd gf gc ak S n (fun _ => h) j d → ∃ d', Ab (hQ gf gc ak S n f h j).2.2.1 (hQ gf gc ak S n f h j).2.2.2 d' ∧ Gd gf gc ak S n d' ∧ Qt gf gc ak S n d'
  | 0, h, j, d, hf, hQi, hP => ⟨d, hQi.1, hQi.2.1, fun c hc h0 => by
      have hle : j.2.1 ≤ 16 := by have := hQi.2.2; omega
      refine ⟨fun z => ?_, fun z => ?_⟩
      · obtain ⟨q, q1, q2, _⟩ := hP c hc h0 (Or.inl z)
        have q1 : h ≤ q := q1
        omega
      · obtain ⟨q, q1, q2, _⟩ := hP c hc h0 (Or.inr z)
        have q1 : h ≤ q := q1
        omega⟩
  | f + 1, h, j, d, hf, hQi, hP => by
    by_cases hh : h < j.2.1
    · rw [show hQ gf gc ak S n (f + 1) h j = hQ gf gc ak S n f (h + 1) (gO gf gc ak S (j.1 h) j n) from if_pos hh]
      obtain ⟨d', h1, h2, _, _⟩ := gO_inv hn hg ha hh hQi hP n (Nat.le_refl n)
      exact hQ_inv hn hg ha f (h + 1) _ d' (by omega) h1 (fun x hx h0 hy => by
        obtain ⟨q, q1, q2⟩ := h2 x hx h0 hy
        rw [pk9_lt hx] at q1
        exact ⟨q, q1, q2⟩)
    · rw [show hQ gf gc ak S n (f + 1) h j = j from if_neg hh]
      refine ⟨d, hQi.1, hQi.2.1, fun c hc h0 => ⟨fun z => ?_, fun z => ?_⟩⟩
      · obtain ⟨q, q1, q2, _⟩ := hP c hc h0 (Or.inl z); exact absurd (Nat.lt_of_le_of_lt q1 q2) hh
      · obtain ⟨q, q1, q2, _⟩ := hP c hc h0 (Or.inr z); exact absurd (Nat.lt_of_le_of_lt q1 q2) hh
theorem jG_sol (hn : n ≤ 16) (hg : Bd n gc) (ha : Bd n ak) (qu : Nat → Nat) : ∃ d', Ab (jG gf gc ak S n qu).2.2.1 (jG gf gc ak S n qu).2.2.2 d' ∧ Gd gf gc ak S n d' ∧ Qt gf gc ak S n d' := by
  obtain ⟨d, h1, h2⟩ := aQ_inv (gf := gf) (S := S) hn hg ha qu n (Nat.le_refl n)
  exact hQ_inv hn hg ha 16 0 _ d rfl h1 h2
/-! what comes of it -/
theorem dc_ab {I O : Int32} {d : Nat → Int32} {c : Nat} (hc : c < n) (hn : n ≤ 16) (hA : Ab I O d) (hG : Gd gf gc ak S n d) : dcF I O c = d c := by
  unfold dcF
  rw [(hA c (by omega)).1, (hA c (by omega)).2]
  rcases hG.2 c hc with h | ⟨h, _⟩ | ⟨h, _⟩ <;> rw [h] <;> decide
theorem jG_is (hn : n ≤ 16) (hg : Bd n gc) (ha : Bd n ak) (qu : Nat → Nat) (st : Nat → Int32) : ∀ c, c < n → dcF (jG gf gc ak S n qu).2.2.1 (jG gf gc ak S n qu).2.2.2 c = (mJ gf gc ak S n st).2 c ∧ bt (jG gf gc ak S n qu).2.2.1 c = decide ((mJ gf gc ak S n st).2 c = 1) := by
  intro c hc
  obtain ⟨d, h1, h2, h3⟩ := jG_sol (gf := gf) (S := S) hn hg ha qu
  obtain ⟨m1', m2'⟩ := mJ_sol (gf := gf) (gc := gc) (ak := ak) (S := S) (d := st) hn
  have e := uniq h2 h3 m1' m2' c hc
  exact ⟨(dc_ab hc hn h1 h2).trans e, by rw [(h1 c (by omega)).1, e]⟩
theorem rJ_is (hn : n ≤ 16) (hg : Bd n gc) (ha : Bd n ak) (st : Nat → Int32) : ∀ c, c < n → dcF (rJ gf gc ak S n).2.1 (rJ gf gc ak S n).2.2 c = (mJ gf gc ak S n st).2 c := by
  intro c hc
  obtain ⟨d, h1, h2, h3⟩ := rJ_sol (gf := gf) (S := S) hn hg ha
  obtain ⟨m1', m2'⟩ := mJ_sol (gf := gf) (gc := gc) (ak := ak) (S := S) (d := st) hn
  exact (dc_ab hc hn h1 h2).trans (uniq h2 h3 m1' m2' c hc)
theorem cn_is {ow : Nat → Nat} {q : Nat} {x : Int32} {st : Nat → Int32} : ∀ k, (∀ c, c < k → bt x c = decide (st c = 1)) → cnF ow q x k = cnS ow st q k
  | 0, _ => rfl
  | k + 1, h => by
    have ih := cn_is (ow := ow) (q := q) k (fun c hc => h c (by omega))
    unfold cnF cnS
    have e := h k (by omega)
    rw [ih]
    by_cases c : ow k = q ∧ st k = 1
    · rw [if_pos c, if_pos ⟨c.1, by rw [e]; exact decide_eq_true c.2⟩]
    · rw [if_neg c, if_neg (fun z => c ⟨z.1, of_decide_eq_true (by rw [← e]; exact z.2)⟩)]
theorem sc_is {ow : Nat → Nat} {q : Nat} (hn : n ≤ 16) (hg : Bd n gc) (ha : Bd n ak) (qu : Nat → Nat) (st : Nat → Int32) : cnF ow q (jG gf gc ak S n qu).2.2.1 n = cnS ow (mJ gf gc ak S n st).2 q n := cn_is n (fun c hc => (jG_is hn hg ha qu st c hc).2)
end QUE
