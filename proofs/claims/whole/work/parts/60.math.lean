/-! ===== what is decided: one answer, whatever the order ===== -/
theorem w01 : ¬ (1 : Int32) = 0 := by decide
theorem w02 : ¬ (2 : Int32) = 0 := by decide
theorem w12 : ¬ (1 : Int32) = 2 := by decide
theorem w21 : ¬ (2 : Int32) = 1 := by decide
section DEC
variable (gf gc ak : Nat → Int32) (S : Int32) (n : Nat)
def Hd (d : Nat → Int32) (c : Nat) : Prop := gf c &&& (S ^^^ (-1)) = 0 ∧ (∀ i, i < n → bt (gc c) i = true → d i = 1) ∧ (∀ i, i < n → bt (ak c) i = true → d i = 2)
def Fl (d : Nat → Int32) (c : Nat) : Prop := (¬ gf c &&& (S ^^^ (-1)) = 0) ∨ (∃ i, i < n ∧ bt (gc c) i = true ∧ d i = 2) ∨ (∃ i, i < n ∧ bt (ak c) i = true ∧ d i = 1)
def Cd (d : Nat → Int32) : Prop := ∀ c, c < n → (Hd gf gc ak S n d c → d c = 1) ∧ (Fl gf gc ak S n d c → d c = 2)
def Gd (d : Nat → Int32) : Prop := (∀ d', Cd gf gc ak S n d' → ∀ c, c < n → ¬ d c = 0 → d' c = d c) ∧ ∀ c, c < n → (d c = 0 ∨ (d c = 1 ∧ Hd gf gc ak S n d c) ∨ (d c = 2 ∧ Fl gf gc ak S n d c))
def Qt (d : Nat → Int32) : Prop := ∀ c, c < n → d c = 0 → ¬ Hd gf gc ak S n d c ∧ ¬ Fl gf gc ak S n d c
end DEC
section DEC2
variable {gf gc ak : Nat → Int32} {S : Int32} {n : Nat} {d : Nat → Int32} {c : Nat}
theorem Hd_Fl (h : Hd gf gc ak S n d c) (h2 : Fl gf gc ak S n d c) : False := by
  obtain ⟨a1, a2, a3⟩ := h
  rcases h2 with b | ⟨i, hi, b1, b2⟩ | ⟨i, hi, b1, b2⟩
  · exact b a1
  · exact w12 ((a2 i hi b1).symm.trans b2)
  · exact w21 ((a3 i hi b1).symm.trans b2)
theorem Cd_of (hg : Gd gf gc ak S n d) (hq : Qt gf gc ak S n d) : Cd gf gc ak S n d := by
  intro c hc
  rcases hg.2 c hc with h0 | ⟨h1, h2⟩ | ⟨h1, h2⟩
  · exact ⟨fun h => absurd h (hq c hc h0).1, fun h => absurd h (hq c hc h0).2⟩
  · exact ⟨fun _ => h1, fun h => (Hd_Fl h2 h).elim⟩
  · exact ⟨fun h => (Hd_Fl h h2).elim, fun _ => h1⟩
theorem uniq {d1 d2 : Nat → Int32} (g1 : Gd gf gc ak S n d1) (q1 : Qt gf gc ak S n d1) (g2 : Gd gf gc ak S n d2) (q2 : Qt gf gc ak S n d2) : ∀ c, c < n → d1 c = d2 c := by
  intro c hc
  by_cases h : d1 c = 0
  · by_cases h2 : d2 c = 0
    · rw [h, h2]
    · exact g2.1 d1 (Cd_of g1 q1) c hc h2
  · exact (g1.1 d2 (Cd_of g2 q2) c hc h).symm
theorem upd_at (f : Nat → Int32) (k : Nat) (v : Int32) : upd f k v k = v := if_pos rfl
theorem upd_ne {f : Nat → Int32} {k i : Nat} {v : Int32} (h : i ≠ k) : upd f k v i = f i := if_neg h
theorem Hd_upd {x : Nat} {v : Int32} (h0 : d c = 0) (h : Hd gf gc ak S n d x) : Hd gf gc ak S n (upd d c v) x := by
  refine ⟨h.1, fun i hi hb => ?_, fun i hi hb => ?_⟩
  · have e := h.2.1 i hi hb
    rw [upd_ne (fun z => w01 (by rw [← e, z, h0]))]; exact e
  · have e := h.2.2 i hi hb
    rw [upd_ne (fun z => w02 (by rw [← e, z, h0]))]; exact e
theorem Fl_upd {x : Nat} {v : Int32} (h0 : d c = 0) (h : Fl gf gc ak S n d x) : Fl gf gc ak S n (upd d c v) x := by
  rcases h with b | ⟨i, hi, b1, b2⟩ | ⟨i, hi, b1, b2⟩
  · exact Or.inl b
  · exact Or.inr (Or.inl ⟨i, hi, b1, by rw [upd_ne (fun z => w02 (by rw [← b2, z, h0]))]; exact b2⟩)
  · exact Or.inr (Or.inr ⟨i, hi, b1, by rw [upd_ne (fun z => w01 (by rw [← b2, z, h0]))]; exact b2⟩)
theorem Gd_step {v : Int32} (hg : Gd gf gc ak S n d) (hc : c < n) (h0 : d c = 0) (hv : (v = 1 ∧ Hd gf gc ak S n d c) ∨ (v = 2 ∧ Fl gf gc ak S n d c)) : Gd gf gc ak S n (upd d c v) := by
  refine ⟨fun d' hd' i hi hne => ?_, fun i hi => ?_⟩
  · by_cases e : i = c
    · subst e
      rw [upd_at]
      rcases hv with ⟨rfl, h⟩ | ⟨rfl, h⟩
      · refine (hd' i hi).1 ⟨h.1, fun j hj hb => ?_, fun j hj hb => ?_⟩
        · have e1 := h.2.1 j hj hb
          rw [hg.1 d' hd' j hj (by rw [e1]; exact w01)]; exact e1
        · have e1 := h.2.2 j hj hb
          rw [hg.1 d' hd' j hj (by rw [e1]; exact w02)]; exact e1
      · refine (hd' i hi).2 ?_
        rcases h with b | ⟨j, hj, b1, b2⟩ | ⟨j, hj, b1, b2⟩
        · exact Or.inl b
        · exact Or.inr (Or.inl ⟨j, hj, b1, by rw [hg.1 d' hd' j hj (by rw [b2]; exact w02)]; exact b2⟩)
        · exact Or.inr (Or.inr ⟨j, hj, b1, by rw [hg.1 d' hd' j hj (by rw [b2]; exact w01)]; exact b2⟩)
    · rw [upd_ne e] at hne ⊢
      exact hg.1 d' hd' i hi hne
  · by_cases e : i = c
    · subst e
      rw [upd_at]
      rcases hv with ⟨h1, h⟩ | ⟨h1, h⟩
      · exact Or.inr (Or.inl ⟨h1, Hd_upd h0 h⟩)
      · exact Or.inr (Or.inr ⟨h1, Fl_upd h0 h⟩)
    · rw [upd_ne e]
      rcases hg.2 i hi with h | ⟨h1, h2⟩ | ⟨h1, h2⟩
      · exact Or.inl h
      · exact Or.inr (Or.inl ⟨h1, Hd_upd h0 h2⟩)
      · exact Or.inr (Or.inr ⟨h1, Fl_upd h0 h2⟩)
theorem Gd_zero (h : ∀ c, c < n → d c = 0) : Gd gf gc ak S n d := ⟨fun _ _ c hc hne => absurd (h c hc) hne, fun c hc => Or.inl (h c hc)⟩
/-! the reference -/
theorem hvF_tt {st : Nat → Int32} {x y : Int32} : ∀ k, hvF st x y true k = true ↔ ∀ i, i < k → bt x i = true → st i = y
  | 0 => ⟨fun _ i hi => absurd hi (Nat.not_lt_zero i), fun _ => rfl⟩
  | k + 1 => by
    have ih := hvF_tt (st := st) (x := x) (y := y) k
    cases hb : bt x k with
    | false =>
      rw [hvF_skip hb, ih]
      constructor
      · intro h i hi hbi
        by_cases e : i = k
        · subst e; rw [hb] at hbi; cases hbi
        · exact h i (by omega) hbi
      · exact fun h i hi hbi => h i (by omega) hbi
    | true =>
      rw [hvF_all hb rfl, Bool.and_eq_true, ih, decide_eq_true_eq]
      constructor
      · intro h i hi hbi
        by_cases e : i = k
        · subst e; exact h.2
        · exact h.1 i (by omega) hbi
      · exact fun h => ⟨fun i hi hbi => h i (by omega) hbi, h k (by omega) hb⟩
theorem hvF_ff {st : Nat → Int32} {x y : Int32} : ∀ k, hvF st x y false k = true ↔ ∃ i, i < k ∧ bt x i = true ∧ st i = y
  | 0 => ⟨fun h => (tf_ h rfl).elim, fun ⟨i, hi, _⟩ => absurd hi (Nat.not_lt_zero i)⟩
  | k + 1 => by
    have ih := hvF_ff (st := st) (x := x) (y := y) k
    cases hb : bt x k with
    | false =>
      rw [hvF_skip hb, ih]
      constructor
      · exact fun ⟨i, hi, h⟩ => ⟨i, by omega, h⟩
      · rintro ⟨i, hi, h1, h2⟩
        by_cases e : i = k
        · subst e; rw [hb] at h1; cases h1
        · exact ⟨i, by omega, h1, h2⟩
    | true =>
      rw [hvF_any hb rfl, Bool.or_eq_true, ih, decide_eq_true_eq]
      constructor
      · rintro (⟨i, hi, h⟩ | h)
        · exact ⟨i, by omega, h⟩
        · exact ⟨k, by omega, hb, h⟩
      · rintro ⟨i, hi, h1, h2⟩
        by_cases e : i = k
        · subst e; exact Or.inr h2
        · exact Or.inl ⟨i, by omega, h1, h2⟩
theorem mI_iff {k : Nat} : mI gf gc ak S n d k = true ↔ d k = 0 ∧ Hd gf gc ak S n d k := by
  unfold mI Hd
  rw [Bool.and_eq_true, Bool.and_eq_true, Bool.and_eq_true, decide_eq_true_eq, decide_eq_true_eq, hvF_tt, hvF_tt]
theorem mO_iff {k : Nat} : mO gf gc ak S n d k = true ↔ d k = 0 ∧ Fl gf gc ak S n d k := by
  unfold mO Fl
  rw [Bool.and_eq_true, Bool.or_eq_true, Bool.or_eq_true, Bool.not_eq_true', decide_eq_true_eq, decide_eq_false_iff_not, hvF_ff, hvF_ff]
theorem mRd_inv (hg : Gd gf gc ak S n d) : ∀ k, k ≤ n → Gd gf gc ak S n (mRd gf gc ak S n d k).2 ∧ ((mRd gf gc ak S n d k).1 = false → (mRd gf gc ak S n d k).2 = d ∧ ∀ i, i < k → d i = 0 → ¬ Hd gf gc ak S n d i ∧ ¬ Fl gf gc ak S n d i)
  | 0, _ => ⟨hg, fun _ => ⟨rfl, fun i hi => absurd hi (Nat.not_lt_zero i)⟩⟩
  | k + 1, hk => by
    obtain ⟨h1, h2⟩ := mRd_inv hg k (by omega)
    cases hI : mI gf gc ak S n (mRd gf gc ak S n d k).2 k with
    | true =>
      rw [mRd_i hI]
      obtain ⟨a, b⟩ := mI_iff.mp hI
      exact ⟨Gd_step h1 (by omega) a (Or.inl ⟨rfl, b⟩), fun z => by cases z⟩
    | false =>
      cases hO : mO gf gc ak S n (mRd gf gc ak S n d k).2 k with
      | true =>
        rw [mRd_o hI hO]
        obtain ⟨a, b⟩ := mO_iff.mp hO
        exact ⟨Gd_step h1 (by omega) a (Or.inr ⟨rfl, b⟩), fun z => by cases z⟩
      | false =>
        rw [mRd_n hI hO]
        refine ⟨h1, fun z => ?_⟩
        obtain ⟨e, h3⟩ := h2 z
        refine ⟨e, fun i hi h0 => ?_⟩
        by_cases ei : i = k
        · subst ei
          rw [e] at hI hO
          exact ⟨fun q => (tf_ (mI_iff.mpr ⟨h0, q⟩) hI).elim, fun q => (tf_ (mO_iff.mpr ⟨h0, q⟩) hO).elim⟩
        · exact h3 i (by omega) h0
theorem mL_inv : ∀ (f : Nat) (t : Bool × (Nat → Int32)), Gd gf gc ak S n t.2 → (t.1 = false → Qt gf gc ak S n t.2) → (t.1 = true → opn t.2 n < f) → Gd gf gc ak S n (mL gf gc ak S n f t).2 ∧ Qt gf gc ak S n (mL gf gc ak S n f t).2
  | 0, t, hg, hq, hf => by
    cases h : t.1 with
    | true => exact absurd (hf h) (Nat.not_lt_zero _)
    | false => exact ⟨hg, hq h⟩
  | f + 1, t, hg, hq, hf => by
    cases h : t.1 with
    | false => rw [mL_stop h]; exact ⟨hg, hq h⟩
    | true =>
      rw [show mL gf gc ak S n (f + 1) t = mL gf gc ak S n f (mRd gf gc ak S n t.2 n) from if_pos h]
      obtain ⟨a, b⟩ := mRd_inv hg n (Nat.le_refl n)
      refine mL_inv f _ a (fun z => ?_) (fun z => ?_)
      · obtain ⟨e, h3⟩ := b z
        rw [e]; exact h3
      · have h8 := mRd_dec (gf := gf) (gc := gc) (ak := ak) (S := S) t.2 n (Nat.le_refl n)
        rw [if_pos z] at h8
        have := hf h
        omega
theorem mJ_sol (hn : n ≤ 16) : Gd gf gc ak S n (mJ gf gc ak S n d).2 ∧ Qt gf gc ak S n (mJ gf gc ak S n d).2 :=
  mL_inv 17 (true, zr d n) (Gd_zero (fun c hc => if_pos hc)) (fun z => by cases z) (fun _ => by have := opn_le (zr d n) n; show opn (zr d n) n < 17; omega)
end DEC2
/-! the class: sets as ints -/
theorem and0_iff {x y : Int32} : x &&& y = 0 ↔ ∀ i, i < 32 → bt x i = true → bt y i = false := by
  rw [bt_zero]
  constructor
  · intro h i hi hx
    have := h i hi
    rw [b_and, hx, Bool.true_and] at this
    exact this
  · intro h i hi
    rw [b_and]
    cases hx : bt x i with
    | false => rfl
    | true => rw [h i hi hx]; rfl
/-- the sets are those of a deciding -/
def Ab (I O : Int32) (d : Nat → Int32) : Prop := ∀ i, i < 32 → bt I i = decide (d i = 1) ∧ bt O i = decide (d i = 2)
def Bd (n : Nat) (r : Nat → Int32) : Prop := ∀ c, c < n → ∀ i, n ≤ i → i < 32 → bt (r c) i = false
section CLS
variable {gf gc ak : Nat → Int32} {S : Int32} {n : Nat} {d : Nat → Int32} {c : Nat} {I O : Int32}
theorem fA_iff (hn : n ≤ 16) (hg : Bd n gc) (ha : Bd n ak) (hA : Ab I O d) (hc : c < n) : fA gf gc ak c S I O = true ↔ Fl gf gc ak S n d c := by
  unfold fA Fl
  rw [Bool.or_eq_true, Bool.or_eq_true, Bool.not_eq_true', Bool.not_eq_true', Bool.not_eq_true', decide_eq_false_iff_not, decide_eq_false_iff_not, decide_eq_false_iff_not, or_assoc]
  refine or_congr Iff.rfl (or_congr ?_ ?_)
  · constructor
    · intro h
      by_cases z : ∃ i, i < n ∧ bt (gc c) i = true ∧ d i = 2
      · exact z
      · refine absurd (and0_iff.mpr fun i hi hx => ?_) h
        rw [(hA i hi).2]
        refine decide_eq_false fun hd => z ⟨i, ?_, hx, hd⟩
        rcases Nat.lt_or_ge i n with q | q
        · exact q
        · rw [hg c hc i q hi] at hx; cases hx
    · rintro ⟨i, hi, hx, hd⟩ h
      have := and0_iff.mp h i (by omega) hx
      rw [(hA i (by omega)).2, decide_eq_true hd] at this
      cases this
  · constructor
    · intro h
      by_cases z : ∃ i, i < n ∧ bt (ak c) i = true ∧ d i = 1
      · exact z
      · refine absurd (and0_iff.mpr fun i hi hx => ?_) h
        rw [(hA i hi).1]
        refine decide_eq_false fun hd => z ⟨i, ?_, hx, hd⟩
        rcases Nat.lt_or_ge i n with q | q
        · exact q
        · rw [ha c hc i q hi] at hx; cases hx
    · rintro ⟨i, hi, hx, hd⟩ h
      have := and0_iff.mp h i (by omega) hx
      rw [(hA i (by omega)).1, decide_eq_true hd] at this
      cases this
theorem sub_iff {x y : Int32} {v : Int32} (hn : n ≤ 16) (hx : ∀ i, n ≤ i → i < 32 → bt x i = false) (hy : ∀ i, i < 32 → bt y i = decide (d i = v)) : x &&& (y ^^^ (-1)) = 0 ↔ ∀ i, i < n → bt x i = true → d i = v := by
  rw [and0_iff]
  constructor
  · intro h i hi hb
    have := h i (by omega) hb
    rw [bt_neg1 (by omega), hy i (by omega), Bool.not_eq_false', decide_eq_true_eq] at this
    exact this
  · intro h i hi hb
    rcases Nat.lt_or_ge i n with q | q
    · rw [bt_neg1 hi, hy i hi, decide_eq_true (h i q hb)]; rfl
    · rw [hx i q hi] at hb; cases hb
theorem hO_iff (hn : n ≤ 16) (hg : Bd n gc) (ha : Bd n ak) (hA : Ab I O d) (hc : c < n) : hO gf gc ak c S I O = true ↔ Hd gf gc ak S n d c := by
  unfold hO Hd
  rw [Bool.and_eq_true, Bool.and_eq_true, decide_eq_true_eq, decide_eq_true_eq, decide_eq_true_eq, and_assoc, sub_iff hn (hg c hc) (fun i hi => (hA i hi).1), sub_iff hn (ha c hc) (fun i hi => (hA i hi).2)]
theorem Ab_in (hA : Ab I O d) (hc : c < 32) (h0 : d c = 0) : Ab (I ||| m1 c) O (upd d c 1) := by
  intro i hi
  rw [b_or, bt_m1 hc hi]
  by_cases e : i = c
  · subst e
    rw [upd_at, (hA i hi).2, h0, decide_eq_true rfl, Bool.or_true, decide_eq_true rfl]
    exact ⟨rfl, by decide⟩
  · rw [upd_ne e, decide_eq_false e, Bool.or_false]; exact hA i hi
theorem Ab_out (hA : Ab I O d) (hc : c < 32) (h0 : d c = 0) : Ab I (O ||| m1 c) (upd d c 2) := by
  intro i hi
  rw [b_or, bt_m1 hc hi]
  by_cases e : i = c
  · subst e
    rw [upd_at, (hA i hi).1, h0, decide_eq_true rfl, Bool.or_true, decide_eq_true rfl]
    exact ⟨by decide, rfl⟩
  · rw [upd_ne e, decide_eq_false e, Bool.or_false]; exact hA i hi
/-- one claim is looked at -/
theorem dR_ab (hn : n ≤ 16) (hg : Bd n gc) (ha : Bd n ak) (hA : Ab I O d) (hG : Gd gf gc ak S n d) (hc : c < n) :
    (dR gf gc ak S c I O = (false, I, O) ∧ (d c = 0 → ¬ Hd gf gc ak S n d c ∧ ¬ Fl gf gc ak S n d c)) ∨
    (∃ v I' O', dR gf gc ak S c I O = (true, I', O') ∧ d c = 0 ∧ (v = 1 ∧ Hd gf gc ak S n d c ∨ v = 2 ∧ Fl gf gc ak S n d c) ∧ Ab I' O' (upd d c v)) := by
  have hc32 : c < 32 := by omega
  cases hb : bt (I ||| O) c with
  | true =>
    refine Or.inl ⟨dR_a hb, fun h0 => ?_⟩
    rw [b_or, (hA c hc32).1, (hA c hc32).2, h0] at hb
    exact absurd hb (by decide)
  | false =>
    have h0 : d c = 0 := by
      rw [b_or, (hA c hc32).1, (hA c hc32).2, Bool.or_eq_false_iff, decide_eq_false_iff_not, decide_eq_false_iff_not] at hb
      rcases hG.2 c hc with h | ⟨h, _⟩ | ⟨h, _⟩
      · exact h
      · exact absurd h hb.1
      · exact absurd h hb.2
    cases hf : fA gf gc ak c S I O with
    | true => exact Or.inr ⟨2, _, _, dR_b hb hf, h0, Or.inr ⟨rfl, (fA_iff hn hg ha hA hc).mp hf⟩, Ab_out hA hc32 h0⟩
    | false =>
      cases ho : hO gf gc ak c S I O with
      | true => exact Or.inr ⟨1, _, _, dR_c hb hf ho, h0, Or.inl ⟨rfl, (hO_iff hn hg ha hA hc).mp ho⟩, Ab_in hA hc32 h0⟩
      | false => exact Or.inl ⟨dR_d hb hf ho, fun _ => ⟨fun z => (tf_ ((hO_iff hn hg ha hA hc).mpr z) ho).elim, fun z => (tf_ ((fA_iff hn hg ha hA hc).mpr z) hf).elim⟩⟩
theorem Ab_0 : Ab 0 0 (fun _ => 0) := fun i _ => ⟨by rw [b_0]; rfl, by rw [b_0]; rfl⟩
/-! in rounds -/
theorem rF_inv (hn : n ≤ 16) (hg : Bd n gc) (ha : Bd n ak) (hA : Ab I O d) (hG : Gd gf gc ak S n d) : ∀ k, k ≤ n → ∃ d', Ab (rF gf gc ak S (I, O) k).2.1 (rF gf gc ak S (I, O) k).2.2 d' ∧ Gd gf gc ak S n d' ∧ opn d' n + (if (rF gf gc ak S (I, O) k).1 = true then 1 else 0) ≤ opn d n ∧
    ((rF gf gc ak S (I, O) k).1 = false → d' = d ∧ ∀ i, i < k → d i = 0 → ¬ Hd gf gc ak S n d i ∧ ¬ Fl gf gc ak S n d i)
  | 0, _ => ⟨d, hA, hG, Nat.le_refl _, fun _ => ⟨rfl, fun i hi => absurd hi (Nat.not_lt_zero i)⟩⟩
  | k + 1, hk => by
    obtain ⟨d', h1, h2, h3, h4⟩ := rF_inv hn hg ha hA hG k (by omega)
    have e0 : rF gf gc ak S (I, O) (k + 1) = ((rF gf gc ak S (I, O) k).1 || (dR gf gc ak S k (rF gf gc ak S (I, O) k).2.1 (rF gf gc ak S (I, O) k).2.2).1, (dR gf gc ak S k (rF gf gc ak S (I, O) k).2.1 (rF gf gc ak S (I, O) k).2.2).2) := rfl
    rcases dR_ab hn hg ha h1 h2 (show k < n by omega) with ⟨e, hq⟩ | ⟨v, I', O', e, h0, hv, hA'⟩
    · rw [e0, e, Bool.or_false]
      refine ⟨d', h1, h2, h3, fun z => ?_⟩
      obtain ⟨e1, h5⟩ := h4 z
      refine ⟨e1, fun i hi h0 => ?_⟩
      by_cases ei : i = k
      · subst ei; rw [e1] at hq; exact hq h0
      · exact h5 i (by omega) h0
    · rw [e0, e, Bool.or_true]
      refine ⟨upd d' k v, hA', Gd_step h2 (by omega) h0 hv, ?_, fun z => by cases z⟩
      have hv0 : ¬ v = 0 := by rcases hv with ⟨rfl, _⟩ | ⟨rfl, _⟩ <;> decide
      have := opn_upd h0 hv0 n (by omega)
      show opn (upd d' k v) n + 1 ≤ opn d n
      omega
theorem rL_inv (hn : n ≤ 16) (hg : Bd n gc) (ha : Bd n ak) : ∀ (f : Nat) (t : Bool × Int32 × Int32) (d : Nat → Int32), Ab t.2.1 t.2.2 d → Gd gf gc ak S n d → (t.1 = false → Qt gf gc ak S n d) → (t.1 = true → opn d n ≤ f) → ∃ d', Ab (rL gf gc ak S n f t).2.1 (rL gf gc ak S n f t).2.2 d' ∧ Gd gf gc ak S n d' ∧ Qt gf gc ak S n d'
  | 0, t, d, hA, hG, hq, hf => by
    refine ⟨d, hA, hG, ?_⟩
    cases h : t.1 with
    | false => exact hq h
    | true =>
      have h0 := hf h
      intro c hc h1
      exact absurd h0 (by have := opn_upd (v := 1) h1 w01 n hc; omega)
  | f + 1, t, d, hA, hG, hq, hf => by
    cases h : t.1 with
    | false => rw [rL_stop h]; exact ⟨d, hA, hG, hq h⟩
    | true =>
      rw [show rL gf gc ak S n (f + 1) t = rL gf gc ak S n f (rF gf gc ak S t.2 n) from if_pos h]
      obtain ⟨d', h1, h2, h3, h4⟩ := rF_inv hn hg ha hA hG n (Nat.le_refl n)
      refine rL_inv hn hg ha f _ d' h1 h2 (fun z => ?_) (fun z => ?_)
      · obtain ⟨e1, h5⟩ := h4 z
        rw [e1]; exact h5
      · have := hf h
        rw [if_pos z] at h3
        omega
theorem rJ_sol (hn : n ≤ 16) (hg : Bd n gc) (ha : Bd n ak) : ∃ d', Ab (rJ gf gc ak S n).2.1 (rJ gf gc ak S n).2.2 d' ∧ Gd gf gc ak S n d' ∧ Qt gf gc ak S n d' :=
  rL_inv hn hg ha 16 (true, 0, 0) (fun _ => 0) Ab_0 (Gd_zero (fun _ _ => rfl)) (fun z => by cases z) (fun _ => by have := opn_le (fun _ => 0) n; omega)
end CLS
