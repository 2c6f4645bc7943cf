/-! ===== the reference's methods, as functions ===== -/
theorem bt_shv {x : Int32} {j : Nat} (hj : j < 32) : (x >>> (nI j &&& 31)) &&& 1 = zI (bt x j) := by
  refine b_ext fun i hi => ?_
  rw [b_and, b_sshr j hj x hi, bt_1 i hi]
  by_cases h : i = 0
  · subst h
    rw [if_pos (by omega), decide_eq_true rfl, Bool.and_true, Nat.add_zero]
    cases bt x j <;> rfl
  · rw [decide_eq_false h, Bool.and_false]
    cases bt x j
    · exact (b_0 i).symm
    · show false = bt 1 i
      rw [bt_1 i hi, decide_eq_false h]
theorem bt_sht {x : Int32} {j : Nat} (hj : j < 32) (h : (x >>> (nI j &&& 31)) &&& 1 = 1) : bt x j = true := by
  rw [bt_shv hj] at h
  cases e : bt x j with
  | true => rfl
  | false => rw [e] at h; exact absurd h (by decide)
theorem bt_shf {x : Int32} {j : Nat} (hj : j < 32) (h : ¬ (x >>> (nI j &&& 31)) &&& 1 = 1) : bt x j = false := by
  rw [bt_shv hj] at h
  cases e : bt x j with
  | false => rfl
  | true => rw [e] at h; exact absurd rfl h
def inF (v a b : Int32) : Bool := !(decide (v < a)) && !(decide (b < v))
def nIx (v : Int32) (N : Nat) : Prop := ∀ j, j < N → v ≠ nI j
theorem inF_ok {j N : Nat} (h : j < N) (hN : N < 2 ^ 31) : inF (nI j) 0 (nI N - 1) = true := by
  have e : nI N - 1 = nI (N - 1) := by
    have := nI_pred (N - 1)
    rwa [show N - 1 + 1 = N from by omega] at this
  unfold inF
  rw [e, decide_eq_false (nI_pos (n := j) (by omega)), decide_eq_false (nI_nlt (a := N - 1) (b := j) (by omega) (by omega))]
  rfl
theorem inF_t {v b : Int32} (h : inF v 0 b = true) : ¬ v < 0 ∧ ¬ b < v := by
  unfold inF at h
  rw [Bool.and_eq_true, Bool.not_eq_true', Bool.not_eq_true', decide_eq_false_iff_not, decide_eq_false_iff_not] at h
  exact h
theorem nI_of3 {v : Int32} {N : Nat} (hN : N < 2 ^ 31) (h0 : ¬ v < 0) (h : v < nI N) : ∃ j, j < N ∧ v = nI j := by
  obtain ⟨j, hj, rfl⟩ := nI_of h0
  exact ⟨j, (nI_ltI hj hN).mp h, rfl⟩
theorem inF_bad {v : Int32} {N : Nat} (hN : N < 2 ^ 31) (h : nIx v N) : inF v 0 (nI N - 1) = false := by
  cases e : inF v 0 (nI N - 1) with
  | false => rfl
  | true =>
    obtain ⟨h0, h1⟩ := inF_t e
    obtain ⟨j, hj, rfl⟩ := nI_of h0
    cases N with
    | zero =>
      have : nI 0 - 1 < nI j := Int32.lt_iff_toInt_lt.mpr (by rw [nI_toInt hj]; have : (nI 0 - 1).toInt = -1 := by decide
                                                              omega)
      exact absurd this h1
    | succ M =>
      rw [nI_pred] at h1
      have h2 : ¬ (M < j) := fun z => h1 ((nI_ltI (by omega) hj).mpr z)
      exact absurd rfl (h j (by omega))
theorem inF_ok6 {j : Nat} (h : j < 6) : inF (nI j) 0 5 = true := inF_ok (N := 6) h (by decide)
theorem inF_bad6 {v : Int32} (h : nIx v 6) : inF v 0 5 = false := inF_bad (N := 6) (by decide) h
theorem inF_ok3 {j : Nat} (h : j < 3) : inF (nI j) 0 2 = true := inF_ok (N := 3) h (by decide)
theorem inF_bad3 {v : Int32} (h : nIx v 3) : inF v 0 2 = false := inF_bad (N := 3) (by decide) h
theorem tf_ {b : Bool} (h1 : b = true) (h2 : b = false) : False := by rw [h1] at h2; cases h2
theorem nx_rem : ∀ sp, sp < 3 → nI (sp + 1) - nI (sp + 1) / 3 * 3 = nI (nx sp) := by decide +kernel
def sdF (wb fb : Nat → Bool) (src : Nat → Nat) (k : Nat) : Bool := !wb k && !fb (src k)
def stM (wb fb : Nat → Bool) (src : Nat → Nat) (w : Int32) : Nat → Int32
  | 0 => 0
  | k + 1 => if nI k = w then stM wb fb src w k else if sdF wb fb src k = true then stM wb fb src w k ||| m1 k else stM wb fb src w k
theorem or0 (x : Int32) : x ||| 0 = x := b_ext fun i _ => by rw [b_or, b_0, Bool.or_false]
theorem hasF_shr {f : Int32} {n : Nat} (hn : n < 31) (h0 : ¬ f < 0) : (f >>> (nI n &&& 31)) = 0 ↔ ¬ (m1 n ≤ f) := by
  obtain ⟨j, hj, rfl⟩ := nI_of h0
  have e1 : m1 n = nI (2 ^ n) := by
    refine b_ext fun i hi => ?_
    rw [bt_m1 (by omega) hi]
    show _ = (BitVec.ofNat 32 (2 ^ n)).getLsbD i
    rw [BitVec.getLsbD_ofNat, decide_eq_true hi, Bool.true_and, Nat.testBit_two_pow]
    exact decide_eq_decide.mpr ⟨fun h => h.symm, fun h => h.symm⟩
  have hp : 2 ^ n < 2 ^ 31 := Nat.pow_lt_pow_right (by decide) hn
  rw [e1, nI_leI hp hj]
  have hb : ∀ i, bt (nI j) i = (decide (i < 32) && j.testBit i) := fun i => BitVec.getLsbD_ofNat 32 j i
  constructor
  · intro h hle
    have hz := bt_zero.mp h
    have hj0 : j / 2 ^ n ≠ 0 := fun z => by
      have := (Nat.div_eq_zero_iff).mp z
      rcases this with z | z
      · exact absurd z (Nat.ne_of_gt (Nat.two_pow_pos n))
      · omega
    obtain ⟨i, hi⟩ := Nat.exists_testBit_of_ne_zero hj0
    rw [Nat.testBit_div_two_pow] at hi
    have hlt : i + n < 31 := by
      rcases Nat.lt_or_ge (i + n) 31 with q | q
      · exact q
      · have h8 : j < 2 ^ (i + n) := Nat.lt_of_lt_of_le hj (Nat.pow_le_pow_right (by decide) q)
        rw [Nat.testBit_lt_two_pow h8] at hi
        cases hi
    have h5 := hz i (by omega)
    rw [b_sshr n (by omega) _ (by omega), if_pos (by omega), hb, decide_eq_true (by omega), Bool.true_and, Nat.add_comm] at h5
    rw [h5] at hi
    cases hi
  · intro hle
    have hlt : j < 2 ^ n := Nat.lt_of_not_le hle
    refine bt_zero.mpr fun i hi => ?_
    rw [b_sshr n (by omega) _ hi]
    have h8 : ∀ q, n ≤ q → j.testBit q = false := fun q hq => Nat.testBit_lt_two_pow (Nat.lt_of_lt_of_le hlt (Nat.pow_le_pow_right (by decide) hq))
    by_cases h9 : n + i < 32
    · rw [if_pos h9, hb, h8 _ (by omega), Bool.and_false]
    · rw [if_neg h9, hb, h8 31 (by omega), Bool.and_false]
/-- whether all claims of a set have a state, or some has it; of the first k -/
def hvF (st : Nat → Int32) (x y : Int32) (b : Bool) : Nat → Bool
  | 0 => b
  | k + 1 => if bt x k = true then (if b = true then hvF st x y b k && decide (st k = y) else hvF st x y b k || decide (st k = y)) else hvF st x y b k
section HV
variable {st : Nat → Int32} {x y : Int32} {b : Bool} {k : Nat}
theorem hvF_skip (h : bt x k = false) : hvF st x y b (k + 1) = hvF st x y b k := if_neg (by rw [h]; decide)
theorem hvF_all (h : bt x k = true) (h2 : b = true) : hvF st x y b (k + 1) = (hvF st x y b k && decide (st k = y)) := (if_pos h).trans (if_pos h2)
theorem hvF_any (h : bt x k = true) (h2 : b = false) : hvF st x y b (k + 1) = (hvF st x y b k || decide (st k = y)) := (if_pos h).trans (if_neg (by rw [h2]; decide))
end HV
/-- the first k are open -/
def zr (st : Nat → Int32) (k : Nat) : Nat → Int32 := fun i => if i < k then 0 else st i
theorem zr_0 (st : Nat → Int32) : zr st 0 = st := funext fun i => if_neg (Nat.not_lt_zero i)
theorem zr_s (st : Nat → Int32) (k : Nat) : zr st (k + 1) = upd (zr st k) k 0 := funext fun i => by
  unfold zr upd
  dsimp only
  by_cases h : i = k
  · rw [if_pos h, if_pos (by omega)]
  · rw [if_neg h]
    by_cases h2 : i < k
    · rw [if_pos h2, if_pos (by omega)]
    · rw [if_neg h2, if_neg (by omega)]
section MM
variable (gf gc ak : Nat → Int32) (S : Int32) (n : Nat)
def mI (st : Nat → Int32) (k : Nat) : Bool := decide (st k = 0) && (decide (gf k &&& (S ^^^ (-1)) = 0) && (hvF st (gc k) 1 true n && hvF st (ak k) 2 true n))
def mO (st : Nat → Int32) (k : Nat) : Bool := decide (st k = 0) && (!(decide (gf k &&& (S ^^^ (-1)) = 0)) || (hvF st (gc k) 2 false n || hvF st (ak k) 1 false n))
def mS1 (st : Nat → Int32) (k : Nat) : Nat → Int32 := if mI gf gc ak S n st k = true then upd st k 1 else st
def mS2 (st : Nat → Int32) (k : Nat) : Nat → Int32 := if mO gf gc ak S n st k = true then upd st k 2 else st
def mRd (st : Nat → Int32) : Nat → Bool × (Nat → Int32)
  | 0 => (false, st)
  | k + 1 => ((mRd st k).1 || (mI gf gc ak S n (mRd st k).2 k || mO gf gc ak S n (mS1 gf gc ak S n (mRd st k).2 k) k), mS2 gf gc ak S n (mS1 gf gc ak S n (mRd st k).2 k) k)
def mL : Nat → Bool × (Nat → Int32) → Bool × (Nat → Int32)
  | 0, t => t
  | f + 1, t => if t.1 = true then mL f (mRd gf gc ak S n t.2 n) else t
def mJ (st : Nat → Int32) : Bool × (Nat → Int32) := mL gf gc ak S n 17 (true, zr st n)
end MM
def opn (st : Nat → Int32) : Nat → Nat
  | 0 => 0
  | k + 1 => opn st k + (if st k = 0 then 1 else 0)
theorem opn_le (st : Nat → Int32) : ∀ k, opn st k ≤ k
  | 0 => Nat.le_refl 0
  | k + 1 => by
    have := opn_le st k
    unfold opn
    by_cases h : st k = 0
    · rw [if_pos h]; omega
    · rw [if_neg h]; omega
theorem opn_far {st : Nat → Int32} {k : Nat} {v : Int32} : ∀ n, n ≤ k → opn (upd st k v) n = opn st n
  | 0, _ => rfl
  | n + 1, h => by
    unfold opn
    rw [opn_far n (by omega), show upd st k v n = st n from if_neg (by omega)]
theorem opn_upd {st : Nat → Int32} {k : Nat} {v : Int32} (h0 : st k = 0) (hv : ¬ v = 0) : ∀ n, k < n → opn (upd st k v) n + 1 = opn st n
  | 0, h => absurd h (Nat.not_lt_zero k)
  | n + 1, h => by
    unfold opn
    by_cases e : n = k
    · subst e
      rw [opn_far n (Nat.le_refl n), show upd st n v n = v from if_pos rfl, if_neg hv, if_pos h0]
    · rw [show upd st k v n = st n from if_neg e]
      have := opn_upd h0 hv n (by omega)
      omega
section MM2
variable {gf gc ak : Nat → Int32} {S : Int32} {n : Nat}
theorem mI_0 {st : Nat → Int32} {k : Nat} (h : mI gf gc ak S n st k = true) : st k = 0 := of_decide_eq_true (Bool.and_eq_true_iff.mp h).1
theorem mO_0 {st : Nat → Int32} {k : Nat} (h : mO gf gc ak S n st k = true) : st k = 0 := of_decide_eq_true (Bool.and_eq_true_iff.mp h).1
theorem mRd_dec (st : Nat → Int32) : ∀ k, k ≤ n → opn (mRd gf gc ak S n st k).2 n + (if (mRd gf gc ak S n st k).1 = true then 1 else 0) ≤ opn st n
  | 0, _ => Nat.le_refl _
  | k + 1, hk => by
    have ih := mRd_dec st k (by omega)
    generalize hT : mRd gf gc ak S n st k = T at ih
    have e : mRd gf gc ak S n st (k + 1) = (T.1 || (mI gf gc ak S n T.2 k || mO gf gc ak S n (mS1 gf gc ak S n T.2 k) k), mS2 gf gc ak S n (mS1 gf gc ak S n T.2 k) k) := by rw [← hT]; rfl
    rw [e]
    have a1 : opn (mS1 gf gc ak S n T.2 k) n + (if mI gf gc ak S n T.2 k = true then 1 else 0) = opn T.2 n := by
      unfold mS1
      by_cases c : mI gf gc ak S n T.2 k = true
      · rw [if_pos c, if_pos c]; exact opn_upd (mI_0 c) (by decide) n (by omega)
      · rw [if_neg c, if_neg c]; rfl
    have a2 : opn (mS2 gf gc ak S n (mS1 gf gc ak S n T.2 k) k) n + (if mO gf gc ak S n (mS1 gf gc ak S n T.2 k) k = true then 1 else 0) = opn (mS1 gf gc ak S n T.2 k) n := by
      unfold mS2
      by_cases c : mO gf gc ak S n (mS1 gf gc ak S n T.2 k) k = true
      · rw [if_pos c, if_pos c]; exact opn_upd (mO_0 c) (by decide) n (by omega)
      · rw [if_neg c, if_neg c]; rfl
    generalize mI gf gc ak S n T.2 k = b1 at a1 ⊢
    generalize mO gf gc ak S n (mS1 gf gc ak S n T.2 k) k = b2 at a2 ⊢
    dsimp only
    cases hb1 : b1 <;> cases hb2 : b2 <;> cases hb3 : T.1 <;> simp [hb1, hb2, hb3] at a1 a2 ih ⊢ <;> omega
theorem mL_stop {f : Nat} {t : Bool × (Nat → Int32)} (z : t.1 = false) : mL gf gc ak S n f t = t := by
  cases f with
  | zero => rfl
  | succ f => exact if_neg (by rw [z]; decide)
theorem mL_go {h : Nat} {t : Bool × (Nat → Int32)} (z : t.1 = true) (z2 : h < 17) : mL gf gc ak S n (17 - h) t = mL gf gc ak S n (17 - (h + 1)) (mRd gf gc ak S n t.2 n) := by
  rw [show 17 - h = (17 - (h + 1)) + 1 from by omega]
  exact if_pos z
end MM2
/-- how many of the first k claims are of player q and IN -/
def cnS (ow : Nat → Nat) (st : Nat → Int32) (q : Nat) : Nat → Nat
  | 0 => 0
  | k + 1 => if ow k = q ∧ st k = 1 then cnS ow st q k + 1 else cnS ow st q k
theorem cnS_le (ow : Nat → Nat) (st : Nat → Int32) (q : Nat) : ∀ k, cnS ow st q k ≤ k
  | 0 => Nat.le_refl 0
  | k + 1 => by
    have h := cnS_le ow st q k
    unfold cnS
    by_cases c : ow k = q ∧ st k = 1
    · rw [if_pos c]; omega
    · rw [if_neg c]; omega
theorem hasF_go {f : Int32} {n : Nat} (hn : n < 31) (h0 : ¬ f < 0) (h1 : f >>> (nI n &&& 31) = 0) : hasF f n = true := by
  unfold hasF
  rw [decide_eq_false h0, decide_eq_false ((hasF_shr hn h0).mp h1)]
  rfl
theorem hasF_n0 {f : Int32} {n : Nat} (h : hasF f n = true) : ¬ f < 0 := by
  unfold hasF at h
  rw [Bool.and_eq_true, Bool.not_eq_true', decide_eq_false_iff_not] at h
  exact h.1
theorem hasF_n1 {f : Int32} {n : Nat} (hn : n < 31) (h : hasF f n = true) : f >>> (nI n &&& 31) = 0 := by
  refine (hasF_shr hn (hasF_n0 h)).mpr ?_
  unfold hasF at h
  rw [Bool.and_eq_true, Bool.not_eq_true', Bool.not_eq_true', decide_eq_false_iff_not, decide_eq_false_iff_not] at h
  exact h.2
