/-! ===== the class and the reference agree ===== -/
def Iv (nf : Nat) (src : Nat → Nat) (wd fl : Int32) (wb fb : Nat → Bool) (n sp : Nat) (ow : Nat → Nat) (gc ak : Nat → Int32) : Prop :=
  nf ≤ 14 ∧ (∀ i, i < nf → src i < 6) ∧ n ≤ 16 ∧ sp < 3 ∧ (∀ i, i < n → ow i < 3) ∧ (∀ i, i < 14 → bt wd i = wb i) ∧ (∀ i, i < 6 → bt fl i = fb i) ∧ Bd n gc ∧ Bd n ak
theorem bt_stM {wb fb : Nat → Bool} {src : Nat → Nat} {w : Int32} {i : Nat} (hi : i < 32) : ∀ k, k ≤ 32 → bt (stM wb fb src w k) i = (decide (i < k) && (!(decide (nI i = w)) && sdF wb fb src i))
  | 0, _ => by
    rw [show stM wb fb src w 0 = 0 from rfl, b_0, decide_eq_false (Nat.not_lt_zero i)]; rfl
  | k + 1, hk => by
    have ih := bt_stM (wb := wb) (fb := fb) (src := src) (w := w) hi k (by omega)
    have e : stM wb fb src w (k + 1) = if nI k = w then stM wb fb src w k else if sdF wb fb src k = true then stM wb fb src w k ||| m1 k else stM wb fb src w k := rfl
    rw [e]
    by_cases ei : i = k
    · subst ei
      rw [decide_eq_false (Nat.lt_irrefl i)] at ih
      rw [decide_eq_true (Nat.lt_succ_self i)]
      by_cases c : nI i = w
      · rw [if_pos c, ih, decide_eq_true c]; rfl
      · rw [if_neg c, decide_eq_false c]
        cases hs : sdF wb fb src i with
        | true => rw [if_pos rfl, b_or, bt_m1 hi hi, decide_eq_true rfl, Bool.or_true]; rfl
        | false => rw [if_neg (by decide), ih]; rfl
    · have e2 : decide (i < k + 1) = decide (i < k) := decide_eq_decide.mpr (by omega)
      rw [e2, ← ih]
      by_cases c : nI k = w
      · rw [if_pos c]
      · rw [if_neg c]
        by_cases hs : sdF wb fb src k = true
        · rw [if_pos hs, b_or, bt_m1 (by omega) hi, decide_eq_false ei, Bool.or_false]
        · rw [if_neg hs]
theorem bt_stC {src : Nat → Nat} {wd fl : Int32} {i : Nat} (hi : i < 32) : ∀ k, k ≤ 32 → bt (stC src wd fl k) i = (decide (i < k) && !(bt wd i || bt fl (src i)))
  | 0, _ => by
    rw [show stC src wd fl 0 = 0 from rfl, b_0, decide_eq_false (Nat.not_lt_zero i)]; rfl
  | k + 1, hk => by
    have ih := bt_stC (src := src) (wd := wd) (fl := fl) hi k (by omega)
    have e : stC src wd fl (k + 1) = if (bt wd k || bt fl (src k)) = true then stC src wd fl k else stC src wd fl k ||| m1 k := rfl
    rw [e]
    by_cases ei : i = k
    · subst ei
      rw [decide_eq_false (Nat.lt_irrefl i)] at ih
      rw [decide_eq_true (Nat.lt_succ_self i)]
      cases hs : (bt wd i || bt fl (src i)) with
      | true => rw [if_pos rfl, ih]; rfl
      | false => rw [if_neg (by decide), b_or, bt_m1 hi hi, decide_eq_true rfl, Bool.or_true]; rfl
    · have e2 : decide (i < k + 1) = decide (i < k) := decide_eq_decide.mpr (by omega)
      rw [e2, ← ih]
      by_cases hs : (bt wd k || bt fl (src k)) = true
      · rw [if_pos hs]
      · rw [if_neg hs, b_or, bt_m1 (by omega) hi, decide_eq_false ei, Bool.or_false]
section AGR
variable {nf : Nat} {src : Nat → Nat} {wd fl : Int32} {wb fb : Nat → Bool} {n sp : Nat} {ow : Nat → Nat} {gf gc ak bk rp : Nat → Int32}
theorem sd_is (h : Iv nf src wd fl wb fb n sp ow gc ak) {i : Nat} (hi : i < nf) : (!(bt wd i || bt fl (src i))) = sdF wb fb src i := by
  unfold sdF
  rw [h.2.2.2.2.2.1 i (by have := h.1; omega), h.2.2.2.2.2.2.1 (src i) (h.2.1 i hi), Bool.not_or]
theorem bt_S (h : Iv nf src wd fl wb fb n sp ow gc ak) {i : Nat} (hi : i < 32) : bt (stC src wd fl nf) i = (decide (i < nf) && sdF wb fb src i) := by
  rw [bt_stC hi nf (by have := h.1; omega)]
  by_cases c : i < nf
  · rw [sd_is h c]
  · rw [decide_eq_false c]; rfl
theorem S_is (h : Iv nf src wd fl wb fb n sp ow gc ak) : stC src wd fl nf = stM wb fb src (-1) nf := b_ext fun i hi => by
  rw [bt_S h hi, bt_stM hi nf (by have := h.1; omega), decide_eq_false (nI_nm1 (by omega))]; rfl
theorem SW_is (h : Iv nf src wd fl wb fb n sp ow gc ak) {j : Nat} (hj : j < 32) : stC src wd fl nf &&& (m1 j ^^^ (-1)) = stM wb fb src (nI j) nf := b_ext fun i hi => by
  rw [b_and, bt_neg1 hi, bt_m1 hj hi, bt_S h hi, bt_stM hi nf (by have := h.1; omega)]
  have e : decide (nI i = nI j) = decide (i = j) := decide_eq_decide.mpr (nI_eq (by omega) (by omega))
  rw [e]
  cases decide (i < nf) <;> cases decide (i = j) <;> cases sdF wb fb src i <;> rfl
theorem an_stands (h : Iv nf src wd fl wb fb n sp ow gc ak) {j : Nat} (hj : j < nf) : bt (stC src wd fl nf) j = sdF wb fb src j := by
  rw [bt_S h (by have := h.1; omega), decide_eq_true hj]; rfl
theorem an_flip (h : Iv nf src wd fl wb fb n sp ow gc ak) {j : Nat} (hj : j < 6) : (!bt (fl ^^^ m1 j) j) = fb j := by
  rw [b_xor, bt_m1 (by omega) (by omega), h.2.2.2.2.2.2.1 j hj, decide_eq_true rfl]
  cases fb j <;> rfl
theorem an_with (h : Iv nf src wd fl wb fb n sp ow gc ak) {j : Nat} (hj : j < nf) : (!bt wd j) = (!wb j) := by
  rw [h.2.2.2.2.2.1 j (by have := h.1; omega)]
theorem an_state (h : Iv nf src wd fl wb fb n sp ow gc ak) {j : Nat} (hj : j < n) (qu : Nat → Nat) (st : Nat → Int32) : dcF (jG gf gc ak (stC src wd fl nf) n qu).2.2.1 (jG gf gc ak (stC src wd fl nf) n qu).2.2.2 j = sM gf gc ak n wb fb src nf (-1) st j := by
  unfold sM
  rw [← S_is h]
  exact (jG_is h.2.2.1 h.2.2.2.2.2.2.2.1 h.2.2.2.2.2.2.2.2 qu st j hj).1
theorem an_rounds (h : Iv nf src wd fl wb fb n sp ow gc ak) {j : Nat} (hj : j < n) (st : Nat → Int32) : dcF (rJ gf gc ak (stC src wd fl nf) n).2.1 (rJ gf gc ak (stC src wd fl nf) n).2.2 j = sM gf gc ak n wb fb src nf (-1) st j := by
  unfold sM
  rw [← S_is h]
  exact rJ_is h.2.2.1 h.2.2.2.2.2.2.2.1 h.2.2.2.2.2.2.2.2 st j hj
theorem an_score (h : Iv nf src wd fl wb fb n sp ow gc ak) (q : Nat) (qu : Nat → Nat) (st : Nat → Int32) : cnF ow q (jG gf gc ak (stC src wd fl nf) n qu).2.2.1 n = cnS ow (sM gf gc ak n wb fb src nf (-1) st) q n := by
  unfold sM
  rw [← S_is h]
  exact sc_is h.2.2.1 h.2.2.2.2.2.2.2.1 h.2.2.2.2.2.2.2.2 qu st
theorem an_without (h : Iv nf src wd fl wb fb n sp ow gc ak) (q : Nat) {j : Nat} (hj : j < 32) (qu : Nat → Nat) (st : Nat → Int32) : cnF ow q (jG gf gc ak (stC src wd fl nf &&& (m1 j ^^^ (-1))) n qu).2.2.1 n = cnS ow (sM gf gc ak n wb fb src nf (nI j) st) q n := by
  unfold sM
  rw [← SW_is h hj]
  exact sc_is h.2.2.1 h.2.2.2.2.2.2.2.1 h.2.2.2.2.2.2.2.2 qu st
theorem ky_inv (h : Iv nf src wd fl wb fb n sp ow gc ak) (q : Nat) (sf : Int32) (j : jT) (st : Nat → Int32) : ∀ k, k ≤ nf → (kyC gf gc ak n ow (stC src wd fl nf) q sf j k).1 = (kyM gf gc ak n ow wb fb src nf q st k).1 ∧
    ∃ L, L ≤ 17 ∧ (kyM gf gc ak n ow wb fb src nf q st k).2.1 = nI L ∧ (((kyM gf gc ak n ow wb fb src nf q st k).1 = -1 ∧ L = 17) ∨ (¬ (kyM gf gc ak n ow wb fb src nf q st k).1 = -1 ∧ (kyC gf gc ak n ow (stC src wd fl nf) q sf j k).2.1 = nI L))
  | 0, _ => ⟨rfl, 17, Nat.le_refl _, rfl, Or.inl ⟨rfl, rfl⟩⟩
  | k + 1, hk => by
    obtain ⟨h1, L, hL, h2, h3⟩ := ky_inv h q sf j st k (by omega)
    have hk14 : k < 14 := by have := h.1; omega
    have hb := an_stands h (show k < nf by omega)
    cases hs : sdF wb fb src k with
    | false =>
      rw [kyC_f (by rw [hb, hs]), kyM_f hs]
      have hle : (kyM gf gc ak n ow wb fb src nf q st k).2.1 ≤ 17 := by
        rw [h2]; exact (nI_leI (a := L) (b := 17) (by omega) (by omega)).mpr hL
      rw [if_pos hle, if_pos hle]
      exact ⟨h1, L, hL, h2, h3⟩
    | true =>
      rw [kyC_t (by rw [hb, hs]), kyM_t hs]
      have e := an_without (gf := gf) h q (show k < 32 by omega) (kyC gf gc ak n ow (stC src wd fl nf) q sf j k).2.2.2.1 (kyM gf gc ak n ow wb fb src nf q st k).2.2
      rw [e]
      have hs16 := cnS_le ow (sM gf gc ak n wb fb src nf (nI k) (kyM gf gc ak n ow wb fb src nf q st k).2.2) q n
      have hn := h.2.2.1
      generalize hsv : cnS ow (sM gf gc ak n wb fb src nf (nI k) (kyM gf gc ak n ow wb fb src nf q st k).2.2) q n = s at hs16 ⊢
      rw [h1, h2]
      have hkn := nI_nm1 (n := k) (by omega)
      rcases h3 with ⟨a1, a2⟩ | ⟨a1, a2⟩
      · have hlt : ¬ nI L ≤ nI s := fun z => by have := (nI_leI (a := L) (b := s) (by omega) (by omega)).mp z; omega
        rw [if_pos a1, if_neg hlt, if_neg hlt, if_pos a1]
        exact ⟨rfl, s, by omega, rfl, Or.inr ⟨hkn, rfl⟩⟩
      · rw [if_neg a1, if_neg a1, a2]
        by_cases hc : nI L ≤ nI s
        · rw [if_pos hc, if_pos hc]
          exact ⟨rfl, L, hL, rfl, Or.inr ⟨a1, rfl⟩⟩
        · rw [if_neg hc, if_neg hc]
          exact ⟨rfl, s, by omega, rfl, Or.inr ⟨hkn, rfl⟩⟩
theorem ky_far (h : Iv nf src wd fl wb fb n sp ow gc ak) (q : Nat) (sf : Int32) (j : jT) : ∀ m, nf + m ≤ 14 → kyC gf gc ak n ow (stC src wd fl nf) q sf j (nf + m) = kyC gf gc ak n ow (stC src wd fl nf) q sf j nf
  | 0, _ => rfl
  | m + 1, hm => by
    have e := kyC_f (gf := gf) (gc := gc) (ak := ak) (n := n) (ow := ow) (S := stC src wd fl nf) (q := q) (sf := sf) (j := j) (k := nf + m) (by rw [bt_S h (by omega), decide_eq_false (by omega)]; rfl)
    exact e.trans (ky_far h q sf j m (by omega))
theorem an_key (h : Iv nf src wd fl wb fb n sp ow gc ak) (q : Nat) (sf : Int32) (j : jT) (st : Nat → Int32) : (kyC gf gc ak n ow (stC src wd fl nf) q sf j 14).1 = (kyM gf gc ak n ow wb fb src nf q st nf).1 := by
  have e := ky_far (gf := gf) h q sf j (14 - nf) (by have := h.1; omega)
  rw [show nf + (14 - nf) = 14 from by have := h.1; omega] at e
  rw [e]
  exact (ky_inv h q sf j st nf (Nat.le_refl nf)).1
theorem vd_inv (h : Iv nf src wd fl wb fb n sp ow gc ak) (qu : Nat → Nat) (st : Nat → Int32) : ∀ k, (vdC ow (jG gf gc ak (stC src wd fl nf) n qu).2.2.1 n k).1 = (vdM gf gc ak n ow wb fb src nf st k).1 ∧ (vdC ow (jG gf gc ak (stC src wd fl nf) n qu).2.2.1 n k).2 = (vdM gf gc ak n ow wb fb src nf st k).2.1
  | 0 => ⟨rfl, rfl⟩
  | k + 1 => by
    obtain ⟨h1, h2⟩ := vd_inv h qu st k
    rw [vdC_s, vdM_s, an_score h k qu (vdM gf gc ak n ow wb fb src nf st k).2.2, h1, h2]
    exact ⟨rfl, rfl⟩
theorem an_verdict (h : Iv nf src wd fl wb fb n sp ow gc ak) (qu : Nat → Nat) (st : Nat → Int32) : (vdC ow (jG gf gc ak (stC src wd fl nf) n qu).2.2.1 n 3).1 = (vdM gf gc ak n ow wb fb src nf st 3).1 := (vd_inv h qu st 3).1
/-! reputations -/
theorem bt_ilF {S : Int32} {i : Nat} (hi : i < 32) : ∀ k, k ≤ 32 → bt (ilF gf S k) i = (decide (i < k) && !(decide (gf i &&& (S ^^^ (-1)) = 0)))
  | 0, _ => by
    rw [show ilF gf S 0 = 0 from rfl, b_0, decide_eq_false (Nat.not_lt_zero i)]; rfl
  | k + 1, hk => by
    have ih := bt_ilF (S := S) hi k (by omega)
    have e : ilF gf S (k + 1) = if gf k &&& (S ^^^ (-1)) = 0 then ilF gf S k else ilF gf S k ||| m1 k := rfl
    rw [e]
    by_cases ei : i = k
    · subst ei
      rw [decide_eq_false (Nat.lt_irrefl i)] at ih
      rw [decide_eq_true (Nat.lt_succ_self i)]
      by_cases c : gf i &&& (S ^^^ (-1)) = 0
      · rw [if_pos c, ih, decide_eq_true c]; rfl
      · rw [if_neg c, b_or, bt_m1 hi hi, decide_eq_true rfl, Bool.or_true, decide_eq_false c]; rfl
    · have e2 : decide (i < k + 1) = decide (i < k) := decide_eq_decide.mpr (by omega)
      rw [e2, ← ih]
      by_cases c : gf k &&& (S ^^^ (-1)) = 0
      · rw [if_pos c]
      · rw [if_neg c, b_or, bt_m1 (by omega) hi, decide_eq_false ei, Bool.or_false]
theorem i3_a (x a : Int32) : x - a - 1 = x - (a + 1) := Int32.toBitVec_inj.mp (by simp only [Int32.toBitVec_sub, Int32.toBitVec_add]; bv_omega)
theorem i3_b (x a b : Int32) : x + (a - b) = x + a - b := Int32.toBitVec_inj.mp (by simp only [Int32.toBitVec_sub, Int32.toBitVec_add]; bv_omega)
theorem i3_0 (x : Int32) : x - 0 = x := Int32.toBitVec_inj.mp (by rw [Int32.toBitVec_sub]; exact BitVec.sub_zero _)
theorem clD_at {S : Int32} {r : Nat → Int32} (hn : n ≤ 16) (i : Nat) : ∀ k, k ≤ n → clD ow gf S r k i = r i - nI (cnF ow i (ilF gf S n) k)
  | 0, _ => by rw [show cnF ow i (ilF gf S n) 0 = 0 from rfl, nI_0, i3_0]; rfl
  | k + 1, hk => by
    have ih := clD_at (S := S) (r := r) hn i k (by omega)
    have hb := bt_ilF (gf := gf) (S := S) (i := k) (by omega) n (by omega)
    rw [decide_eq_true (show k < n by omega), Bool.true_and] at hb
    have e1 : cnF ow i (ilF gf S n) (k + 1) = if ow k = i ∧ bt (ilF gf S n) k = true then cnF ow i (ilF gf S n) k + 1 else cnF ow i (ilF gf S n) k := rfl
    by_cases c : gf k &&& (S ^^^ (-1)) = 0
    · rw [clD_0 c, e1, if_neg (fun z => by rw [hb, decide_eq_true c] at z; exact absurd z.2 (by decide))]
      by_cases ei : i = ow k
      · subst ei; rw [upd_at, i3_0, ih]
      · rw [upd_ne ei, ih]
    · rw [clD_1 c, e1]
      by_cases ei : i = ow k
      · subst ei
        rw [upd_at, if_pos ⟨rfl, by rw [hb, decide_eq_false c]; rfl⟩, ih, i3_a, nI_1]
      · rw [upd_ne ei, if_neg (fun z => ei z.1.symm), ih]
theorem clC_at {x z : Int32} {r : Nat → Int32} (i : Nat) : ∀ k, clC ow x z n r k i = if i < k then r i + (nI (cnF ow i x n) - nI (cnF ow i z n)) else r i
  | 0 => by rw [if_neg (Nat.not_lt_zero i)]; rfl
  | k + 1 => by
    have ih := clC_at (x := x) (z := z) (r := r) i k
    have e : clC ow x z n r (k + 1) = upd (clC ow x z n r k) k (clC ow x z n r k k + (nI (cnF ow k x n) - nI (cnF ow k z n))) := rfl
    rw [e]
    by_cases ei : i = k
    · subst ei; rw [upd_at, ih, if_neg (Nat.lt_irrefl i), if_pos (Nat.lt_succ_self i)]
    · rw [upd_ne ei, ih]
      by_cases l : i < k
      · rw [if_pos l, if_pos (by omega)]
      · rw [if_neg l, if_neg (by omega)]
theorem clM_at (h : Iv nf src wd fl wb fb n sp ow gc ak) (qu : Nat → Nat) (st : Nat → Int32) (i : Nat) : ∀ k, (clM gf gc ak n ow wb fb src nf rp st k).1 i = if i < k then rp i + nI (cnF ow i (jG gf gc ak (stC src wd fl nf) n qu).2.2.1 n) else rp i
  | 0 => by rw [if_neg (Nat.not_lt_zero i)]; rfl
  | k + 1 => by
    have ih := clM_at h qu st i k
    have e : (clM gf gc ak n ow wb fb src nf rp st (k + 1)).1 = upd (clM gf gc ak n ow wb fb src nf rp st k).1 k ((clM gf gc ak n ow wb fb src nf rp st k).1 k + nI (cnS ow (sM gf gc ak n wb fb src nf (-1) (clM gf gc ak n ow wb fb src nf rp st k).2) k n)) := rfl
    rw [e, ← an_score h k qu]
    by_cases ei : i = k
    · subst ei; rw [upd_at, ih, if_neg (Nat.lt_irrefl i), if_pos (Nat.lt_succ_self i)]
    · rw [upd_ne ei, ih]
      by_cases l : i < k
      · rw [if_pos l, if_pos (by omega)]
      · rw [if_neg l, if_neg (by omega)]
theorem cn_0 {q : Nat} {x : Int32} : ∀ k, (∀ c, c < k → ow c ≠ q) → cnF ow q x k = 0
  | 0, _ => rfl
  | k + 1, h => by
    unfold cnF
    rw [if_neg (fun z => h k (Nat.lt_succ_self k) z.1)]
    exact cn_0 k (fun c hc => h c (by omega))
theorem an_close (h : Iv nf src wd fl wb fb n sp ow gc ak) (qu : Nat → Nat) (st : Nat → Int32) : clD ow gf (stM wb fb src (-1) nf) (clM gf gc ak n ow wb fb src nf rp st 3).1 n = clC ow (jG gf gc ak (stC src wd fl nf) n qu).2.2.1 (ilF gf (stC src wd fl nf) n) n rp 3 := by
  funext i
  rw [← S_is h, clD_at h.2.2.1 i n (Nat.le_refl n), clC_at, clM_at h qu st]
  by_cases l : i < 3
  · rw [if_pos l, if_pos l, i3_b]
  · rw [if_neg l, if_neg l, cn_0 n (fun c hc z => l (by rw [← z]; exact h.2.2.2.2.1 c hc)), nI_0, i3_0]
/-! what stays -/
theorem Iv_fact (h : Iv nf src wd fl wb fb n sp ow gc ak) {j : Nat} (hj : j < 6) (hn : nf < 14) : Iv (nf + 1) (upN src nf j) wd fl wb fb n sp ow gc ak := by
  refine ⟨hn, fun i hi => ?_, h.2.2⟩
  show (if i = nf then j else src i) < 6
  by_cases e : i = nf
  · rw [if_pos e]; exact hj
  · rw [if_neg e]; exact h.2.1 i (by omega)
theorem Iv_flip (h : Iv nf src wd fl wb fb n sp ow gc ak) {j : Nat} (hj : j < 6) : Iv nf src wd (fl ^^^ m1 j) wb (upB fb j (!fb j)) n sp ow gc ak := by
  refine ⟨h.1, h.2.1, h.2.2.1, h.2.2.2.1, h.2.2.2.2.1, h.2.2.2.2.2.1, fun i hi => ?_, h.2.2.2.2.2.2.2⟩
  show bt (fl ^^^ m1 j) i = if i = j then !fb j else fb i
  rw [b_xor, bt_m1 (by omega) (by omega), h.2.2.2.2.2.2.1 i hi]
  by_cases e : i = j
  · subst e; rw [if_pos rfl, decide_eq_true rfl, Bool.xor_true]
  · rw [if_neg e, decide_eq_false e, Bool.xor_false]
theorem Iv_with (h : Iv nf src wd fl wb fb n sp ow gc ak) {j : Nat} (hj : j < nf) : Iv nf src (wd ||| m1 j) fl (upB wb j true) fb n sp ow gc ak := by
  refine ⟨h.1, h.2.1, h.2.2.1, h.2.2.2.1, h.2.2.2.2.1, fun i hi => ?_, h.2.2.2.2.2.2⟩
  show bt (wd ||| m1 j) i = if i = j then true else wb i
  rw [b_or, bt_m1 (by have := h.1; omega) (by omega), h.2.2.2.2.2.1 i hi]
  by_cases e : i = j
  · subst e; rw [if_pos rfl, decide_eq_true rfl, Bool.or_true]
  · rw [if_neg e, decide_eq_false e, Bool.or_false]
theorem nx_lt {sp : Nat} (h : sp < 3) : nx sp < 3 := by
  unfold nx
  by_cases c : 2 ≤ sp
  · rw [if_pos c]; omega
  · rw [if_neg c]; omega
theorem Iv_skip (h : Iv nf src wd fl wb fb n sp ow gc ak) : Iv nf src wd fl wb fb n (nx sp) ow gc ak := ⟨h.1, h.2.1, h.2.2.1, nx_lt h.2.2.2.1, h.2.2.2.2⟩
theorem Bd_new {r : Nat → Int32} (h : Bd n r) : Bd (n + 1) (upd r n 0) := fun c hc i hi h32 => by
  by_cases e : c = n
  · subst e; rw [upd_at, b_0]
  · rw [upd_ne e]; exact h c (by omega) i (by omega) h32
theorem Bd_flip {r : Nat → Int32} (h : Bd n r) (hn : n ≤ 16) {c j : Nat} (hc : c < n) (hj : j < n) : Bd n (upd r c (r c ^^^ m1 j)) := fun x hx i hi h32 => by
  by_cases e : x = c
  · subst e
    rw [upd_at, b_xor, bt_m1 (by omega) h32, h x hx i hi h32, decide_eq_false (by omega)]; rfl
  · rw [upd_ne e]; exact h x hx i hi h32
theorem Iv_claim (h : Iv nf src wd fl wb fb n sp ow gc ak) (hn : n < 16) : Iv nf src wd fl wb fb (n + 1) (nx sp) (upN ow n sp) (upd gc n 0) (upd ak n 0) := by
  refine ⟨h.1, h.2.1, hn, nx_lt h.2.2.2.1, fun i hi => ?_, h.2.2.2.2.2.1, h.2.2.2.2.2.2.1, Bd_new h.2.2.2.2.2.2.2.1, Bd_new h.2.2.2.2.2.2.2.2⟩
  show (if i = n then sp else ow i) < 3
  by_cases e : i = n
  · rw [if_pos e]; exact h.2.2.2.1
  · rw [if_neg e]; exact h.2.2.2.2.1 i (by omega)
theorem Iv_rest (h : Iv nf src wd fl wb fb n sp ow gc ak) {i j : Nat} (hi : i < n) (hj : j < n) : Iv nf src wd fl wb fb n sp ow (upd gc i (gc i ^^^ m1 j)) ak :=
  ⟨h.1, h.2.1, h.2.2.1, h.2.2.2.1, h.2.2.2.2.1, h.2.2.2.2.2.1, h.2.2.2.2.2.2.1, Bd_flip h.2.2.2.2.2.2.2.1 h.2.2.1 hi hj, h.2.2.2.2.2.2.2.2⟩
theorem Iv_attack (h : Iv nf src wd fl wb fb n sp ow gc ak) {i j : Nat} (hi : i < n) (hj : j < n) : Iv nf src wd fl wb fb n sp ow gc (upd ak j (ak j ^^^ m1 i)) :=
  ⟨h.1, h.2.1, h.2.2.1, h.2.2.2.1, h.2.2.2.2.1, h.2.2.2.2.2.1, h.2.2.2.2.2.2.1, h.2.2.2.2.2.2.2.1, Bd_flip h.2.2.2.2.2.2.2.2 h.2.2.1 hj hi⟩
theorem Iv_close (h : Iv nf src wd fl wb fb n sp ow gc ak) : Iv nf src wd fl wb fb 0 0 ow gc ak :=
  ⟨h.1, h.2.1, Nat.zero_le _, by decide, fun i hi => absurd hi (Nat.not_lt_zero i), h.2.2.2.2.2.1, h.2.2.2.2.2.2.1, fun c hc => absurd hc (Nat.not_lt_zero c), fun c hc => absurd hc (Nat.not_lt_zero c)⟩
theorem Iv_0 : Iv 0 (fun _ => 0) 0 0 (fun _ => false) (fun _ => false) 0 0 (fun _ => 0) (fun _ => 0) (fun _ => 0) :=
  ⟨Nat.zero_le _, fun i hi => absurd hi (Nat.not_lt_zero i), Nat.zero_le _, by decide, fun i hi => absurd hi (Nat.not_lt_zero i), fun i _ => b_0 i, fun i _ => b_0 i, fun c hc => absurd hc (Nat.not_lt_zero c), fun c hc => absurd hc (Nat.not_lt_zero c)⟩
end AGR
