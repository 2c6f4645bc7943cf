/-! ===== the reference's loops, as functions ===== -/
section MM3
variable {gf gc ak : Nat → Int32} {S : Int32} {n : Nat} {st : Nat → Int32} {k : Nat}
theorem mRd_i (hI : mI gf gc ak S n (mRd gf gc ak S n st k).2 k = true) : mRd gf gc ak S n st (k + 1) = (true, upd (mRd gf gc ak S n st k).2 k 1) := by
  have hO : mO gf gc ak S n (upd (mRd gf gc ak S n st k).2 k 1) k = false := by
    unfold mO
    rw [show upd (mRd gf gc ak S n st k).2 k 1 k = 1 from if_pos rfl, decide_eq_false (by decide)]
    rfl
  show ((mRd gf gc ak S n st k).1 || (mI gf gc ak S n (mRd gf gc ak S n st k).2 k || mO gf gc ak S n (mS1 gf gc ak S n (mRd gf gc ak S n st k).2 k) k), mS2 gf gc ak S n (mS1 gf gc ak S n (mRd gf gc ak S n st k).2 k) k) = _
  rw [show mS1 gf gc ak S n (mRd gf gc ak S n st k).2 k = upd (mRd gf gc ak S n st k).2 k 1 from if_pos hI, hI, hO, show mS2 gf gc ak S n (upd (mRd gf gc ak S n st k).2 k 1) k = upd (mRd gf gc ak S n st k).2 k 1 from if_neg (by rw [hO]; decide), Bool.true_or, Bool.or_true]
theorem mRd_o (hI : mI gf gc ak S n (mRd gf gc ak S n st k).2 k = false) (hO : mO gf gc ak S n (mRd gf gc ak S n st k).2 k = true) : mRd gf gc ak S n st (k + 1) = (true, upd (mRd gf gc ak S n st k).2 k 2) := by
  show ((mRd gf gc ak S n st k).1 || (mI gf gc ak S n (mRd gf gc ak S n st k).2 k || mO gf gc ak S n (mS1 gf gc ak S n (mRd gf gc ak S n st k).2 k) k), mS2 gf gc ak S n (mS1 gf gc ak S n (mRd gf gc ak S n st k).2 k) k) = _
  rw [show mS1 gf gc ak S n (mRd gf gc ak S n st k).2 k = (mRd gf gc ak S n st k).2 from if_neg (by rw [hI]; decide), hI, hO, show mS2 gf gc ak S n (mRd gf gc ak S n st k).2 k = upd (mRd gf gc ak S n st k).2 k 2 from if_pos hO, Bool.false_or, Bool.or_true]
theorem mRd_n (hI : mI gf gc ak S n (mRd gf gc ak S n st k).2 k = false) (hO : mO gf gc ak S n (mRd gf gc ak S n st k).2 k = false) : mRd gf gc ak S n st (k + 1) = ((mRd gf gc ak S n st k).1, (mRd gf gc ak S n st k).2) := by
  show ((mRd gf gc ak S n st k).1 || (mI gf gc ak S n (mRd gf gc ak S n st k).2 k || mO gf gc ak S n (mS1 gf gc ak S n (mRd gf gc ak S n st k).2 k) k), mS2 gf gc ak S n (mS1 gf gc ak S n (mRd gf gc ak S n st k).2 k) k) = _
  rw [show mS1 gf gc ak S n (mRd gf gc ak S n st k).2 k = (mRd gf gc ak S n st k).2 from if_neg (by rw [hI]; decide), hI, hO, show mS2 gf gc ak S n (mRd gf gc ak S n st k).2 k = (mRd gf gc ak S n st k).2 from if_neg (by rw [hO]; decide), Bool.or_false, Bool.or_false]
end MM3
section KV
variable (gf gc ak : Nat → Int32) (n : Nat) (ow : Nat → Nat) (wb fb : Nat → Bool) (src : Nat → Nat) (nf : Nat)
/-- the states behind a deciding, without a fact -/
def sM (w : Int32) (st : Nat → Int32) : Nat → Int32 := (mJ gf gc ak (stM wb fb src w nf) n st).2
def kyM (q : Nat) (st : Nat → Int32) : Nat → Int32 × Int32 × (Nat → Int32)
  | 0 => (-1, 17, st)
  | k + 1 => if sdF wb fb src k = true then
      (if (kyM q st k).2.1 ≤ nI (cnS ow (sM gf gc ak n wb fb src nf (nI k) (kyM q st k).2.2) q n) then (kyM q st k).1 else nI k,
       if (kyM q st k).2.1 ≤ nI (cnS ow (sM gf gc ak n wb fb src nf (nI k) (kyM q st k).2.2) q n) then (kyM q st k).2.1 else nI (cnS ow (sM gf gc ak n wb fb src nf (nI k) (kyM q st k).2.2) q n),
       sM gf gc ak n wb fb src nf (nI k) (kyM q st k).2.2)
    else (if (kyM q st k).2.1 ≤ 17 then (kyM q st k).1 else nI k, if (kyM q st k).2.1 ≤ 17 then (kyM q st k).2.1 else 17, (kyM q st k).2.2)
def vdM (st : Nat → Int32) : Nat → Int32 × Int32 × (Nat → Int32)
  | 0 => (-1, -1, st)
  | k + 1 => (if nI (cnS ow (sM gf gc ak n wb fb src nf (-1) (vdM st k).2.2) k n) ≤ (vdM st k).2.1 then (if nI (cnS ow (sM gf gc ak n wb fb src nf (-1) (vdM st k).2.2) k n) = (vdM st k).2.1 then -1 else (vdM st k).1) else nI k,
      if nI (cnS ow (sM gf gc ak n wb fb src nf (-1) (vdM st k).2.2) k n) ≤ (vdM st k).2.1 then (vdM st k).2.1 else nI (cnS ow (sM gf gc ak n wb fb src nf (-1) (vdM st k).2.2) k n),
      sM gf gc ak n wb fb src nf (-1) (vdM st k).2.2)
def clM (rp st : Nat → Int32) : Nat → (Nat → Int32) × (Nat → Int32)
  | 0 => (rp, st)
  | k + 1 => (upd (clM rp st k).1 k ((clM rp st k).1 k + nI (cnS ow (sM gf gc ak n wb fb src nf (-1) (clM rp st k).2) k n)), sM gf gc ak n wb fb src nf (-1) (clM rp st k).2)
end KV
section KV2
variable {gf gc ak : Nat → Int32} {n : Nat} {ow : Nat → Nat} {wb fb : Nat → Bool} {src : Nat → Nat} {nf q k : Nat} {st : Nat → Int32}
theorem kyM_t (h : sdF wb fb src k = true) : kyM gf gc ak n ow wb fb src nf q st (k + 1) = (if (kyM gf gc ak n ow wb fb src nf q st k).2.1 ≤ nI (cnS ow (sM gf gc ak n wb fb src nf (nI k) (kyM gf gc ak n ow wb fb src nf q st k).2.2) q n) then (kyM gf gc ak n ow wb fb src nf q st k).1 else nI k,
       if (kyM gf gc ak n ow wb fb src nf q st k).2.1 ≤ nI (cnS ow (sM gf gc ak n wb fb src nf (nI k) (kyM gf gc ak n ow wb fb src nf q st k).2.2) q n) then (kyM gf gc ak n ow wb fb src nf q st k).2.1 else nI (cnS ow (sM gf gc ak n wb fb src nf (nI k) (kyM gf gc ak n ow wb fb src nf q st k).2.2) q n),
       sM gf gc ak n wb fb src nf (nI k) (kyM gf gc ak n ow wb fb src nf q st k).2.2) := if_pos h
theorem kyM_f (h : sdF wb fb src k = false) : kyM gf gc ak n ow wb fb src nf q st (k + 1) = (if (kyM gf gc ak n ow wb fb src nf q st k).2.1 ≤ 17 then (kyM gf gc ak n ow wb fb src nf q st k).1 else nI k, if (kyM gf gc ak n ow wb fb src nf q st k).2.1 ≤ 17 then (kyM gf gc ak n ow wb fb src nf q st k).2.1 else 17, (kyM gf gc ak n ow wb fb src nf q st k).2.2) := if_neg (by rw [h]; decide)
theorem vdM_s : vdM gf gc ak n ow wb fb src nf st (k + 1) = (if nI (cnS ow (sM gf gc ak n wb fb src nf (-1) (vdM gf gc ak n ow wb fb src nf st k).2.2) k n) ≤ (vdM gf gc ak n ow wb fb src nf st k).2.1 then (if nI (cnS ow (sM gf gc ak n wb fb src nf (-1) (vdM gf gc ak n ow wb fb src nf st k).2.2) k n) = (vdM gf gc ak n ow wb fb src nf st k).2.1 then -1 else (vdM gf gc ak n ow wb fb src nf st k).1) else nI k,
      if nI (cnS ow (sM gf gc ak n wb fb src nf (-1) (vdM gf gc ak n ow wb fb src nf st k).2.2) k n) ≤ (vdM gf gc ak n ow wb fb src nf st k).2.1 then (vdM gf gc ak n ow wb fb src nf st k).2.1 else nI (cnS ow (sM gf gc ak n wb fb src nf (-1) (vdM gf gc ak n ow wb fb src nf st k).2.2) k n),
      sM gf gc ak n wb fb src nf (-1) (vdM gf gc ak n ow wb fb src nf st k).2.2) := rfl
end KV2
/-- the first k are v -/
def fz (v : Int32) (f : Nat → Int32) (k : Nat) : Nat → Int32 := fun i => if i < k then v else f i
theorem fz_0 (v : Int32) (f : Nat → Int32) : fz v f 0 = f := funext fun i => if_neg (Nat.not_lt_zero i)
theorem fz_s (v : Int32) (f : Nat → Int32) (k : Nat) : fz v f (k + 1) = upd (fz v f k) k v := funext fun i => by
  unfold fz upd
  dsimp only
  by_cases h : i = k
  · rw [if_pos h, if_pos (by omega)]
  · rw [if_neg h]
    by_cases h2 : i < k
    · rw [if_pos h2, if_pos (by omega)]
    · rw [if_neg h2, if_neg (by omega)]
def clD (ow : Nat → Nat) (gf : Nat → Int32) (S : Int32) (rp : Nat → Int32) : Nat → Nat → Int32
  | 0 => rp
  | k + 1 => upd (clD ow gf S rp k) (ow k) (clD ow gf S rp k (ow k) - (if gf k &&& (S ^^^ (-1)) = 0 then 0 else 1))
theorem clD_1 {ow : Nat → Nat} {gf : Nat → Int32} {S : Int32} {rp : Nat → Int32} {k : Nat} (h : ¬ gf k &&& (S ^^^ (-1)) = 0) : clD ow gf S rp (k + 1) = upd (clD ow gf S rp k) (ow k) (clD ow gf S rp k (ow k) - 1) := by
  show upd (clD ow gf S rp k) (ow k) (clD ow gf S rp k (ow k) - (if gf k &&& (S ^^^ (-1)) = 0 then 0 else 1)) = _
  rw [if_neg h]
theorem clD_0 {ow : Nat → Nat} {gf : Nat → Int32} {S : Int32} {rp : Nat → Int32} {k : Nat} (h : gf k &&& (S ^^^ (-1)) = 0) : clD ow gf S rp (k + 1) = upd (clD ow gf S rp k) (ow k) (clD ow gf S rp k (ow k) - 0) := by
  show upd (clD ow gf S rp k) (ow k) (clD ow gf S rp k (ow k) - (if gf k &&& (S ^^^ (-1)) = 0 then 0 else 1)) = _
  rw [if_pos h]
