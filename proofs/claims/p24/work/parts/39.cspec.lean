/-! ===== the class's own loops, as functions ===== -/
theorem nI_nm1 {n : Nat} (h : n < 2 ^ 31) : ¬ nI n = -1 := fun z => by
  have h2 : (nI n).toInt = (-1 : Int32).toInt := by rw [z]
  rw [nI_toInt h, show (-1 : Int32).toInt = -1 from by decide] at h2
  omega
section KC
variable (gf gc ak : Nat → Int32) (n : Nat) (ow : Nat → Nat) (S : Int32)
def kyC (q : Nat) (sf : Int32) (j : jT) : Nat → Int32 × Int32 × Int32 × jT
  | 0 => (-1, 0, sf, j)
  | k + 1 => if bt S k = true then
      (if (kyC q sf j k).1 = -1 then nI k else if (kyC q sf j k).2.1 ≤ nI (cnF ow q (jG gf gc ak (S &&& (m1 k ^^^ (-1))) n (kyC q sf j k).2.2.2.1).2.2.1 n) then (kyC q sf j k).1 else nI k,
       if (kyC q sf j k).1 = -1 then nI (cnF ow q (jG gf gc ak (S &&& (m1 k ^^^ (-1))) n (kyC q sf j k).2.2.2.1).2.2.1 n) else if (kyC q sf j k).2.1 ≤ nI (cnF ow q (jG gf gc ak (S &&& (m1 k ^^^ (-1))) n (kyC q sf j k).2.2.2.1).2.2.1 n) then (kyC q sf j k).2.1 else nI (cnF ow q (jG gf gc ak (S &&& (m1 k ^^^ (-1))) n (kyC q sf j k).2.2.2.1).2.2.1 n),
       S &&& (m1 k ^^^ (-1)), jG gf gc ak (S &&& (m1 k ^^^ (-1))) n (kyC q sf j k).2.2.2.1)
    else kyC q sf j k
end KC
section KC2
variable {gf gc ak : Nat → Int32} {n : Nat} {ow : Nat → Nat} {S : Int32} {q : Nat} {sf : Int32} {j : jT} {k : Nat}
theorem kyC_t (h : bt S k = true) : kyC gf gc ak n ow S q sf j (k + 1) = (if (kyC gf gc ak n ow S q sf j k).1 = -1 then nI k else if (kyC gf gc ak n ow S q sf j k).2.1 ≤ nI (cnF ow q (jG gf gc ak (S &&& (m1 k ^^^ (-1))) n (kyC gf gc ak n ow S q sf j k).2.2.2.1).2.2.1 n) then (kyC gf gc ak n ow S q sf j k).1 else nI k,
       if (kyC gf gc ak n ow S q sf j k).1 = -1 then nI (cnF ow q (jG gf gc ak (S &&& (m1 k ^^^ (-1))) n (kyC gf gc ak n ow S q sf j k).2.2.2.1).2.2.1 n) else if (kyC gf gc ak n ow S q sf j k).2.1 ≤ nI (cnF ow q (jG gf gc ak (S &&& (m1 k ^^^ (-1))) n (kyC gf gc ak n ow S q sf j k).2.2.2.1).2.2.1 n) then (kyC gf gc ak n ow S q sf j k).2.1 else nI (cnF ow q (jG gf gc ak (S &&& (m1 k ^^^ (-1))) n (kyC gf gc ak n ow S q sf j k).2.2.2.1).2.2.1 n),
       S &&& (m1 k ^^^ (-1)), jG gf gc ak (S &&& (m1 k ^^^ (-1))) n (kyC gf gc ak n ow S q sf j k).2.2.2.1) := if_pos h
theorem kyC_f (h : bt S k = false) : kyC gf gc ak n ow S q sf j (k + 1) = kyC gf gc ak n ow S q sf j k := if_neg (by rw [h]; decide)
end KC2
def vdC (ow : Nat → Nat) (x : Int32) (n : Nat) : Nat → Int32 × Int32
  | 0 => (-1, -1)
  | k + 1 => (if nI (cnF ow k x n) ≤ (vdC ow x n k).2 then (if nI (cnF ow k x n) = (vdC ow x n k).2 then -1 else (vdC ow x n k).1) else nI k, if nI (cnF ow k x n) ≤ (vdC ow x n k).2 then (vdC ow x n k).2 else nI (cnF ow k x n))
theorem vdC_s {ow : Nat → Nat} {x : Int32} {n k : Nat} : vdC ow x n (k + 1) = (if nI (cnF ow k x n) ≤ (vdC ow x n k).2 then (if nI (cnF ow k x n) = (vdC ow x n k).2 then -1 else (vdC ow x n k).1) else nI k, if nI (cnF ow k x n) ≤ (vdC ow x n k).2 then (vdC ow x n k).2 else nI (cnF ow k x n)) := rfl
def clC (ow : Nat → Nat) (x z : Int32) (n : Nat) (rp : Nat → Int32) : Nat → Nat → Int32
  | 0 => rp
  | k + 1 => upd (clC ow x z n rp k) k (clC ow x z n rp k k + (nI (cnF ow k x n) - nI (cnF ow k z n)))
theorem inF_1 {v a b : Int32} (h : inF v a b = true) : ¬ v < a := by
  unfold inF at h
  rw [Bool.and_eq_true, Bool.not_eq_true', Bool.not_eq_true', decide_eq_false_iff_not, decide_eq_false_iff_not] at h
  exact h.1
theorem inF_2 {v a b : Int32} (h : inF v a b = true) : v ≤ b := by
  unfold inF at h
  rw [Bool.and_eq_true, Bool.not_eq_true', Bool.not_eq_true', decide_eq_false_iff_not, decide_eq_false_iff_not] at h
  exact Int32.not_lt.mp h.2
/-- how a claim is decided, by the two sets -/
def dcF (x y : Int32) (j : Nat) : Int32 := if bt x j = true then 1 else if bt y j = true then 2 else 0
