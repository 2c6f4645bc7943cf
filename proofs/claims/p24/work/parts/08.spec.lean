/-! ===== what the methods compute, as functions ===== -/
theorem bt_t {s : Int32} {j : Nat} (hj : j < 32) (h : ¬ (s &&& m1 j) = 0) : bt s j = true := by
  cases e : bt s j with
  | true => rfl
  | false => exact absurd ((bt_and0 hj).mpr e) h
section OURS2
variable {p : Program} {l : Launch} {e : Env} {R : Room} {s : State} {m : MethodId} {args : Array Value} {below : List Frame} {meth : Method} {c : Code} {H : Heap} {locs : List Loc} {cells slots : Nat} {Q : State → Prop}
variable {cc : ByteArray} {pc : Nat} {ls : Array Slot} {rest : List Value} {E : gE} {A : Nat → Prop} {H0 : Heap} {ws : va_W} {a : Nat}
theorem k_ialdN (hexec : p.tables.exec = Jvm.exec) (hb : c.code = cc) (hK : kS E s) (hP : va_P E.1 vwCl ws H) (q0 : Nat) {N : Nat} {f : Nat → Nat} (j : Nat) (ha : ws[q0]? = some (a, .inl (E.2.1, N, .inl (fun i => nI (f i))))) (hj : j < N) (hN : N < 2 ^ 31) (hdg : decode cc pc = .ok (.iaload, 1))
    (kk : W p l e R s m args below meth c H locs cells slots Q (F0 m (pc + 1) ls (.int (nI (f j)) :: rest))) : W p l e R s m args below meth c H locs cells slots Q (F0 m pc ls (.int (nI j) :: .ref a :: rest)) := k_iald hexec hb hK hP q0 j ha hj hN hdg kk
end OURS2
def hasF (f : Int32) (n : Nat) : Bool := !(decide (f < 0)) && !(decide (m1 n ≤ f))
/-- the facts that stand, of the first k -/
def stC (src : Nat → Nat) (wd fl : Int32) : Nat → Int32
  | 0 => 0
  | k + 1 => if bt wd k || bt fl (src k) then stC src wd fl k else stC src wd fl k ||| m1 k
def nx (sp : Nat) : Nat := if 2 ≤ sp then 0 else sp + 1
def fA (gf gc ak : Nat → Int32) (c : Nat) (S I O : Int32) : Bool := !(decide (gf c &&& (S ^^^ (-1)) = 0)) || !(decide (gc c &&& O = 0)) || !(decide (ak c &&& I = 0))
def hO (gf gc ak : Nat → Int32) (c : Nat) (S I O : Int32) : Bool := decide (gf c &&& (S ^^^ (-1)) = 0) && decide (gc c &&& (I ^^^ (-1)) = 0) && decide (ak c &&& (O ^^^ (-1)) = 0)
def ilF (gf : Nat → Int32) (S : Int32) : Nat → Int32
  | 0 => 0
  | k + 1 => if gf k &&& (S ^^^ (-1)) = 0 then ilF gf S k else ilF gf S k ||| m1 k
def cnF (ow : Nat → Nat) (p : Nat) (x : Int32) : Nat → Nat
  | 0 => 0
  | k + 1 => if ow k = p ∧ bt x k = true then cnF ow p x k + 1 else cnF ow p x k
theorem cnF_le (ow : Nat → Nat) (p : Nat) (x : Int32) : ∀ k, cnF ow p x k ≤ k
  | 0 => Nat.le_refl 0
  | k + 1 => by
    have h := cnF_le ow p x k
    unfold cnF
    by_cases c : ow k = p ∧ bt x k = true
    · rw [if_pos c]; omega
    · rw [if_neg c]; omega
/-- one claim is looked at: whether it was decided now, and the sets -/
def dR (gf gc ak : Nat → Int32) (S : Int32) (c : Nat) (I O : Int32) : Bool × Int32 × Int32 :=
  if bt (I ||| O) c = true then (false, I, O) else if fA gf gc ak c S I O = true then (true, I, O ||| m1 c) else if hO gf gc ak c S I O = true then (true, I ||| m1 c, O) else (false, I, O)
section DR
variable {gf gc ak : Nat → Int32} {S I O : Int32} {c : Nat}
theorem dR_a (h : bt (I ||| O) c = true) : dR gf gc ak S c I O = (false, I, O) := if_pos h
theorem dR_b (h : bt (I ||| O) c = false) (h1 : fA gf gc ak c S I O = true) : dR gf gc ak S c I O = (true, I, O ||| m1 c) := by unfold dR; rw [h, h1]; rfl
theorem dR_c (h : bt (I ||| O) c = false) (h1 : fA gf gc ak c S I O = false) (h2 : hO gf gc ak c S I O = true) : dR gf gc ak S c I O = (true, I ||| m1 c, O) := by unfold dR; rw [h, h1, h2]; rfl
theorem dR_d (h : bt (I ||| O) c = false) (h1 : fA gf gc ak c S I O = false) (h2 : hO gf gc ak c S I O = false) : dR gf gc ak S c I O = (false, I, O) := by unfold dR; rw [h, h1, h2]; rfl
end DR
/-- queue, how many, the claims IN, the claims OUT -/
abbrev jT : Type := (Nat → Nat) × Nat × Int32 × Int32
def dQ (gf gc ak : Nat → Int32) (S : Int32) (c : Nat) (j : jT) : jT :=
  if (dR gf gc ak S c j.2.2.1 j.2.2.2).1 = true ∧ j.2.1 < 16 then (upN j.1 j.2.1 c, j.2.1 + 1, (dR gf gc ak S c j.2.2.1 j.2.2.2).2.1, (dR gf gc ak S c j.2.2.1 j.2.2.2).2.2)
  else (j.1, j.2.1, (dR gf gc ak S c j.2.2.1 j.2.2.2).2.1, (dR gf gc ak S c j.2.2.1 j.2.2.2).2.2)
section DQ
variable {gf gc ak : Nat → Int32} {S I O : Int32} {c qn : Nat} {qu : Nat → Nat}
theorem dQ_a (h : (dR gf gc ak S c I O).1 = false) : dQ gf gc ak S c (qu, qn, I, O) = (qu, qn, (dR gf gc ak S c I O).2.1, (dR gf gc ak S c I O).2.2) := if_neg (fun z => by rw [show (dR gf gc ak S c I O).1 = false from h] at z; exact absurd z.1 (by decide))
theorem dQ_b (h : 16 ≤ qn) : dQ gf gc ak S c (qu, qn, I, O) = (qu, qn, (dR gf gc ak S c I O).2.1, (dR gf gc ak S c I O).2.2) := if_neg (fun z => absurd z.2 (Nat.not_lt.mpr h))
theorem dQ_c (h : (dR gf gc ak S c I O).1 = true) (h2 : qn < 16) : dQ gf gc ak S c (qu, qn, I, O) = (upN qu qn c, qn + 1, (dR gf gc ak S c I O).2.1, (dR gf gc ak S c I O).2.2) := if_pos ⟨h, h2⟩
theorem dQ_le {j : jT} (h : j.2.1 ≤ 16) : (dQ gf gc ak S c j).2.1 ≤ 16 := by
  unfold dQ
  by_cases z : (dR gf gc ak S c j.2.2.1 j.2.2.2).1 = true ∧ j.2.1 < 16
  · rw [if_pos z]; exact z.2
  · rw [if_neg z]; exact h
theorem dQ_lt {j : jT} (hc : c < 16) (h : ∀ i, i < j.2.1 → j.1 i < 16) : ∀ i, i < (dQ gf gc ak S c j).2.1 → (dQ gf gc ak S c j).1 i < 16 := by
  unfold dQ
  by_cases z : (dR gf gc ak S c j.2.2.1 j.2.2.2).1 = true ∧ j.2.1 < 16
  · rw [if_pos z]
    intro i hi
    show (if i = j.2.1 then c else j.1 i) < 16
    by_cases e : i = j.2.1
    · rw [if_pos e]; exact hc
    · rw [if_neg e]; exact h i (by have : i < j.2.1 + 1 := hi; omega)
  · rw [if_neg z]; exact h
end DQ
def gO (gf gc ak : Nat → Int32) (S : Int32) (d : Nat) (j : jT) : Nat → jT
  | 0 => j
  | k + 1 => if bt (gc k ||| ak k) d = true then dQ gf gc ak S k (gO gf gc ak S d j k) else gO gf gc ak S d j k
section GO
variable {gf gc ak : Nat → Int32} {S : Int32} {d : Nat} {j : jT}
theorem gO_t {k : Nat} (h : bt (gc k ||| ak k) d = true) : gO gf gc ak S d j (k + 1) = dQ gf gc ak S k (gO gf gc ak S d j k) := if_pos h
theorem gO_f {k : Nat} (h : bt (gc k ||| ak k) d = false) : gO gf gc ak S d j (k + 1) = gO gf gc ak S d j k := if_neg (by rw [h]; decide)
theorem gO_le (h : j.2.1 ≤ 16) : ∀ k, (gO gf gc ak S d j k).2.1 ≤ 16
  | 0 => h
  | k + 1 => by
    cases c : bt (gc k ||| ak k) d with
    | true => rw [gO_t c]; exact dQ_le (gO_le h k)
    | false => rw [gO_f c]; exact gO_le h k
theorem gO_lt (h : ∀ i, i < j.2.1 → j.1 i < 16) : ∀ k, k ≤ 16 → ∀ i, i < (gO gf gc ak S d j k).2.1 → (gO gf gc ak S d j k).1 i < 16
  | 0, _ => h
  | k + 1, hk => by
    cases c : bt (gc k ||| ak k) d with
    | true => rw [gO_t c]; exact dQ_lt (by omega) (gO_lt h k (by omega))
    | false => rw [gO_f c]; exact gO_lt h k (by omega)
end GO
def aQ (gf gc ak : Nat → Int32) (S : Int32) (qu : Nat → Nat) : Nat → jT
  | 0 => (qu, 0, 0, 0)
  | k + 1 => dQ gf gc ak S k (aQ gf gc ak S qu k)
theorem aQ_le (gf gc ak : Nat → Int32) (S : Int32) (qu : Nat → Nat) : ∀ k, (aQ gf gc ak S qu k).2.1 ≤ 16
  | 0 => Nat.zero_le _
  | k + 1 => dQ_le (aQ_le gf gc ak S qu k)
theorem aQ_lt (gf gc ak : Nat → Int32) (S : Int32) (qu : Nat → Nat) : ∀ k, k ≤ 16 → ∀ i, i < (aQ gf gc ak S qu k).2.1 → (aQ gf gc ak S qu k).1 i < 16
  | 0, _ => fun i h => absurd h (Nat.not_lt_zero i)
  | k + 1, hk => dQ_lt (by omega) (aQ_lt gf gc ak S qu k (by omega))
def hQ (gf gc ak : Nat → Int32) (S : Int32) (n : Nat) : Nat → Nat → jT → jT
  | 0, _, j => j
  | f + 1, h, j => if h < j.2.1 then hQ gf gc ak S n f (h + 1) (gO gf gc ak S (j.1 h) j n) else j
section HQ
variable {gf gc ak : Nat → Int32} {S : Int32} {n : Nat}
theorem hQ_stop {f h : Nat} {j : jT} (z : j.2.1 ≤ h) : hQ gf gc ak S n f h j = j := by
  cases f with
  | zero => rfl
  | succ f => exact if_neg (Nat.not_lt.mpr z)
theorem hQ_end {h : Nat} {j : jT} (z : 16 ≤ h) : hQ gf gc ak S n (16 - h) h j = j := by rw [show 16 - h = 0 from by omega]; rfl
theorem hQ_go {h : Nat} {j : jT} (z : h < j.2.1) (z2 : h < 16) : hQ gf gc ak S n (16 - h) h j = hQ gf gc ak S n (16 - (h + 1)) (h + 1) (gO gf gc ak S (j.1 h) j n) := by
  rw [show 16 - h = (16 - (h + 1)) + 1 from by omega]
  exact if_pos z
end HQ
def jG (gf gc ak : Nat → Int32) (S : Int32) (n : Nat) (qu : Nat → Nat) : jT := hQ gf gc ak S n 16 0 (aQ gf gc ak S qu n)
/-- a round over the first k claims -/
def rF (gf gc ak : Nat → Int32) (S : Int32) (u : Int32 × Int32) : Nat → Bool × Int32 × Int32
  | 0 => (false, u.1, u.2)
  | k + 1 => ((rF gf gc ak S u k).1 || (dR gf gc ak S k (rF gf gc ak S u k).2.1 (rF gf gc ak S u k).2.2).1, (dR gf gc ak S k (rF gf gc ak S u k).2.1 (rF gf gc ak S u k).2.2).2)
def rL (gf gc ak : Nat → Int32) (S : Int32) (n : Nat) : Nat → Bool × Int32 × Int32 → Bool × Int32 × Int32
  | 0, t => t
  | f + 1, t => if t.1 = true then rL gf gc ak S n f (rF gf gc ak S t.2 n) else t
section RL
variable {gf gc ak : Nat → Int32} {S : Int32} {n : Nat}
theorem rL_stop {f : Nat} {t : Bool × Int32 × Int32} (z : t.1 = false) : rL gf gc ak S n f t = t := by
  cases f with
  | zero => rfl
  | succ f => exact if_neg (by rw [z]; decide)
theorem rL_end {h : Nat} {t : Bool × Int32 × Int32} (z : 16 ≤ h) : rL gf gc ak S n (16 - h) t = t := by rw [show 16 - h = 0 from by omega]; rfl
theorem rL_go {h : Nat} {t : Bool × Int32 × Int32} (z : t.1 = true) (z2 : h < 16) : rL gf gc ak S n (16 - h) t = rL gf gc ak S n (16 - (h + 1)) (rF gf gc ak S t.2 n) := by
  rw [show 16 - h = (16 - (h + 1)) + 1 from by omega]
  exact if_pos z
end RL
def rJ (gf gc ak : Nat → Int32) (S : Int32) (n : Nat) : Bool × Int32 × Int32 := rL gf gc ak S n 16 (true, 0, 0)
