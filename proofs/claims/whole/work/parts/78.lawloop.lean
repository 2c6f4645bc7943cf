set_option maxHeartbeats 8000000 in
set_option maxRecDepth 100000 in
theorem w_loop {p : Program} {l : Launch} {e : Env} {s : State} {m : MethodId} {below : List Frame} {meth : Method} {c : Code} {b L : Nat} {xs : Nat → Int32} {Q : State → Prop} (hl9 : l.stackTraces = false) (E : gE) (qX qR qK qS qJ qQ qD qO qG qC qA qB qM uF uS uW uB uO uG uR uK uT uP qL : Nat) (hC : lwC p s m c b L xs E) (hret : ∀ (H : Heap) (locs : List Loc) (ls : Array Slot) (cells slots : Nat), (∀ q ∈ locs, s.heap.size ≤ q.base) → cells ≤ 1057 → slots ≤ 8504 → W p l e room_1 s m #[Value.ref b] below meth c H locs cells slots Q (F0 m 1143 ls [])) : ∀ (z k : Nat), 3 * k ≤ L + 2 → L + 3 ≤ 3 * k + 3 * z → lwH p l e s m below meth c b E qX qR qK qS qJ qQ qD qO qG qC qA qB qM uF uS uW uB uO uG uR uK uT uP qL Q (3 * k) 23 (24 + k) (258 + 6 * k) := by
  intro z
  induction z with
  | zero => intro k h1 h2; exact absurd h2 (by omega)
  | succ z ih =>
    intro k hk1 hk2
    have hC9 := hC
    obtain ⟨hx, hb, hml, hown, hts, hX, hbl, hL, hK, hT⟩ := hC9
    intro cl rp nf wd fl src qn sf jI jO qu n sp ow gf gc ak bk th fb wb st ou hIv H locs ls hP hD hS hl
    refine lv_iload hx hb dL_law_23 (lv_at hl 4 rfl) ?_
    refine lv_aload_n hx hb dL_law_25 rfl (lv_at hl 0 rfl) ?_
    refine va_slen hx hb hX hbl (Nat.not_le.mpr hbl) hS dL_law_26 ?_
    refine lv_iconst (v := 3) hx hb dL_law_27 (by decide) ?_
    refine lv_isub hx hb dL_law_28 ?_
    refine lv_icmp_gt (tgt := 1143) hx hb dL_law_29 (by decide) (fun c9 => ?_) (fun c9 => ?_)
    · exact hret H locs ls _ _ hS.2.2 (by omega) (by omega)
    · have c9 : ¬ (nI L - 3 < nI (3 * k)) := c9
      by_cases h8 : 3 * k ≤ 2000
      · rw [ge3 h8 hL] at c9
        have kk : lwH p l e s m below meth c b E qX qR qK qS qJ qQ qD qO qG qC qA qB qM uF uS uW uB uO uG uR uK uT uP qL Q (3 * k) 1137 (24 + k + 1) (258 + 6 * k + 6) := by
          intro cl rp nf wd fl src qn sf jI jO qu n sp ow gf gc ak bk th fb wb st ou hIv H locs ls hP hD hS hl
          refine lv_iinc (v := nI (3 * (k + 1))) (lv' := [(4, .int (nI (3 * (k + 1)))), (0, .ref b), (1, .ref qX), (2, .ref qM), (3, .ref qL)]) hx hb dL_law_1137 hl (k := 4) rfl (nI_add (3 * k) 3) (by decide) rfl (fun ls hl => ?_)
          refine lv_goto (tgt := 23) hx hb dL_law_1140 (by decide) ?_
          by_cases h9 : 3 * (k + 1) ≤ L + 2
          · exact W.widen (k := 24 + (k + 1)) (n := 258 + 6 * (k + 1)) (by omega) (by omega) (ih (k + 1) h9 (by omega) cl rp nf wd fl src qn sf jI jO qu n sp ow gf gc ak bk th fb wb st ou hIv H locs ls hP hD hS (lv_sub hl [1, 2, 3, 4, 0] rfl))
          · exact absurd h9 (by omega)
        refine lv_aload_n hx hb dL_law_32 rfl (lv_at hl 0 rfl) ?_
        refine lv_iload hx hb dL_law_33 (lv_at hl 4 rfl) ?_
        refine k_sld hx hb hX hbl hS (3 * k) (v := xs (3 * k)) rfl (by omega) hL dL_law_35 ?_
        refine lv_bipush (v := 31) hx hb dL_law_36 (by decide) ?_
        refine lv_iand hx hb dL_law_38 ?_
        generalize xs (3 * k) &&& 31 = x
        by_cases g0 : x.toInt = 0
        · exact lv_tableIn (off := 97) (tgt := 136) hx hb dL_law_39 (by rw [g0]; decide) (by rw [g0]; decide) (by rw [g0]; rfl) (by decide) (w_addFact hl9 E qX qR qK qS qJ qQ qD qO qG qC qA qB qM uF uS uW uB uO uG uR uK uT uP qL hC (3 * k) (24 + k) (258 + 6 * k) (by omega) (by omega) (by omega) kk cl rp nf wd fl src qn sf jI jO qu n sp ow gf gc ak bk th fb wb st ou hIv H locs ls hP hD hS hl)
        by_cases g1 : x.toInt = 1
        · exact lv_tableIn (off := 153) (tgt := 192) hx hb dL_law_39 (by rw [g1]; decide) (by rw [g1]; decide) (by rw [g1]; rfl) (by decide) (w_toggleSource hl9 E qX qR qK qS qJ qQ qD qO qG qC qA qB qM uF uS uW uB uO uG uR uK uT uP qL hC (3 * k) (24 + k) (258 + 6 * k) (by omega) (by omega) (by omega) kk cl rp nf wd fl src qn sf jI jO qu n sp ow gf gc ak bk th fb wb st ou hIv H locs ls hP hD hS hl)
        by_cases g2 : x.toInt = 2
        · exact lv_tableIn (off := 216) (tgt := 255) hx hb dL_law_39 (by rw [g2]; decide) (by rw [g2]; decide) (by rw [g2]; rfl) (by decide) (w_withdraw hl9 E qX qR qK qS qJ qQ qD qO qG qC qA qB qM uF uS uW uB uO uG uR uK uT uP qL hC (3 * k) (24 + k) (258 + 6 * k) (by omega) (by omega) (by omega) kk cl rp nf wd fl src qn sf jI jO qu n sp ow gf gc ak bk th fb wb st ou hIv H locs ls hP hD hS hl)
        by_cases g3 : x.toInt = 3
        · exact lv_tableIn (off := 279) (tgt := 318) hx hb dL_law_39 (by rw [g3]; decide) (by rw [g3]; decide) (by rw [g3]; rfl) (by decide) (w_factStands hl9 E qX qR qK qS qJ qQ qD qO qG qC qA qB qM uF uS uW uB uO uG uR uK uT uP qL hC (3 * k) (24 + k) (258 + 6 * k) (by omega) (by omega) (by omega) kk cl rp nf wd fl src qn sf jI jO qu n sp ow gf gc ak bk th fb wb st ou hIv H locs ls hP hD hS hl)
        by_cases g4 : x.toInt = 4
        · exact lv_tableIn (off := 342) (tgt := 381) hx hb dL_law_39 (by rw [g4]; decide) (by rw [g4]; decide) (by rw [g4]; rfl) (by decide) (w_facts hl9 E qX qR qK qS qJ qQ qD qO qG qC qA qB qM uF uS uW uB uO uG uR uK uT uP qL hC (3 * k) (24 + k) (258 + 6 * k) (by omega) (by omega) (by omega) kk cl rp nf wd fl src qn sf jI jO qu n sp ow gf gc ak bk th fb wb st ou hIv H locs ls hP hD hS hl)
        by_cases g5 : x.toInt = 5
        · exact lv_tableIn (off := 355) (tgt := 394) hx hb dL_law_39 (by rw [g5]; decide) (by rw [g5]; decide) (by rw [g5]; rfl) (by decide) (w_claim hl9 E qX qR qK qS qJ qQ qD qO qG qC qA qB qM uF uS uW uB uO uG uR uK uT uP qL hC (3 * k) (24 + k) (258 + 6 * k) (by omega) (by omega) (by omega) kk cl rp nf wd fl src qn sf jI jO qu n sp ow gf gc ak bk th fb wb st ou hIv H locs ls hP hD hS hl)
        by_cases g6 : x.toInt = 6
        · exact lv_tableIn (off := 423) (tgt := 462) hx hb dL_law_39 (by rw [g6]; decide) (by rw [g6]; decide) (by rw [g6]; rfl) (by decide) (w_skip hl9 E qX qR qK qS qJ qQ qD qO qG qC qA qB qM uF uS uW uB uO uG uR uK uT uP qL hC (3 * k) (24 + k) (258 + 6 * k) (by omega) (by omega) (by omega) kk cl rp nf wd fl src qn sf jI jO qu n sp ow gf gc ak bk th fb wb st ou hIv H locs ls hP hD hS hl)
        by_cases g7 : x.toInt = 7
        · exact lv_tableIn (off := 436) (tgt := 475) hx hb dL_law_39 (by rw [g7]; decide) (by rw [g7]; decide) (by rw [g7]; rfl) (by decide) (w_rest hl9 E qX qR qK qS qJ qQ qD qO qG qC qA qB qM uF uS uW uB uO uG uR uK uT uP qL hC (3 * k) (24 + k) (258 + 6 * k) (by omega) (by omega) (by omega) kk cl rp nf wd fl src qn sf jI jO qu n sp ow gf gc ak bk th fb wb st ou hIv H locs ls hP hD hS hl)
        by_cases g8 : x.toInt = 8
        · exact lv_tableIn (off := 511) (tgt := 550) hx hb dL_law_39 (by rw [g8]; decide) (by rw [g8]; decide) (by rw [g8]; rfl) (by decide) (w_attack hl9 E qX qR qK qS qJ qQ qD qO qG qC qA qB qM uF uS uW uB uO uG uR uK uT uP qL hC (3 * k) (24 + k) (258 + 6 * k) (by omega) (by omega) (by omega) kk cl rp nf wd fl src qn sf jI jO qu n sp ow gf gc ak bk th fb wb st ou hIv H locs ls hP hD hS hl)
        by_cases g9 : x.toInt = 9
        · exact lv_tableIn (off := 586) (tgt := 625) hx hb dL_law_39 (by rw [g9]; decide) (by rw [g9]; decide) (by rw [g9]; rfl) (by decide) (w_claims hl9 E qX qR qK qS qJ qQ qD qO qG qC qA qB qM uF uS uW uB uO uG uR uK uT uP qL hC (3 * k) (24 + k) (258 + 6 * k) (by omega) (by omega) (by omega) kk cl rp nf wd fl src qn sf jI jO qu n sp ow gf gc ak bk th fb wb st ou hIv H locs ls hP hD hS hl)
        by_cases g10 : x.toInt = 10
        · exact lv_tableIn (off := 599) (tgt := 638) hx hb dL_law_39 (by rw [g10]; decide) (by rw [g10]; decide) (by rw [g10]; rfl) (by decide) (w_playerOf hl9 E qX qR qK qS qJ qQ qD qO qG qC qA qB qM uF uS uW uB uO uG uR uK uT uP qL hC (3 * k) (24 + k) (258 + 6 * k) (by omega) (by omega) (by omega) kk cl rp nf wd fl src qn sf jI jO qu n sp ow gf gc ak bk th fb wb st ou hIv H locs ls hP hD hS hl)
        by_cases g11 : x.toInt = 11
        · exact lv_tableIn (off := 655) (tgt := 694) hx hb dL_law_39 (by rw [g11]; decide) (by rw [g11]; decide) (by rw [g11]; rfl) (by decide) (w_turn hl9 E qX qR qK qS qJ qQ qD qO qG qC qA qB qM uF uS uW uB uO uG uR uK uT uP qL hC (3 * k) (24 + k) (258 + 6 * k) (by omega) (by omega) (by omega) kk cl rp nf wd fl src qn sf jI jO qu n sp ow gf gc ak bk th fb wb st ou hIv H locs ls hP hD hS hl)
        by_cases g12 : x.toInt = 12
        · exact lv_tableIn (off := 668) (tgt := 707) hx hb dL_law_39 (by rw [g12]; decide) (by rw [g12]; decide) (by rw [g12]; rfl) (by decide) (w_bank hl9 E qX qR qK qS qJ qQ qD qO qG qC qA qB qM uF uS uW uB uO uG uR uK uT uP qL hC (3 * k) (24 + k) (258 + 6 * k) (by omega) (by omega) (by omega) kk cl rp nf wd fl src qn sf jI jO qu n sp ow gf gc ak bk th fb wb st ou hIv H locs ls hP hD hS hl)
        by_cases g13 : x.toInt = 13
        · exact lv_tableIn (off := 724) (tgt := 763) hx hb dL_law_39 (by rw [g13]; decide) (by rw [g13]; decide) (by rw [g13]; rfl) (by decide) (w_stateOf hl9 E qX qR qK qS qJ qQ qD qO qG qC qA qB qM uF uS uW uB uO uG uR uK uT uP qL hC (3 * k) (24 + k) (258 + 6 * k) (by omega) (by omega) (by omega) kk cl rp nf wd fl src qn sf jI jO qu n sp ow gf gc ak bk th fb wb st ou hIv H locs ls hP hD hS hl)
        by_cases g14 : x.toInt = 14
        · exact lv_tableIn (off := 780) (tgt := 819) hx hb dL_law_39 (by rw [g14]; decide) (by rw [g14]; decide) (by rw [g14]; rfl) (by decide) (w_stateByRounds hl9 E qX qR qK qS qJ qQ qD qO qG qC qA qB qM uF uS uW uB uO uG uR uK uT uP qL hC (3 * k) (24 + k) (258 + 6 * k) (by omega) (by omega) (by omega) kk cl rp nf wd fl src qn sf jI jO qu n sp ow gf gc ak bk th fb wb st ou hIv H locs ls hP hD hS hl)
        by_cases g15 : x.toInt = 15
        · exact lv_tableIn (off := 836) (tgt := 875) hx hb dL_law_39 (by rw [g15]; decide) (by rw [g15]; decide) (by rw [g15]; rfl) (by decide) (w_score hl9 E qX qR qK qS qJ qQ qD qO qG qC qA qB qM uF uS uW uB uO uG uR uK uT uP qL hC (3 * k) (24 + k) (258 + 6 * k) (by omega) (by omega) (by omega) kk cl rp nf wd fl src qn sf jI jO qu n sp ow gf gc ak bk th fb wb st ou hIv H locs ls hP hD hS hl)
        by_cases g16 : x.toInt = 16
        · exact lv_tableIn (off := 892) (tgt := 931) hx hb dL_law_39 (by rw [g16]; decide) (by rw [g16]; decide) (by rw [g16]; rfl) (by decide) (w_scoreWithout hl9 E qX qR qK qS qJ qQ qD qO qG qC qA qB qM uF uS uW uB uO uG uR uK uT uP qL hC (3 * k) (24 + k) (258 + 6 * k) (by omega) (by omega) (by omega) kk cl rp nf wd fl src qn sf jI jO qu n sp ow gf gc ak bk th fb wb st ou hIv H locs ls hP hD hS hl)
        by_cases g17 : x.toInt = 17
        · exact lv_tableIn (off := 960) (tgt := 999) hx hb dL_law_39 (by rw [g17]; decide) (by rw [g17]; decide) (by rw [g17]; rfl) (by decide) (w_keyFact hl9 E qX qR qK qS qJ qQ qD qO qG qC qA qB qM uF uS uW uB uO uG uR uK uT uP qL hC (3 * k) (24 + k) (258 + 6 * k) (by omega) (by omega) (by omega) kk cl rp nf wd fl src qn sf jI jO qu n sp ow gf gc ak bk th fb wb st ou hIv H locs ls hP hD hS hl)
        by_cases g18 : x.toInt = 18
        · exact lv_tableIn (off := 1016) (tgt := 1055) hx hb dL_law_39 (by rw [g18]; decide) (by rw [g18]; decide) (by rw [g18]; rfl) (by decide) (w_verdict hl9 E qX qR qK qS qJ qQ qD qO qG qC qA qB qM uF uS uW uB uO uG uR uK uT uP qL hC (3 * k) (24 + k) (258 + 6 * k) (by omega) (by omega) (by omega) kk cl rp nf wd fl src qn sf jI jO qu n sp ow gf gc ak bk th fb wb st ou hIv H locs ls hP hD hS hl)
        by_cases g19 : x.toInt = 19
        · exact lv_tableIn (off := 1029) (tgt := 1068) hx hb dL_law_39 (by rw [g19]; decide) (by rw [g19]; decide) (by rw [g19]; rfl) (by decide) (w_close hl9 E qX qR qK qS qJ qQ qD qO qG qC qA qB qM uF uS uW uB uO uG uR uK uT uP qL hC (3 * k) (24 + k) (258 + 6 * k) (by omega) (by omega) (by omega) kk cl rp nf wd fl src qn sf jI jO qu n sp ow gf gc ak bk th fb wb st ou hIv H locs ls hP hD hS hl)
        by_cases g20 : x.toInt = 20
        · exact lv_tableIn (off := 1042) (tgt := 1081) hx hb dL_law_39 (by rw [g20]; decide) (by rw [g20]; decide) (by rw [g20]; rfl) (by decide) (w_reputation hl9 E qX qR qK qS qJ qQ qD qO qG qC qA qB qM uF uS uW uB uO uG uR uK uT uP qL hC (3 * k) (24 + k) (258 + 6 * k) (by omega) (by omega) (by omega) kk cl rp nf wd fl src qn sf jI jO qu n sp ow gf gc ak bk th fb wb st ou hIv H locs ls hP hD hS hl)
        exact lv_tableOut (tgt := 1137) hx hb dL_law_39 (by omega) (by decide) (W.widen (k := 24 + k + 1) (n := 258 + 6 * k + 6) (by omega) (by omega) (kk cl rp nf wd fl src qn sf jI jO qu n sp ow gf gc ak bk th fb wb st ou hIv H locs ls hP hD hS hl))
      · exact absurd h8 (by omega)
