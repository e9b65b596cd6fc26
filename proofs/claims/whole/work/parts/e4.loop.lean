/-! ===== the law's loop ===== -/
theorem and31 (x : Int32) : ∃ j, j < 32 ∧ x &&& nI 31 = nI j := by
  refine ⟨(x.toBitVec &&& 31#32).toNat, ?_, ?_⟩
  · rw [BitVec.toNat_and]
    have := Nat.and_le_right (n := x.toBitVec.toNat) (m := (31#32).toNat)
    have e : (31#32).toNat = 31 := by decide
    omega
  · apply Int32.toBitVec_inj.mp
    rw [Int32.toBitVec_and]
    show x.toBitVec &&& 31#32 = BitVec.ofNat 32 (x.toBitVec &&& 31#32).toNat
    rw [BitVec.ofNat_toNat, BitVec.setWidth_eq]
theorem lw_end {adK : Nat → Nat} {bc bs : Nat} {h : List pnE} {L : List (Option Value)} : pnWP mL_law adK 104 QL bc bs h L [] 1423 := by
  refine pn_iconst (q := 1424) (v := nI 1) dL_law_1423 rfl (by decide) ?_
  refine pn_tret (b := true) _ rfl dL_law_1424 rfl ?_
  exact rfl
set_option maxRecDepth 100000 in
theorem lw_case {adK : Nat → Nat} {hX hY : List pnE} {o : Nat → Int64} {i t bc bs E F j : Nat} (hn : adK 2001 ≤ 3072) (hi : i + 6 ≤ adK 2001) (hL : LIw hX hY t bc bs) (kk : LK adK i E F) (hj : j < 32) : pnWP mL_law adK 104 QL (bc + 1 + E) (bs + 6 + F) (HW hX hY o) (LL adK i) [.int (nI j)] 40 := by
  have hc : j = 0 ∨ j = 1 ∨ j = 2 ∨ j = 3 ∨ j = 4 ∨ j = 5 ∨ j = 6 ∨ j = 7 ∨ j = 8 ∨ j = 9 ∨ j = 10 ∨ j = 11 ∨ j = 12 ∨ j = 13 ∨ j = 14 ∨ j = 15 ∨ j = 16 ∨ j = 17 ∨ j = 18 ∨ j = 19 ∨ j = 20 ∨ j = 21 ∨ j = 22 ∨ j = 23 ∨ j = 24 ∨ 25 ≤ j := by omega
  rcases hc with rfl | rfl | rfl | rfl | rfl | rfl | rfl | rfl | rfl | rfl | rfl | rfl | rfl | rfl | rfl | rfl | rfl | rfl | rfl | rfl | rfl | rfl | rfl | rfl | rfl | hj2
  · refine pn_tabIn (q := 156) (off := 116) dL_law_40 (by decide) (by decide) (by decide) (by decide) ?_
    exact lc_feed hn hi hL kk
  · refine pn_tabIn (q := 229) (off := 189) dL_law_40 (by decide) (by decide) (by decide) (by decide) ?_
    exact lc_text hn hi hL kk
  · refine pn_tabIn (q := 285) (off := 245) dL_law_40 (by decide) (by decide) (by decide) (by decide) ?_
    exact lc_fault hn hi hL kk
  · refine pn_tabIn (q := 298) (off := 258) dL_law_40 (by decide) (by decide) (by decide) (by decide) ?_
    exact lc_put hn hi hL kk
  · refine pn_tabIn (q := 402) (off := 362) dL_law_40 (by decide) (by decide) (by decide) (by decide) ?_
    exact lc_take hn hi hL kk
  · refine pn_tabIn (q := 458) (off := 418) dL_law_40 (by decide) (by decide) (by decide) (by decide) ?_
    exact lc_exchange hn hi hL kk
  · refine pn_tabIn (q := 538) (off := 498) dL_law_40 (by decide) (by decide) (by decide) (by decide) ?_
    exact lc_finish hn hi hL kk
  · refine pn_tabIn (q := 551) (off := 511) dL_law_40 (by decide) (by decide) (by decide) (by decide) ?_
    exact lc_develop hn hi hL kk
  · refine pn_tabIn (q := 595) (off := 555) dL_law_40 (by decide) (by decide) (by decide) (by decide) ?_
    exact lc_undo hn hi hL kk
  · refine pn_tabIn (q := 608) (off := 568) dL_law_40 (by decide) (by decide) (by decide) (by decide) ?_
    exact lc_told hn hi hL kk
  · refine pn_tabIn (q := 664) (off := 624) dL_law_40 (by decide) (by decide) (by decide) (by decide) ?_
    exact lc_line hn hi hL kk
  · refine pn_tabIn (q := 744) (off := 704) dL_law_40 (by decide) (by decide) (by decide) (by decide) ?_
    exact lc_node hn hi hL kk
  · refine pn_tabIn (q := 812) (off := 772) dL_law_40 (by decide) (by decide) (by decide) (by decide) ?_
    exact lc_part hn hi hL kk
  · refine pn_tabIn (q := 880) (off := 840) dL_law_40 (by decide) (by decide) (by decide) (by decide) ?_
    exact lc_left hn hi hL kk
  · refine pn_tabIn (q := 894) (off := 854) dL_law_40 (by decide) (by decide) (by decide) (by decide) ?_
    exact lc_parts hn hi hL kk
  · refine pn_tabIn (q := 950) (off := 910) dL_law_40 (by decide) (by decide) (by decide) (by decide) ?_
    exact lc_partAt hn hi hL kk
  · refine pn_tabIn (q := 1005) (off := 965) dL_law_40 (by decide) (by decide) (by decide) (by decide) ?_
    exact lc_tests hn hi hL kk
  · refine pn_tabIn (q := 1018) (off := 978) dL_law_40 (by decide) (by decide) (by decide) (by decide) ?_
    exact lc_search hn hi hL kk
  · refine pn_tabIn (q := 1074) (off := 1034) dL_law_40 (by decide) (by decide) (by decide) (by decide) ?_
    exact lc_exchanges hn hi hL kk
  · refine pn_tabIn (q := 1142) (off := 1102) dL_law_40 (by decide) (by decide) (by decide) (by decide) ?_
    exact lc_classes hn hi hL kk
  · refine pn_tabIn (q := 1186) (off := 1146) dL_law_40 (by decide) (by decide) (by decide) (by decide) ?_
    exact lc_cover hn hi hL kk
  · refine pn_tabIn (q := 1254) (off := 1214) dL_law_40 (by decide) (by decide) (by decide) (by decide) ?_
    exact lc_good hn hi hL kk
  · refine pn_tabIn (q := 1310) (off := 1270) dL_law_40 (by decide) (by decide) (by decide) (by decide) ?_
    exact lc_base hn hi hL kk
  · refine pn_tabIn (q := 1378) (off := 1338) dL_law_40 (by decide) (by decide) (by decide) (by decide) ?_
    exact lc_print hn hi hL kk
  · refine pn_tabIn (q := 1392) (off := 1352) dL_law_40 (by decide) (by decide) (by decide) (by decide) ?_
    exact lc_status hn hi hL kk
  · refine pn_tabOut (q := 1417) dL_law_40 (Or.inr (by rw [nI_toInt (by omega)]; omega)) (by decide) ?_
    exact pn_bud (kk hX hY o t bc bs hL) (by omega) (by omega)
theorem nI_add6 (i : Nat) : nI i + nI 6 = nI (i + 6) := by
  apply Int32.toBitVec_inj.mp
  rw [Int32.toBitVec_add]
  show BitVec.ofNat 32 i + BitVec.ofNat 32 6 = BitVec.ofNat 32 (i + 6)
  rw [BitVec.ofNat_add]
theorem lw_loop {adK : Nat → Nat} (hn : adK 2001 ≤ 3072) : ∀ (r i : Nat) (hX hY : List pnE) (o : Nat → Int64) (t bc bs : Nat), LIw hX hY t bc bs → adK 2001 < i + 6 * r + 6 → i ≤ 4000 → pnWP mL_law adK 104 QL (bc + r) (bs + 6 * r) (HW hX hY o) (LL adK i) [] 23 := by
  intro r
  induction r with
  | zero =>
    intro i hX hY o t bc bs hL hi h4
    refine pn_iload (q := 25) dL_law_23 rfl rfl ?_
    refine pn_aload_n (q := 26) dL_law_25 rfl rfl rfl ?_
    refine pn_slen (q := 27) dL_law_26 rfl ?_
    refine pn_bipush (q := 29) (v := nI 6) dL_law_27 rfl (by decide) ?_
    refine pn_isub (q := 30) dL_law_29 rfl ?_
    refine pn_icmp_gt (q := 33) (tgt := 1423) dL_law_30 (by decide) rfl (fun _ => lw_end) (fun hc => absurd ?_ hc)
    rw [Int32.lt_iff_toInt_lt, pk_sub_toInt (by omega) (by omega), nI_toInt (by omega)]
    omega
  | succ r ih =>
    intro i hX hY o t bc bs hL hi h4
    refine pn_iload (q := 25) dL_law_23 rfl rfl ?_
    refine pn_aload_n (q := 26) dL_law_25 rfl rfl rfl ?_
    refine pn_slen (q := 27) dL_law_26 rfl ?_
    refine pn_bipush (q := 29) (v := nI 6) dL_law_27 rfl (by decide) ?_
    refine pn_isub (q := 30) dL_law_29 rfl ?_
    refine pn_icmp_gt (q := 33) (tgt := 1423) dL_law_30 (by decide) rfl (fun _ => lw_end) (fun hc => ?_)
    have h6 : i + 6 ≤ adK 2001 := by
      rw [Int32.lt_iff_toInt_lt, pk_sub_toInt (by omega) (by omega), nI_toInt (by omega)] at hc
      omega
    refine pn_aload_n (q := 34) dL_law_33 rfl rfl rfl ?_
    refine pn_iload (q := 36) dL_law_34 rfl rfl ?_
    refine pn_sld (q := 37) dL_law_36 rfl (by omega) hn ?_
    refine pn_bipush (q := 39) (v := nI 31) dL_law_37 rfl (by decide) ?_
    refine pn_iand (q := 40) dL_law_39 rfl ?_
    obtain ⟨j, hj, ej⟩ := and31 (nI (adK (3000 + i)))
    rw [ej]
    have kk : LK adK i r (6 * r) := fun hX' hY' o' t' bc' bs' hL' => by
      refine pn_iinc (q := 1420) (mm := nI 6) dL_law_1417 rfl rfl (by decide) (by decide) ?_
      rw [nI_add6]
      refine pn_goto (q := 23) dL_law_1420 (by decide) ?_
      exact ih (i + 6) hX' hY' o' t' bc' bs' hL' (by omega) (by omega)
    exact pn_bud (lw_case hn h6 hL kk hj) (by omega) (by omega)
