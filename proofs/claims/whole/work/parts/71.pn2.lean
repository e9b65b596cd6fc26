theorem nI_gap {w : Int32} {m : Nat} (hm : m < 1000000) (h : nI (m + 1) ≤ w) : ¬ w ≤ nI m := by
  rw [Int32.le_iff_toInt_le, nI_toInt (by omega)] at h ⊢
  omega
theorem nI_gapL {w : Int32} {m : Nat} (hm : m < 1000000) (h : nI m ≤ w) : ¬ w < nI m := by
  rw [Int32.le_iff_toInt_le, nI_toInt (by omega)] at h
  rw [Int32.lt_iff_toInt_lt, nI_toInt (by omega)]
  omega
theorem neg_lt {w : Int32} {m : Nat} (hm : m < 1000000) (h : w < 0) : w < nI m := by
  rw [Int32.lt_iff_toInt_lt] at h ⊢
  rw [nI_toInt (by omega)]
  have : (0 : Int32).toInt = 0 := rfl
  omega
set_option maxRecDepth 100000 in
theorem p_requireNode (adK : Nat → Nat) (d : Nat) (b : Nat → Int32) (tp : Nat) (fp : Int32) (N : NS) (A : AS) (Q : QS) (C : CS) (W : WS) (Z : SS) (ask : Nat → Int32) (rf : Nat → Nat) (hq : Q.1 = 8 ∨ Q.1 = 9) (x : Int32) (hn : N.1 ≤ 11) (hx : hasN N.1 x = true) : pnCt mX6_requireNode adK (d + 1) 0 0 [.ref 0, .int x] (hP b tp fp N A Q C W Z ask rf) (pnIs (.inl none) (hP b tp fp N A Q C W Z ask rf)) := by
  refine pnCt_of (by decide) kX6_requireNode (Nat.le_of_ble_eq_true rfl) rfl (hP_cl hq) (pnCS_b rfl) ?_
  have C0 := c_hasNode adK d N.1 N.2.1 N.2.2.1 N.2.2.2.1 N.2.2.2.2.1 N.2.2.2.2.2.1 N.2.2.2.2.2.2.1 N.2.2.2.2.2.2.2.1 N.2.2.2.2.2.2.2.2 x (by omega)
  rw [hx] at C0
  refine pn_aload_n (q := 1) dX6_requireNode_0 rfl rfl rfl ?_
  refine pn_get (q := 4) fX6_23 dX6_requireNode_1 rfl rfl rfl ?_
  refine pn_iload_n (q := 5) dX6_requireNode_4 rfl rfl ?_
  refine pn_roV1 (q := 8) (C0) lkX6_217 dX6_requireNode_5 rfl rfl (pnSel_of (I := [2, 3, 4, 5]) rfl rfl) (pnFree_none rfl) rfl rfl rfl (by omega) (Nat.le_of_ble_eq_true rfl) rfl ?_
  refine pn_bne (q := 11) (tgt := 31) dX6_requireNode_8 (by decide) rfl (fun hc8 => ?_) (fun hc8 => ?_)
  · refine pn_vret dX6_requireNode_31 rfl ?_
    exact ⟨rfl, rfl⟩
  · cases hc8
set_option maxRecDepth 100000 in
theorem p_requireNodeX (adK : Nat → Nat) (d : Nat) (b : Nat → Int32) (tp : Nat) (fp : Int32) (N : NS) (A : AS) (Q : QS) (C : CS) (W : WS) (Z : SS) (ask : Nat → Int32) (rf : Nat → Nat) (hq : Q.1 = 8 ∨ Q.1 = 9) (x : Int32) (hn : N.1 ≤ 11) (hx : hasN N.1 x = false) : pnCt mX6_requireNode adK (d + 6) 1 6 [.ref 0, .int x] (hP b tp fp N A Q C W Z ask rf) (pnIs (.inr "java/util/NoSuchElementException") (hP b tp fp N A Q C W Z ask (updN rf 0 (rf 0 + 1)))) := by
  refine pnCt_of (by decide) kX6_requireNode (Nat.le_of_ble_eq_true rfl) rfl (hP_cl hq) (pnCS_b rfl) ?_
  have C0 := c_hasNode adK d N.1 N.2.1 N.2.2.1 N.2.2.2.1 N.2.2.2.2.1 N.2.2.2.2.2.1 N.2.2.2.2.2.2.1 N.2.2.2.2.2.2.2.1 N.2.2.2.2.2.2.2.2 x (by omega)
  rw [hx] at C0
  refine pn_aload_n (q := 1) dX6_requireNode_0 rfl rfl rfl ?_
  refine pn_get (q := 4) fX6_23 dX6_requireNode_1 rfl rfl rfl ?_
  refine pn_iload_n (q := 5) dX6_requireNode_4 rfl rfl ?_
  refine pn_roV1 (q := 8) (C0) lkX6_217 dX6_requireNode_5 rfl rfl (pnSel_of (I := [2, 3, 4, 5]) rfl rfl) (pnFree_none rfl) rfl rfl rfl (by omega) (Nat.le_of_ble_eq_true rfl) rfl ?_
  refine pn_bne (q := 11) (tgt := 31) dX6_requireNode_8 (by decide) rfl (fun hc8 => ?_) (fun hc8 => ?_)
  · cases hc8
  · refine pn_aload_n (q := 12) dX6_requireNode_11 rfl rfl rfl ?_
    refine pn_get (q := 15) fX6_66 dX6_requireNode_12 rfl rfl rfl ?_
    refine pn_iconst (q := 16) (v := nI 0) dX6_requireNode_15 rfl (by decide) ?_
    first | refine pn_dup2 (q := 17) dX6_requireNode_16 rfl rfl rfl ?_ | refine pn_dup2l (q := 17) dX6_requireNode_16 rfl ?_
    refine pn_iald (q := 18) dX6_requireNode_17 rfl rfl rfl (by omega) (by first | decide | omega) ?_
    refine pn_iconst (q := 19) (v := nI 1) dX6_requireNode_18 rfl (by decide) ?_
    first | with_reducible refine pn_iaddN (q := 20) dX6_requireNode_19 rfl ?_ | refine pn_iadd (q := 20) dX6_requireNode_19 rfl ?_
    refine pn_iast (q := 21) dX6_requireNode_20 rfl rfl rfl (by omega) (by first | decide | omega) ?_; rw [updN_nI]
    refine pn_bud (bc' := 0 + 1) (bs' := 0 + 6) ?_ (by omega) (by omega)
    exact pn_thrNS (j := 19) rfl xf_nse pw_841 pw_98 (pnOkW_of xw_nse) xg_nse dX6_requireNode_21 dX6_requireNode_24 dX6_requireNode_25 dX6_requireNode_27 dX6_requireNode_30 rfl (by omega) (Nat.le_of_ble_eq_true rfl) (⟨rfl, rfl⟩)
set_option maxRecDepth 100000 in
theorem p_requireWhat (adK : Nat → Nat) (d : Nat) (b : Nat → Int32) (tp : Nat) (fp : Int32) (N : NS) (A : AS) (Q : QS) (C : CS) (W : WS) (Z : SS) (ask : Nat → Int32) (rf : Nat → Nat) (hq : Q.1 = 8 ∨ Q.1 = 9) (j m : Nat) (hj : j ≤ m) (hm : m ≤ 1000) : pnCt mX6_requireWhat adK d 0 0 [.ref 0, .int (nI j), .int (nI m)] (hP b tp fp N A Q C W Z ask rf) (pnIs (.inl none) (hP b tp fp N A Q C W Z ask rf)) := by
  refine pnCt_of (by decide) kX6_requireWhat (Nat.le_of_ble_eq_true rfl) rfl (hP_cl hq) (pnCS_b rfl) ?_
  refine pn_iload_n (q := 1) dX6_requireWhat_0 rfl rfl ?_
  first | refine pn_zlt (q := 4) (tgt := 9) dX6_requireWhat_1 (by decide) rfl (by omega) (fun hc1 => ?_) (fun hc1 => ?_) | refine pn_if_lt (q := 4) (tgt := 9) dX6_requireWhat_1 (by decide) rfl (fun hc1 => ?_) (fun hc1 => ?_)
  · exact hc1.elim
  · refine pn_iload_n (q := 5) dX6_requireWhat_4 rfl rfl ?_
    refine pn_iload_n (q := 6) dX6_requireWhat_5 rfl rfl ?_
    first | refine pn_nle (q := 9) (tgt := 29) dX6_requireWhat_6 (by decide) rfl (by omega) (by omega) (fun hc6 => ?_) (fun hc6 => ?_) | refine pn_icmp_le (q := 9) (tgt := 29) dX6_requireWhat_6 (by decide) rfl (fun hc6 => ?_) (fun hc6 => ?_)
    · refine pn_vret dX6_requireWhat_29 rfl ?_
      exact ⟨rfl, rfl⟩
    · omega
set_option maxRecDepth 100000 in
theorem p_requireWhatX (adK : Nat → Nat) (d : Nat) (b : Nat → Int32) (tp : Nat) (fp : Int32) (N : NS) (A : AS) (Q : QS) (C : CS) (W : WS) (Z : SS) (ask : Nat → Int32) (rf : Nat → Nat) (hq : Q.1 = 8 ∨ Q.1 = 9) (w : Int32) (m : Nat) (hw : hasN (m + 1) w = false) (hm : m ≤ 1000) : pnCt mX6_requireWhat adK (d + 6) 1 6 [.ref 0, .int w, .int (nI m)] (hP b tp fp N A Q C W Z ask rf) (pnIs (.inr "java/lang/IllegalArgumentException") (hP b tp fp N A Q C W Z ask (updN rf 1 (rf 1 + 1)))) := by
  refine pnCt_of (by decide) kX6_requireWhat (Nat.le_of_ble_eq_true rfl) rfl (hP_cl hq) (pnCS_b rfl) ?_
  rcases hasN_cases w (m + 1) (by omega) with ⟨h1, -⟩ | ⟨h1, h2, -⟩ | ⟨j, -, -, h1⟩
  · refine pn_iload_n (q := 1) dX6_requireWhat_0 rfl rfl ?_
    refine pn_if_lt (q := 4) (tgt := 9) dX6_requireWhat_1 (by decide) rfl (fun hc1 => ?_) (fun hc1 => ?_)
    · refine pn_aload_n (q := 10) dX6_requireWhat_9 rfl rfl rfl ?_
      refine pn_get (q := 13) fX6_66 dX6_requireWhat_10 rfl rfl rfl ?_
      refine pn_iconst (q := 14) (v := nI 1) dX6_requireWhat_13 rfl (by decide) ?_
      first | refine pn_dup2 (q := 15) dX6_requireWhat_14 rfl rfl rfl ?_ | refine pn_dup2l (q := 15) dX6_requireWhat_14 rfl ?_
      refine pn_iald (q := 16) dX6_requireWhat_15 rfl rfl rfl (by omega) (by first | decide | omega) ?_
      refine pn_iconst (q := 17) (v := nI 1) dX6_requireWhat_16 rfl (by decide) ?_
      first | with_reducible refine pn_iaddN (q := 18) dX6_requireWhat_17 rfl ?_ | refine pn_iadd (q := 18) dX6_requireWhat_17 rfl ?_
      refine pn_iast (q := 19) dX6_requireWhat_18 rfl rfl rfl (by omega) (by first | decide | omega) ?_; rw [updN_nI]
      refine pn_bud (bc' := 0 + 1) (bs' := 0 + 6) ?_ (by omega) (by omega)
      exact pn_thrS (j := 18) rfl xf_iae xf_RE rfl pw_567 pw_89 (pnOkW_of xw_iae) xg_iae dX6_requireWhat_19 dX6_requireWhat_22 dX6_requireWhat_23 dX6_requireWhat_25 dX6_requireWhat_28 rfl (by omega) (Nat.le_of_ble_eq_true rfl) (⟨rfl, rfl⟩)
    · exact (hc1 h1).elim
  · refine pn_iload_n (q := 1) dX6_requireWhat_0 rfl rfl ?_
    refine pn_if_lt (q := 4) (tgt := 9) dX6_requireWhat_1 (by decide) rfl (fun hc1 => ?_) (fun hc1 => ?_)
    · exact (h2 hc1).elim
    · refine pn_iload_n (q := 5) dX6_requireWhat_4 rfl rfl ?_
      refine pn_iload_n (q := 6) dX6_requireWhat_5 rfl rfl ?_
      refine pn_icmp_le (q := 9) (tgt := 29) dX6_requireWhat_6 (by decide) rfl (fun hc6 => ?_) (fun hc6 => ?_)
      · exact (nI_gap (by omega) h1 hc6).elim
      · refine pn_aload_n (q := 10) dX6_requireWhat_9 rfl rfl rfl ?_
        refine pn_get (q := 13) fX6_66 dX6_requireWhat_10 rfl rfl rfl ?_
        refine pn_iconst (q := 14) (v := nI 1) dX6_requireWhat_13 rfl (by decide) ?_
        first | refine pn_dup2 (q := 15) dX6_requireWhat_14 rfl rfl rfl ?_ | refine pn_dup2l (q := 15) dX6_requireWhat_14 rfl ?_
        refine pn_iald (q := 16) dX6_requireWhat_15 rfl rfl rfl (by omega) (by first | decide | omega) ?_
        refine pn_iconst (q := 17) (v := nI 1) dX6_requireWhat_16 rfl (by decide) ?_
        first | with_reducible refine pn_iaddN (q := 18) dX6_requireWhat_17 rfl ?_ | refine pn_iadd (q := 18) dX6_requireWhat_17 rfl ?_
        refine pn_iast (q := 19) dX6_requireWhat_18 rfl rfl rfl (by omega) (by first | decide | omega) ?_; rw [updN_nI]
        refine pn_bud (bc' := 0 + 1) (bs' := 0 + 6) ?_ (by omega) (by omega)
        exact pn_thrS (j := 18) rfl xf_iae xf_RE rfl pw_567 pw_89 (pnOkW_of xw_iae) xg_iae dX6_requireWhat_19 dX6_requireWhat_22 dX6_requireWhat_23 dX6_requireWhat_25 dX6_requireWhat_28 rfl (by omega) (Nat.le_of_ble_eq_true rfl) (⟨rfl, rfl⟩)
  · rw [hw] at h1; cases h1
def rdB (w : Int32) : Bool := decide (3 ≤ w.toInt ∧ w.toInt ≤ 31)
set_option maxRecDepth 100000 in
theorem p_requireRound (adK : Nat → Nat) (d : Nat) (b : Nat → Int32) (tp : Nat) (fp : Int32) (N : NS) (A : AS) (Q : QS) (C : CS) (W : WS) (Z : SS) (ask : Nat → Int32) (rf : Nat → Nat) (hq : Q.1 = 8 ∨ Q.1 = 9) (j : Nat) (hj : 3 ≤ j) (hm : j ≤ 31) : pnCt mX6_requireRound adK d 0 0 [.ref 0, .int (nI j)] (hP b tp fp N A Q C W Z ask rf) (pnIs (.inl none) (hP b tp fp N A Q C W Z ask rf)) := by
  refine pnCt_of (by decide) kX6_requireRound (Nat.le_of_ble_eq_true rfl) rfl (hP_cl hq) (pnCS_b rfl) ?_
  refine pn_iload_n (q := 1) dX6_requireRound_0 rfl rfl ?_
  refine pn_iconst (q := 2) (v := nI 3) dX6_requireRound_1 rfl (by decide) ?_
  first | refine pn_nlt (q := 5) (tgt := 11) dX6_requireRound_2 (by decide) rfl (by omega) (by omega) (fun hc2 => ?_) (fun hc2 => ?_) | refine pn_icmp_lt (q := 5) (tgt := 11) dX6_requireRound_2 (by decide) rfl (fun hc2 => ?_) (fun hc2 => ?_)
  · omega
  · refine pn_iload_n (q := 6) dX6_requireRound_5 rfl rfl ?_
    refine pn_bipush (q := 8) (v := nI 31) dX6_requireRound_6 rfl (by decide) ?_
    first | refine pn_nle (q := 11) (tgt := 32) dX6_requireRound_8 (by decide) rfl (by omega) (by omega) (fun hc8 => ?_) (fun hc8 => ?_) | refine pn_icmp_le (q := 11) (tgt := 32) dX6_requireRound_8 (by decide) rfl (fun hc8 => ?_) (fun hc8 => ?_)
    · refine pn_vret dX6_requireRound_32 rfl ?_
      exact ⟨rfl, rfl⟩
    · omega
set_option maxRecDepth 100000 in
theorem p_requireRoundX (adK : Nat → Nat) (d : Nat) (b : Nat → Int32) (tp : Nat) (fp : Int32) (N : NS) (A : AS) (Q : QS) (C : CS) (W : WS) (Z : SS) (ask : Nat → Int32) (rf : Nat → Nat) (hq : Q.1 = 8 ∨ Q.1 = 9) (w : Int32) (hw : rdB w = false) : pnCt mX6_requireRound adK (d + 6) 1 6 [.ref 0, .int w] (hP b tp fp N A Q C W Z ask rf) (pnIs (.inr "java/lang/IllegalArgumentException") (hP b tp fp N A Q C W Z ask (updN rf 1 (rf 1 + 1)))) := by
  refine pnCt_of (by decide) kX6_requireRound (Nat.le_of_ble_eq_true rfl) rfl (hP_cl hq) (pnCS_b rfl) ?_
  have hw2 := of_decide_eq_false hw
  by_cases h1 : w < nI 3
  · refine pn_iload_n (q := 1) dX6_requireRound_0 rfl rfl ?_
    refine pn_iconst (q := 2) (v := nI 3) dX6_requireRound_1 rfl (by decide) ?_
    refine pn_icmp_lt (q := 5) (tgt := 11) dX6_requireRound_2 (by decide) rfl (fun hc2 => ?_) (fun hc2 => ?_)
    · refine pn_aload_n (q := 12) dX6_requireRound_11 rfl rfl rfl ?_
      refine pn_get (q := 15) fX6_66 dX6_requireRound_12 rfl rfl rfl ?_
      refine pn_iconst (q := 16) (v := nI 1) dX6_requireRound_15 rfl (by decide) ?_
      first | refine pn_dup2 (q := 17) dX6_requireRound_16 rfl rfl rfl ?_ | refine pn_dup2l (q := 17) dX6_requireRound_16 rfl ?_
      refine pn_iald (q := 18) dX6_requireRound_17 rfl rfl rfl (by omega) (by first | decide | omega) ?_
      refine pn_iconst (q := 19) (v := nI 1) dX6_requireRound_18 rfl (by decide) ?_
      first | with_reducible refine pn_iaddN (q := 20) dX6_requireRound_19 rfl ?_ | refine pn_iadd (q := 20) dX6_requireRound_19 rfl ?_
      refine pn_iast (q := 21) dX6_requireRound_20 rfl rfl rfl (by omega) (by first | decide | omega) ?_; rw [updN_nI]
      refine pn_bud (bc' := 0 + 1) (bs' := 0 + 6) ?_ (by omega) (by omega)
      exact pn_thrW (j := 22) rfl xf_iae xf_RE rfl pw_567 pw_89 (pnOkW_of xw_iae) xg_iae dX6_requireRound_21 dX6_requireRound_24 dX6_requireRound_25 dX6_requireRound_28 dX6_requireRound_31 rfl (by omega) (Nat.le_of_ble_eq_true rfl) (⟨rfl, rfl⟩)
    · exact (hc2 h1).elim
  · refine pn_iload_n (q := 1) dX6_requireRound_0 rfl rfl ?_
    refine pn_iconst (q := 2) (v := nI 3) dX6_requireRound_1 rfl (by decide) ?_
    refine pn_icmp_lt (q := 5) (tgt := 11) dX6_requireRound_2 (by decide) rfl (fun hc2 => ?_) (fun hc2 => ?_)
    · exact (h1 hc2).elim
    · refine pn_iload_n (q := 6) dX6_requireRound_5 rfl rfl ?_
      refine pn_bipush (q := 8) (v := nI 31) dX6_requireRound_6 rfl (by decide) ?_
      refine pn_icmp_le (q := 11) (tgt := 32) dX6_requireRound_8 (by decide) rfl (fun hc8 => ?_) (fun hc8 => ?_)
      · (rw [Int32.lt_iff_toInt_lt, nI_toInt (by omega)] at h1; rw [Int32.le_iff_toInt_le, nI_toInt (by omega)] at hc8; omega)
      · refine pn_aload_n (q := 12) dX6_requireRound_11 rfl rfl rfl ?_
        refine pn_get (q := 15) fX6_66 dX6_requireRound_12 rfl rfl rfl ?_
        refine pn_iconst (q := 16) (v := nI 1) dX6_requireRound_15 rfl (by decide) ?_
        first | refine pn_dup2 (q := 17) dX6_requireRound_16 rfl rfl rfl ?_ | refine pn_dup2l (q := 17) dX6_requireRound_16 rfl ?_
        refine pn_iald (q := 18) dX6_requireRound_17 rfl rfl rfl (by omega) (by first | decide | omega) ?_
        refine pn_iconst (q := 19) (v := nI 1) dX6_requireRound_18 rfl (by decide) ?_
        first | with_reducible refine pn_iaddN (q := 20) dX6_requireRound_19 rfl ?_ | refine pn_iadd (q := 20) dX6_requireRound_19 rfl ?_
        refine pn_iast (q := 21) dX6_requireRound_20 rfl rfl rfl (by omega) (by first | decide | omega) ?_; rw [updN_nI]
        refine pn_bud (bc' := 0 + 1) (bs' := 0 + 6) ?_ (by omega) (by omega)
        exact pn_thrW (j := 22) rfl xf_iae xf_RE rfl pw_567 pw_89 (pnOkW_of xw_iae) xg_iae dX6_requireRound_21 dX6_requireRound_24 dX6_requireRound_25 dX6_requireRound_28 dX6_requireRound_31 rfl (by omega) (Nat.le_of_ble_eq_true rfl) (⟨rfl, rfl⟩)
/-! told -/
set_option maxRecDepth 100000 in
theorem p_told0 (adK : Nat → Nat) (d : Nat) (b : Nat → Int32) (tp : Nat) (fp : Int32) (N : NS) (A : AS) (Q : QS) (C : CS) (W : WS) (Z : SS) (ask : Nat → Int32) (rf : Nat → Nat) (hq : Q.1 = 8 ∨ Q.1 = 9) (hpc : N.2.2.2.2.1 ≤ 55) : pnCt mX6_told adK (d + 2) 0 0 [.ref 0, .int (nI 0)] (hP b tp fp N A Q C W Z ask rf) (pnIs (.inl (some (.int (nI N.1)))) (hP b tp fp N A Q C W Z ask rf)) := by
  refine pnCt_of (by decide) kX6_told (Nat.le_of_ble_eq_true rfl) rfl (hP_cl hq) (pnCS_b rfl) ?_
  refine pn_aload_n (q := 1) dX6_told_0 rfl rfl rfl ?_
  refine pn_iload_n (q := 2) dX6_told_1 rfl rfl ?_
  refine pn_bipush (q := 4) (v := nI 8) dX6_told_2 rfl (by decide) ?_
  refine pn_idV (q := 7) (bc9 := 0) (bs9 := 0) (p_requireWhat adK d b tp fp N A Q C W Z ask rf hq 0 8 (by omega) (by omega)) lkX6_203 dX6_told_4 rfl rfl (hP_cl hq) (hP_cl hq) (Nat.le_of_ble_eq_true rfl) rfl rfl rfl rfl rfl rfl (by omega) (by omega) (by omega) (Nat.le_of_ble_eq_true rfl) ?_
  refine pn_iload_n (q := 8) dX6_told_7 rfl rfl ?_
  refine pn_tabIn (q := 56) (off := 48) dX6_told_8 (by decide) (by decide) (by decide) (by decide) ?_
  refine pn_aload_n (q := 57) dX6_told_56 rfl rfl rfl ?_
  refine pn_get (q := 60) fX6_23 dX6_told_57 rfl rfl rfl ?_
  refine pn_get (q := 63) fX6_69 dX6_told_60 rfl rfl rfl ?_
  refine pn_iret dX6_told_63 rfl ?_
  exact ⟨rfl, rfl⟩
set_option maxRecDepth 100000 in
theorem p_told1 (adK : Nat → Nat) (d : Nat) (b : Nat → Int32) (tp : Nat) (fp : Int32) (N : NS) (A : AS) (Q : QS) (C : CS) (W : WS) (Z : SS) (ask : Nat → Int32) (rf : Nat → Nat) (hq : Q.1 = 8 ∨ Q.1 = 9) (hpc : N.2.2.2.2.1 ≤ 55) : pnCt mX6_told adK (d + 2) 0 0 [.ref 0, .int (nI 1)] (hP b tp fp N A Q C W Z ask rf) (pnIs (.inl (some (.int (nI (pcN N.2.1))))) (hP b tp fp N A Q C W Z ask rf)) := by
  refine pnCt_of (by decide) kX6_told (Nat.le_of_ble_eq_true rfl) rfl (hP_cl hq) (pnCS_b rfl) ?_
  refine pn_aload_n (q := 1) dX6_told_0 rfl rfl rfl ?_
  refine pn_iload_n (q := 2) dX6_told_1 rfl rfl ?_
  refine pn_bipush (q := 4) (v := nI 8) dX6_told_2 rfl (by decide) ?_
  refine pn_idV (q := 7) (bc9 := 0) (bs9 := 0) (p_requireWhat adK d b tp fp N A Q C W Z ask rf hq 1 8 (by omega) (by omega)) lkX6_203 dX6_told_4 rfl rfl (hP_cl hq) (hP_cl hq) (Nat.le_of_ble_eq_true rfl) rfl rfl rfl rfl rfl rfl (by omega) (by omega) (by omega) (Nat.le_of_ble_eq_true rfl) ?_
  refine pn_iload_n (q := 8) dX6_told_7 rfl rfl ?_
  refine pn_tabIn (q := 64) (off := 56) dX6_told_8 (by decide) (by decide) (by decide) (by decide) ?_
  refine pn_aload_n (q := 65) dX6_told_64 rfl rfl rfl ?_
  refine pn_get (q := 68) fX6_23 dX6_told_65 rfl rfl rfl ?_
  refine pn_get (q := 71) fX6_74 dX6_told_68 rfl rfl rfl ?_
  refine pn_roS1 (q := 74) (c_bc adK d N.2.1) lkX6_108 dX6_told_71 rfl rfl (pnSel_of (I := []) rfl rfl) (pnFree_none rfl) rfl (by omega) (Nat.le_of_ble_eq_true rfl) rfl ?_
  refine pn_iret dX6_told_74 rfl ?_
  exact ⟨rfl, rfl⟩
set_option maxRecDepth 100000 in
theorem p_told2 (adK : Nat → Nat) (d : Nat) (b : Nat → Int32) (tp : Nat) (fp : Int32) (N : NS) (A : AS) (Q : QS) (C : CS) (W : WS) (Z : SS) (ask : Nat → Int32) (rf : Nat → Nat) (hq : Q.1 = 8 ∨ Q.1 = 9) (hpc : N.2.2.2.2.1 ≤ 55) : pnCt mX6_told adK (d + 2) 0 0 [.ref 0, .int (nI 2)] (hP b tp fp N A Q C W Z ask rf) (pnIs (.inl (some (.int (nI N.2.2.1)))) (hP b tp fp N A Q C W Z ask rf)) := by
  refine pnCt_of (by decide) kX6_told (Nat.le_of_ble_eq_true rfl) rfl (hP_cl hq) (pnCS_b rfl) ?_
  refine pn_aload_n (q := 1) dX6_told_0 rfl rfl rfl ?_
  refine pn_iload_n (q := 2) dX6_told_1 rfl rfl ?_
  refine pn_bipush (q := 4) (v := nI 8) dX6_told_2 rfl (by decide) ?_
  refine pn_idV (q := 7) (bc9 := 0) (bs9 := 0) (p_requireWhat adK d b tp fp N A Q C W Z ask rf hq 2 8 (by omega) (by omega)) lkX6_203 dX6_told_4 rfl rfl (hP_cl hq) (hP_cl hq) (Nat.le_of_ble_eq_true rfl) rfl rfl rfl rfl rfl rfl (by omega) (by omega) (by omega) (Nat.le_of_ble_eq_true rfl) ?_
  refine pn_iload_n (q := 8) dX6_told_7 rfl rfl ?_
  refine pn_tabIn (q := 75) (off := 67) dX6_told_8 (by decide) (by decide) (by decide) (by decide) ?_
  refine pn_aload_n (q := 76) dX6_told_75 rfl rfl rfl ?_
  refine pn_get (q := 79) fX6_23 dX6_told_76 rfl rfl rfl ?_
  refine pn_get (q := 82) fX6_206 dX6_told_79 rfl rfl rfl ?_
  refine pn_iret dX6_told_82 rfl ?_
  exact ⟨rfl, rfl⟩
set_option maxRecDepth 100000 in
theorem p_told3 (adK : Nat → Nat) (d : Nat) (b : Nat → Int32) (tp : Nat) (fp : Int32) (N : NS) (A : AS) (Q : QS) (C : CS) (W : WS) (Z : SS) (ask : Nat → Int32) (rf : Nat → Nat) (hq : Q.1 = 8 ∨ Q.1 = 9) (hpc : N.2.2.2.2.1 ≤ 55) : pnCt mX6_told adK (d + 2) 0 0 [.ref 0, .int (nI 3)] (hP b tp fp N A Q C W Z ask rf) (pnIs (.inl (some (.int (nI N.2.2.2.1)))) (hP b tp fp N A Q C W Z ask rf)) := by
  refine pnCt_of (by decide) kX6_told (Nat.le_of_ble_eq_true rfl) rfl (hP_cl hq) (pnCS_b rfl) ?_
  refine pn_aload_n (q := 1) dX6_told_0 rfl rfl rfl ?_
  refine pn_iload_n (q := 2) dX6_told_1 rfl rfl ?_
  refine pn_bipush (q := 4) (v := nI 8) dX6_told_2 rfl (by decide) ?_
  refine pn_idV (q := 7) (bc9 := 0) (bs9 := 0) (p_requireWhat adK d b tp fp N A Q C W Z ask rf hq 3 8 (by omega) (by omega)) lkX6_203 dX6_told_4 rfl rfl (hP_cl hq) (hP_cl hq) (Nat.le_of_ble_eq_true rfl) rfl rfl rfl rfl rfl rfl (by omega) (by omega) (by omega) (Nat.le_of_ble_eq_true rfl) ?_
  refine pn_iload_n (q := 8) dX6_told_7 rfl rfl ?_
  refine pn_tabIn (q := 83) (off := 75) dX6_told_8 (by decide) (by decide) (by decide) (by decide) ?_
  refine pn_aload_n (q := 84) dX6_told_83 rfl rfl rfl ?_
  refine pn_get (q := 87) fX6_23 dX6_told_84 rfl rfl rfl ?_
  refine pn_get (q := 90) fX6_209 dX6_told_87 rfl rfl rfl ?_
  refine pn_iret dX6_told_90 rfl ?_
  exact ⟨rfl, rfl⟩
set_option maxRecDepth 100000 in
theorem p_told4 (adK : Nat → Nat) (d : Nat) (b : Nat → Int32) (tp : Nat) (fp : Int32) (N : NS) (A : AS) (Q : QS) (C : CS) (W : WS) (Z : SS) (ask : Nat → Int32) (rf : Nat → Nat) (hq : Q.1 = 8 ∨ Q.1 = 9) (hpc : N.2.2.2.2.1 ≤ 55) : pnCt mX6_told adK (d + 2) 0 0 [.ref 0, .int (nI 4)] (hP b tp fp N A Q C W Z ask rf) (pnIs (.inl (some (.int (nI N.2.2.2.2.1)))) (hP b tp fp N A Q C W Z ask rf)) := by
  refine pnCt_of (by decide) kX6_told (Nat.le_of_ble_eq_true rfl) rfl (hP_cl hq) (pnCS_b rfl) ?_
  refine pn_aload_n (q := 1) dX6_told_0 rfl rfl rfl ?_
  refine pn_iload_n (q := 2) dX6_told_1 rfl rfl ?_
  refine pn_bipush (q := 4) (v := nI 8) dX6_told_2 rfl (by decide) ?_
  refine pn_idV (q := 7) (bc9 := 0) (bs9 := 0) (p_requireWhat adK d b tp fp N A Q C W Z ask rf hq 4 8 (by omega) (by omega)) lkX6_203 dX6_told_4 rfl rfl (hP_cl hq) (hP_cl hq) (Nat.le_of_ble_eq_true rfl) rfl rfl rfl rfl rfl rfl (by omega) (by omega) (by omega) (Nat.le_of_ble_eq_true rfl) ?_
  refine pn_iload_n (q := 8) dX6_told_7 rfl rfl ?_
  refine pn_tabIn (q := 91) (off := 83) dX6_told_8 (by decide) (by decide) (by decide) (by decide) ?_
  refine pn_aload_n (q := 92) dX6_told_91 rfl rfl rfl ?_
  refine pn_get (q := 95) fX6_23 dX6_told_92 rfl rfl rfl ?_
  refine pn_get (q := 98) fX6_135 dX6_told_95 rfl rfl rfl ?_
  refine pn_iret dX6_told_98 rfl ?_
  exact ⟨rfl, rfl⟩
set_option maxRecDepth 100000 in
theorem p_told5 (adK : Nat → Nat) (d : Nat) (b : Nat → Int32) (tp : Nat) (fp : Int32) (N : NS) (A : AS) (Q : QS) (C : CS) (W : WS) (Z : SS) (ask : Nat → Int32) (rf : Nat → Nat) (hq : Q.1 = 8 ∨ Q.1 = 9) (hpc : N.2.2.2.2.1 ≤ 55) : pnCt mX6_told adK (d + 2) 0 0 [.ref 0, .int (nI 5)] (hP b tp fp N A Q C W Z ask rf) (pnIs (.inl (some (.int (nI (pcN (lfN N.2.2.2.2.2.2.1 N.2.1 N.2.2.2.2.1)))))) (hP b tp fp N A Q C W Z ask rf)) := by
  refine pnCt_of (by decide) kX6_told (Nat.le_of_ble_eq_true rfl) rfl (hP_cl hq) (pnCS_b rfl) ?_
  refine pn_aload_n (q := 1) dX6_told_0 rfl rfl rfl ?_
  refine pn_iload_n (q := 2) dX6_told_1 rfl rfl ?_
  refine pn_bipush (q := 4) (v := nI 8) dX6_told_2 rfl (by decide) ?_
  refine pn_idV (q := 7) (bc9 := 0) (bs9 := 0) (p_requireWhat adK d b tp fp N A Q C W Z ask rf hq 5 8 (by omega) (by omega)) lkX6_203 dX6_told_4 rfl rfl (hP_cl hq) (hP_cl hq) (Nat.le_of_ble_eq_true rfl) rfl rfl rfl rfl rfl rfl (by omega) (by omega) (by omega) (Nat.le_of_ble_eq_true rfl) ?_
  refine pn_iload_n (q := 8) dX6_told_7 rfl rfl ?_
  refine pn_tabIn (q := 99) (off := 91) dX6_told_8 (by decide) (by decide) (by decide) (by decide) ?_
  refine pn_aload_n (q := 100) dX6_told_99 rfl rfl rfl ?_
  refine pn_get (q := 103) fX6_23 dX6_told_100 rfl rfl rfl ?_
  refine pn_roV1 (q := 106) (c_leftLines adK d N.1 N.2.1 N.2.2.1 N.2.2.2.1 N.2.2.2.2.1 N.2.2.2.2.2.1 N.2.2.2.2.2.2.1 N.2.2.2.2.2.2.2.1 N.2.2.2.2.2.2.2.2 hpc) lkX6_104 dX6_told_103 rfl rfl (pnSel_of (I := [2, 3, 4, 5]) rfl rfl) (pnFree_none rfl) rfl rfl rfl (by omega) (Nat.le_of_ble_eq_true rfl) rfl ?_
  refine pn_roS1 (q := 109) (c_bc adK d (lfN N.2.2.2.2.2.2.1 N.2.1 N.2.2.2.2.1)) lkX6_108 dX6_told_106 rfl rfl (pnSel_of (I := []) rfl rfl) (pnFree_none rfl) rfl (by omega) (Nat.le_of_ble_eq_true rfl) rfl ?_
  refine pn_iret dX6_told_109 rfl ?_
  exact ⟨rfl, rfl⟩
set_option maxRecDepth 100000 in
theorem p_told6 (adK : Nat → Nat) (d : Nat) (b : Nat → Int32) (tp : Nat) (fp : Int32) (N : NS) (A : AS) (Q : QS) (C : CS) (W : WS) (Z : SS) (ask : Nat → Int32) (rf : Nat → Nat) (hq : Q.1 = 8 ∨ Q.1 = 9) (hpc : N.2.2.2.2.1 ≤ 55) : pnCt mX6_told adK (d + 2) 0 0 [.ref 0, .int (nI 6)] (hP b tp fp N A Q C W Z ask rf) (pnIs (.inl (some (.int (nI N.2.2.2.2.2.1)))) (hP b tp fp N A Q C W Z ask rf)) := by
  refine pnCt_of (by decide) kX6_told (Nat.le_of_ble_eq_true rfl) rfl (hP_cl hq) (pnCS_b rfl) ?_
  refine pn_aload_n (q := 1) dX6_told_0 rfl rfl rfl ?_
  refine pn_iload_n (q := 2) dX6_told_1 rfl rfl ?_
  refine pn_bipush (q := 4) (v := nI 8) dX6_told_2 rfl (by decide) ?_
  refine pn_idV (q := 7) (bc9 := 0) (bs9 := 0) (p_requireWhat adK d b tp fp N A Q C W Z ask rf hq 6 8 (by omega) (by omega)) lkX6_203 dX6_told_4 rfl rfl (hP_cl hq) (hP_cl hq) (Nat.le_of_ble_eq_true rfl) rfl rfl rfl rfl rfl rfl (by omega) (by omega) (by omega) (Nat.le_of_ble_eq_true rfl) ?_
  refine pn_iload_n (q := 8) dX6_told_7 rfl rfl ?_
  refine pn_tabIn (q := 110) (off := 102) dX6_told_8 (by decide) (by decide) (by decide) (by decide) ?_
  refine pn_aload_n (q := 111) dX6_told_110 rfl rfl rfl ?_
  refine pn_get (q := 114) fX6_23 dX6_told_111 rfl rfl rfl ?_
  refine pn_get (q := 117) fX6_212 dX6_told_114 rfl rfl rfl ?_
  refine pn_iret dX6_told_117 rfl ?_
  exact ⟨rfl, rfl⟩
set_option maxRecDepth 100000 in
theorem p_told7 (adK : Nat → Nat) (d : Nat) (b : Nat → Int32) (tp : Nat) (fp : Int32) (N : NS) (A : AS) (Q : QS) (C : CS) (W : WS) (Z : SS) (ask : Nat → Int32) (rf : Nat → Nat) (hq : Q.1 = 8 ∨ Q.1 = 9) (hpc : N.2.2.2.2.1 ≤ 55) : pnCt mX6_told adK (d + 2) 0 0 [.ref 0, .int (nI 7)] (hP b tp fp N A Q C W Z ask rf) (pnIs (.inl (some (.int (nI tp)))) (hP b tp fp N A Q C W Z ask rf)) := by
  refine pnCt_of (by decide) kX6_told (Nat.le_of_ble_eq_true rfl) rfl (hP_cl hq) (pnCS_b rfl) ?_
  refine pn_aload_n (q := 1) dX6_told_0 rfl rfl rfl ?_
  refine pn_iload_n (q := 2) dX6_told_1 rfl rfl ?_
  refine pn_bipush (q := 4) (v := nI 8) dX6_told_2 rfl (by decide) ?_
  refine pn_idV (q := 7) (bc9 := 0) (bs9 := 0) (p_requireWhat adK d b tp fp N A Q C W Z ask rf hq 7 8 (by omega) (by omega)) lkX6_203 dX6_told_4 rfl rfl (hP_cl hq) (hP_cl hq) (Nat.le_of_ble_eq_true rfl) rfl rfl rfl rfl rfl rfl (by omega) (by omega) (by omega) (Nat.le_of_ble_eq_true rfl) ?_
  refine pn_iload_n (q := 8) dX6_told_7 rfl rfl ?_
  refine pn_tabIn (q := 118) (off := 110) dX6_told_8 (by decide) (by decide) (by decide) (by decide) ?_
  refine pn_aload_n (q := 119) dX6_told_118 rfl rfl rfl ?_
  refine pn_get (q := 122) fX6_13 dX6_told_119 rfl rfl rfl ?_
  refine pn_iret dX6_told_122 rfl ?_
  exact ⟨rfl, rfl⟩
set_option maxRecDepth 100000 in
theorem p_told8 (adK : Nat → Nat) (d : Nat) (b : Nat → Int32) (tp : Nat) (fp : Int32) (N : NS) (A : AS) (Q : QS) (C : CS) (W : WS) (Z : SS) (ask : Nat → Int32) (rf : Nat → Nat) (hq : Q.1 = 8 ∨ Q.1 = 9) : pnCt mX6_told adK (d + 2) 0 0 [.ref 0, .int (nI 8)] (hP b tp fp N A Q C W Z ask rf) (pnIs (.inl (some (.int (nI A.1)))) (hP b tp fp N A Q C W Z ask rf)) := by
  refine pnCt_of (by decide) kX6_told (Nat.le_of_ble_eq_true rfl) rfl (hP_cl hq) (pnCS_b rfl) ?_
  refine pn_aload_n (q := 1) dX6_told_0 rfl rfl rfl ?_
  refine pn_iload_n (q := 2) dX6_told_1 rfl rfl ?_
  refine pn_bipush (q := 4) (v := nI 8) dX6_told_2 rfl (by decide) ?_
  refine pn_idV (q := 7) (bc9 := 0) (bs9 := 0) (p_requireWhat adK d b tp fp N A Q C W Z ask rf hq 8 8 (by omega) (by omega)) lkX6_203 dX6_told_4 rfl rfl (hP_cl hq) (hP_cl hq) (Nat.le_of_ble_eq_true rfl) rfl rfl rfl rfl rfl rfl (by omega) (by omega) (by omega) (Nat.le_of_ble_eq_true rfl) ?_
  refine pn_iload_n (q := 8) dX6_told_7 rfl rfl ?_
  refine pn_tabOut (q := 123) dX6_told_8 (by decide) (by decide) ?_
  refine pn_aload_n (q := 124) dX6_told_123 rfl rfl rfl ?_
  refine pn_get (q := 127) fX6_30 dX6_told_124 rfl rfl rfl ?_
  refine pn_get (q := 130) fX6_197 dX6_told_127 rfl rfl rfl ?_
  refine pn_iret dX6_told_130 rfl ?_
  exact ⟨rfl, rfl⟩
set_option maxRecDepth 100000 in
theorem p_toldX (adK : Nat → Nat) (d : Nat) (b : Nat → Int32) (tp : Nat) (fp : Int32) (N : NS) (A : AS) (Q : QS) (C : CS) (W : WS) (Z : SS) (ask : Nat → Int32) (rf : Nat → Nat) (hq : Q.1 = 8 ∨ Q.1 = 9) (w : Int32) (hw : hasN 9 w = false) : pnCt mX6_told adK (d + 7) 1 6 [.ref 0, .int w] (hP b tp fp N A Q C W Z ask rf) (pnIs (.inr "java/lang/IllegalArgumentException") (hP b tp fp N A Q C W Z ask (updN rf 1 (rf 1 + 1)))) := by
  refine pnCt_of (by decide) kX6_told (Nat.le_of_ble_eq_true rfl) rfl (hP_cl hq) (pnCS_b rfl) ?_
  refine pn_aload_n (q := 1) dX6_told_0 rfl rfl rfl ?_
  refine pn_iload_n (q := 2) dX6_told_1 rfl rfl ?_
  refine pn_bipush (q := 4) (v := nI 8) dX6_told_2 rfl (by decide) ?_
  refine pn_idVX (q := 7) (p_requireWhatX adK d b tp fp N A Q C W Z ask rf hq w 8 hw (by omega)) lkX6_203 dX6_told_4 rfl rfl (hP_cl hq) (hP_cl hq) (Nat.le_of_ble_eq_true rfl) rfl rfl rfl rfl rfl (by omega) (by omega) (by omega) (Nat.le_of_ble_eq_true rfl) rfl (⟨rfl, rfl⟩)
/-! line -/
def bitI (g : Int64) (l : Nat) : Int32 := ((g.toUInt64 >>> ((nI l).toInt64.toUInt64 &&& Int64.toUInt64 63)).toInt64 &&& 1).toInt32
set_option maxRecDepth 100000 in
theorem p_line0 (adK : Nat → Nat) (d : Nat) (b : Nat → Int32) (tp : Nat) (fp : Int32) (N : NS) (A : AS) (Q : QS) (C : CS) (W : WS) (Z : SS) (ask : Nat → Int32) (rf : Nat → Nat) (hq : Q.1 = 8 ∨ Q.1 = 9) (i j : Nat) (hn : N.1 ≤ 11) (hpc : N.2.2.2.2.1 ≤ 55) (hi : i < N.1) (hj : j < N.1) (hij : i ≠ j) : pnCt mX6_line adK (d + 2) 0 0 [.ref 0, .int (nI i), .int (nI j), .int (nI 0)] (hP b tp fp N A Q C W Z ask rf) (pnIs (.inl (some (.int (nI (lnN N.1 i j))))) (hP b tp fp N A Q C W Z ask rf)) := by
  refine pnCt_of (by decide) kX6_line (Nat.le_of_ble_eq_true rfl) rfl (hP_cl hq) (pnCS_b rfl) ?_
  have h1 : hasN N.1 (nI i) = true := by unfold hasN; rw [nI_toInt (by omega)]; exact decide_eq_true (by omega)
  have h2 : hasN N.1 (nI j) = true := by unfold hasN; rw [nI_toInt (by omega)]; exact decide_eq_true (by omega)
  refine pn_aload_n (q := 1) dX6_line_0 rfl rfl rfl ?_
  refine pn_iload_n (q := 2) dX6_line_1 rfl rfl ?_
  refine pn_idV (q := 5) (bc9 := 0) (bs9 := 0) (p_requireNode adK d b tp fp N A Q C W Z ask rf hq (nI i) hn h1) lkX6_222 dX6_line_2 rfl rfl (hP_cl hq) (hP_cl hq) (Nat.le_of_ble_eq_true rfl) rfl rfl rfl rfl rfl rfl (by omega) (by omega) (by omega) (Nat.le_of_ble_eq_true rfl) ?_
  refine pn_aload_n (q := 6) dX6_line_5 rfl rfl rfl ?_
  refine pn_iload_n (q := 7) dX6_line_6 rfl rfl ?_
  refine pn_idV (q := 10) (bc9 := 0) (bs9 := 0) (p_requireNode adK d b tp fp N A Q C W Z ask rf hq (nI j) hn h2) lkX6_222 dX6_line_7 rfl rfl (hP_cl hq) (hP_cl hq) (Nat.le_of_ble_eq_true rfl) rfl rfl rfl rfl rfl rfl (by omega) (by omega) (by omega) (Nat.le_of_ble_eq_true rfl) ?_
  refine pn_iload_n (q := 11) dX6_line_10 rfl rfl ?_
  refine pn_iload_n (q := 12) dX6_line_11 rfl rfl ?_
  first | refine pn_nne (q := 15) (tgt := 35) dX6_line_12 (by decide) rfl (by omega) (by omega) (fun hc12 => ?_) (fun hc12 => ?_) | refine pn_icmp_ne (q := 15) (tgt := 35) dX6_line_12 (by decide) rfl (fun hc12 => ?_) (fun hc12 => ?_)
  · refine pn_aload_n (q := 36) dX6_line_35 rfl rfl rfl ?_
    refine pn_iload_n (q := 37) dX6_line_36 rfl rfl ?_
    refine pn_iconst (q := 38) (v := nI 2) dX6_line_37 rfl (by decide) ?_
    refine pn_idV (q := 41) (bc9 := 0) (bs9 := 0) (p_requireWhat adK d b tp fp N A Q C W Z ask rf hq 0 2 (by omega) (by omega)) lkX6_203 dX6_line_38 rfl rfl (hP_cl hq) (hP_cl hq) (Nat.le_of_ble_eq_true rfl) rfl rfl rfl rfl rfl rfl (by omega) (by omega) (by omega) (Nat.le_of_ble_eq_true rfl) ?_
    refine pn_aload_n (q := 42) dX6_line_41 rfl rfl rfl ?_
    refine pn_get (q := 45) fX6_23 dX6_line_42 rfl rfl rfl ?_
    refine pn_iload_n (q := 46) dX6_line_45 rfl rfl ?_
    refine pn_iload_n (q := 47) dX6_line_46 rfl rfl ?_
    refine pn_roV1 (q := 50) (c_lineNumber adK d N.1 N.2.1 N.2.2.1 N.2.2.2.1 N.2.2.2.2.1 N.2.2.2.2.2.1 N.2.2.2.2.2.2.1 N.2.2.2.2.2.2.2.1 N.2.2.2.2.2.2.2.2 i j hn hi hj hij) lkX6_227 dX6_line_47 rfl rfl (pnSel_of (I := [2, 3, 4, 5]) rfl rfl) (pnFree_none rfl) rfl rfl rfl (by omega) (Nat.le_of_ble_eq_true rfl) rfl ?_
    refine pn_istore (q := 52) dX6_line_50 rfl (by decide) ?_
    refine pn_iload_n (q := 53) dX6_line_52 rfl rfl ?_
    first | refine pn_zne (q := 56) (tgt := 59) dX6_line_53 (by decide) rfl (by omega) (fun hc53 => ?_) (fun hc53 => ?_) | refine pn_if_ne (q := 56) (tgt := 59) dX6_line_53 (by decide) rfl (fun hc53 => ?_) (fun hc53 => ?_)
    · omega
    · refine pn_iload (q := 58) dX6_line_56 rfl rfl ?_
      refine pn_iret dX6_line_58 rfl ?_
      exact ⟨rfl, rfl⟩
  · omega
set_option maxRecDepth 100000 in
theorem p_line1 (adK : Nat → Nat) (d : Nat) (b : Nat → Int32) (tp : Nat) (fp : Int32) (N : NS) (A : AS) (Q : QS) (C : CS) (W : WS) (Z : SS) (ask : Nat → Int32) (rf : Nat → Nat) (hq : Q.1 = 8 ∨ Q.1 = 9) (i j : Nat) (hn : N.1 ≤ 11) (hpc : N.2.2.2.2.1 ≤ 55) (hi : i < N.1) (hj : j < N.1) (hij : i ≠ j) : pnCt mX6_line adK (d + 2) 0 0 [.ref 0, .int (nI i), .int (nI j), .int (nI 1)] (hP b tp fp N A Q C W Z ask rf) (pnIs (.inl (some (.int (bitI N.2.1 (lnN N.1 i j))))) (hP b tp fp N A Q C W Z ask rf)) := by
  refine pnCt_of (by decide) kX6_line (Nat.le_of_ble_eq_true rfl) rfl (hP_cl hq) (pnCS_b rfl) ?_
  have h1 : hasN N.1 (nI i) = true := by unfold hasN; rw [nI_toInt (by omega)]; exact decide_eq_true (by omega)
  have h2 : hasN N.1 (nI j) = true := by unfold hasN; rw [nI_toInt (by omega)]; exact decide_eq_true (by omega)
  refine pn_aload_n (q := 1) dX6_line_0 rfl rfl rfl ?_
  refine pn_iload_n (q := 2) dX6_line_1 rfl rfl ?_
  refine pn_idV (q := 5) (bc9 := 0) (bs9 := 0) (p_requireNode adK d b tp fp N A Q C W Z ask rf hq (nI i) hn h1) lkX6_222 dX6_line_2 rfl rfl (hP_cl hq) (hP_cl hq) (Nat.le_of_ble_eq_true rfl) rfl rfl rfl rfl rfl rfl (by omega) (by omega) (by omega) (Nat.le_of_ble_eq_true rfl) ?_
  refine pn_aload_n (q := 6) dX6_line_5 rfl rfl rfl ?_
  refine pn_iload_n (q := 7) dX6_line_6 rfl rfl ?_
  refine pn_idV (q := 10) (bc9 := 0) (bs9 := 0) (p_requireNode adK d b tp fp N A Q C W Z ask rf hq (nI j) hn h2) lkX6_222 dX6_line_7 rfl rfl (hP_cl hq) (hP_cl hq) (Nat.le_of_ble_eq_true rfl) rfl rfl rfl rfl rfl rfl (by omega) (by omega) (by omega) (Nat.le_of_ble_eq_true rfl) ?_
  refine pn_iload_n (q := 11) dX6_line_10 rfl rfl ?_
  refine pn_iload_n (q := 12) dX6_line_11 rfl rfl ?_
  first | refine pn_nne (q := 15) (tgt := 35) dX6_line_12 (by decide) rfl (by omega) (by omega) (fun hc12 => ?_) (fun hc12 => ?_) | refine pn_icmp_ne (q := 15) (tgt := 35) dX6_line_12 (by decide) rfl (fun hc12 => ?_) (fun hc12 => ?_)
  · refine pn_aload_n (q := 36) dX6_line_35 rfl rfl rfl ?_
    refine pn_iload_n (q := 37) dX6_line_36 rfl rfl ?_
    refine pn_iconst (q := 38) (v := nI 2) dX6_line_37 rfl (by decide) ?_
    refine pn_idV (q := 41) (bc9 := 0) (bs9 := 0) (p_requireWhat adK d b tp fp N A Q C W Z ask rf hq 1 2 (by omega) (by omega)) lkX6_203 dX6_line_38 rfl rfl (hP_cl hq) (hP_cl hq) (Nat.le_of_ble_eq_true rfl) rfl rfl rfl rfl rfl rfl (by omega) (by omega) (by omega) (Nat.le_of_ble_eq_true rfl) ?_
    refine pn_aload_n (q := 42) dX6_line_41 rfl rfl rfl ?_
    refine pn_get (q := 45) fX6_23 dX6_line_42 rfl rfl rfl ?_
    refine pn_iload_n (q := 46) dX6_line_45 rfl rfl ?_
    refine pn_iload_n (q := 47) dX6_line_46 rfl rfl ?_
    refine pn_roV1 (q := 50) (c_lineNumber adK d N.1 N.2.1 N.2.2.1 N.2.2.2.1 N.2.2.2.2.1 N.2.2.2.2.2.1 N.2.2.2.2.2.2.1 N.2.2.2.2.2.2.2.1 N.2.2.2.2.2.2.2.2 i j hn hi hj hij) lkX6_227 dX6_line_47 rfl rfl (pnSel_of (I := [2, 3, 4, 5]) rfl rfl) (pnFree_none rfl) rfl rfl rfl (by omega) (Nat.le_of_ble_eq_true rfl) rfl ?_
    refine pn_istore (q := 52) dX6_line_50 rfl (by decide) ?_
    refine pn_iload_n (q := 53) dX6_line_52 rfl rfl ?_
    first | refine pn_zne (q := 56) (tgt := 59) dX6_line_53 (by decide) rfl (by omega) (fun hc53 => ?_) (fun hc53 => ?_) | refine pn_if_ne (q := 56) (tgt := 59) dX6_line_53 (by decide) rfl (fun hc53 => ?_) (fun hc53 => ?_)
    · refine pn_iload_n (q := 60) dX6_line_59 rfl rfl ?_
      refine pn_iconst (q := 61) (v := nI 1) dX6_line_60 rfl (by decide) ?_
      first | refine pn_nne (q := 64) (tgt := 78) dX6_line_61 (by decide) rfl (by omega) (by omega) (fun hc61 => ?_) (fun hc61 => ?_) | refine pn_icmp_ne (q := 64) (tgt := 78) dX6_line_61 (by decide) rfl (fun hc61 => ?_) (fun hc61 => ?_)
      · omega
      · refine pn_aload_n (q := 65) dX6_line_64 rfl rfl rfl ?_
        refine pn_get (q := 68) fX6_23 dX6_line_65 rfl rfl rfl ?_
        refine pn_get (q := 71) fX6_74 dX6_line_68 rfl rfl rfl ?_
        refine pn_iload (q := 73) dX6_line_71 rfl rfl ?_
        refine pn_lushr (q := 74) dX6_line_73 rfl ?_
        refine pn_lconst (q := 75) (v := 1) dX6_line_74 rfl (by decide) ?_
        refine pn_land (q := 76) dX6_line_75 rfl ?_
        refine pn_l2i (q := 77) dX6_line_76 rfl ?_
        refine pn_iret dX6_line_77 rfl ?_
        exact ⟨rfl, rfl⟩
    · omega
  · omega
set_option maxRecDepth 100000 in
theorem p_line2 (adK : Nat → Nat) (d : Nat) (b : Nat → Int32) (tp : Nat) (fp : Int32) (N : NS) (A : AS) (Q : QS) (C : CS) (W : WS) (Z : SS) (ask : Nat → Int32) (rf : Nat → Nat) (hq : Q.1 = 8 ∨ Q.1 = 9) (i j : Nat) (hn : N.1 ≤ 11) (hpc : N.2.2.2.2.1 ≤ 55) (hi : i < N.1) (hj : j < N.1) (hij : i ≠ j) : pnCt mX6_line adK (d + 2) 0 0 [.ref 0, .int (nI i), .int (nI j), .int (nI 2)] (hP b tp fp N A Q C W Z ask rf) (pnIs (.inl (some (.int (pwN N.2.2.2.2.2.2.1 (bL (lnN N.1 i j)) 0 N.2.2.2.2.1)))) (hP b tp fp N A Q C W Z ask rf)) := by
  refine pnCt_of (by decide) kX6_line (Nat.le_of_ble_eq_true rfl) rfl (hP_cl hq) (pnCS_b rfl) ?_
  have h1 : hasN N.1 (nI i) = true := by unfold hasN; rw [nI_toInt (by omega)]; exact decide_eq_true (by omega)
  have h2 : hasN N.1 (nI j) = true := by unfold hasN; rw [nI_toInt (by omega)]; exact decide_eq_true (by omega)
  refine pn_aload_n (q := 1) dX6_line_0 rfl rfl rfl ?_
  refine pn_iload_n (q := 2) dX6_line_1 rfl rfl ?_
  refine pn_idV (q := 5) (bc9 := 0) (bs9 := 0) (p_requireNode adK d b tp fp N A Q C W Z ask rf hq (nI i) hn h1) lkX6_222 dX6_line_2 rfl rfl (hP_cl hq) (hP_cl hq) (Nat.le_of_ble_eq_true rfl) rfl rfl rfl rfl rfl rfl (by omega) (by omega) (by omega) (Nat.le_of_ble_eq_true rfl) ?_
  refine pn_aload_n (q := 6) dX6_line_5 rfl rfl rfl ?_
  refine pn_iload_n (q := 7) dX6_line_6 rfl rfl ?_
  refine pn_idV (q := 10) (bc9 := 0) (bs9 := 0) (p_requireNode adK d b tp fp N A Q C W Z ask rf hq (nI j) hn h2) lkX6_222 dX6_line_7 rfl rfl (hP_cl hq) (hP_cl hq) (Nat.le_of_ble_eq_true rfl) rfl rfl rfl rfl rfl rfl (by omega) (by omega) (by omega) (Nat.le_of_ble_eq_true rfl) ?_
  refine pn_iload_n (q := 11) dX6_line_10 rfl rfl ?_
  refine pn_iload_n (q := 12) dX6_line_11 rfl rfl ?_
  first | refine pn_nne (q := 15) (tgt := 35) dX6_line_12 (by decide) rfl (by omega) (by omega) (fun hc12 => ?_) (fun hc12 => ?_) | refine pn_icmp_ne (q := 15) (tgt := 35) dX6_line_12 (by decide) rfl (fun hc12 => ?_) (fun hc12 => ?_)
  · refine pn_aload_n (q := 36) dX6_line_35 rfl rfl rfl ?_
    refine pn_iload_n (q := 37) dX6_line_36 rfl rfl ?_
    refine pn_iconst (q := 38) (v := nI 2) dX6_line_37 rfl (by decide) ?_
    refine pn_idV (q := 41) (bc9 := 0) (bs9 := 0) (p_requireWhat adK d b tp fp N A Q C W Z ask rf hq 2 2 (by omega) (by omega)) lkX6_203 dX6_line_38 rfl rfl (hP_cl hq) (hP_cl hq) (Nat.le_of_ble_eq_true rfl) rfl rfl rfl rfl rfl rfl (by omega) (by omega) (by omega) (Nat.le_of_ble_eq_true rfl) ?_
    refine pn_aload_n (q := 42) dX6_line_41 rfl rfl rfl ?_
    refine pn_get (q := 45) fX6_23 dX6_line_42 rfl rfl rfl ?_
    refine pn_iload_n (q := 46) dX6_line_45 rfl rfl ?_
    refine pn_iload_n (q := 47) dX6_line_46 rfl rfl ?_
    refine pn_roV1 (q := 50) (c_lineNumber adK d N.1 N.2.1 N.2.2.1 N.2.2.2.1 N.2.2.2.2.1 N.2.2.2.2.2.1 N.2.2.2.2.2.2.1 N.2.2.2.2.2.2.2.1 N.2.2.2.2.2.2.2.2 i j hn hi hj hij) lkX6_227 dX6_line_47 rfl rfl (pnSel_of (I := [2, 3, 4, 5]) rfl rfl) (pnFree_none rfl) rfl rfl rfl (by omega) (Nat.le_of_ble_eq_true rfl) rfl ?_
    refine pn_istore (q := 52) dX6_line_50 rfl (by decide) ?_
    refine pn_iload_n (q := 53) dX6_line_52 rfl rfl ?_
    first | refine pn_zne (q := 56) (tgt := 59) dX6_line_53 (by decide) rfl (by omega) (fun hc53 => ?_) (fun hc53 => ?_) | refine pn_if_ne (q := 56) (tgt := 59) dX6_line_53 (by decide) rfl (fun hc53 => ?_) (fun hc53 => ?_)
    · refine pn_iload_n (q := 60) dX6_line_59 rfl rfl ?_
      refine pn_iconst (q := 61) (v := nI 1) dX6_line_60 rfl (by decide) ?_
      first | refine pn_nne (q := 64) (tgt := 78) dX6_line_61 (by decide) rfl (by omega) (by omega) (fun hc61 => ?_) (fun hc61 => ?_) | refine pn_icmp_ne (q := 64) (tgt := 78) dX6_line_61 (by decide) rfl (fun hc61 => ?_) (fun hc61 => ?_)
      · refine pn_aload_n (q := 79) dX6_line_78 rfl rfl rfl ?_
        refine pn_get (q := 82) fX6_23 dX6_line_79 rfl rfl rfl ?_
        refine pn_lconst (q := 83) (v := 1) dX6_line_82 rfl (by decide) ?_
        refine pn_iload (q := 85) dX6_line_83 rfl rfl ?_
        refine pn_lshl (q := 86) dX6_line_85 rfl ?_
        refine pn_roV1 (q := 89) (c_partWith adK d N.1 N.2.1 N.2.2.1 N.2.2.2.1 N.2.2.2.2.1 N.2.2.2.2.2.1 N.2.2.2.2.2.2.1 N.2.2.2.2.2.2.2.1 N.2.2.2.2.2.2.2.2 (bL (lnN N.1 i j)) hpc) lkX6_231 dX6_line_86 rfl rfl (pnSel_of (I := [2, 3, 4, 5]) rfl rfl) (pnFree_none rfl) rfl rfl rfl (by omega) (Nat.le_of_ble_eq_true rfl) rfl ?_
        refine pn_iret dX6_line_89 rfl ?_
        exact ⟨rfl, rfl⟩
      · omega
    · omega
  · omega
