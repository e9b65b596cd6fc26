/-! base, cover, good -/
set_option maxRecDepth 100000 in
theorem p_base (adK : Nat → Nat) (d : Nat) (b : Nat → Int32) (tp : Nat) (fp : Int32) (N : NS) (A : AS) (Q : QS) (C : CS) (W : WS) (Z : SS) (ask : Nat → Int32) (rf : Nat → Nat) (hq : Q.1 = 8 ∨ Q.1 = 9) (bN : Nat → Nat) (hbs : N.2.2.2.2.2.2.2.1 = fun j => nI (bN j)) (i j : Nat) (hsh : N.2.2.1 ≤ 3) (hbc : N.2.2.2.2.2.1 ≤ 4) (hi : i < N.2.2.2.2.2.1) (hj : j < plN N.2.2.1 N.2.2.2.1) (hp5 : plN N.2.2.1 N.2.2.2.1 ≤ 5) : pnCt mX6_base adK (d + 2) 0 0 [.ref 0, .int (nI i), .int (nI j)] (hP b tp fp N A Q C W Z ask rf) (pnIs (.inl (some (.int (nI (bN (i * 5 + j)))))) (hP b tp fp N A Q C W Z ask rf)) := by
  refine pnCt_of (by decide) kX6_base (Nat.le_of_ble_eq_true rfl) rfl (hP_cl hq) (pnCS_b rfl) ?_
  have CB := c_baseNode adK d N.1 N.2.1 N.2.2.1 N.2.2.2.1 N.2.2.2.2.1 N.2.2.2.2.2.1 N.2.2.2.2.2.2.1 bN N.2.2.2.2.2.2.2.2 i j (by omega) (by omega)
  rw [← hbs] at CB
  refine pn_iload_n (q := 1) dX6_base_0 rfl rfl ?_
  first | refine pn_zlt (q := 4) (tgt := 15) dX6_base_1 (by decide) rfl (by omega) (fun hc1 => ?_) (fun hc1 => ?_) | refine pn_if_lt (q := 4) (tgt := 15) dX6_base_1 (by decide) rfl (fun hc1 => ?_) (fun hc1 => ?_)
  · exact hc1.elim
  · refine pn_iload_n (q := 5) dX6_base_4 rfl rfl ?_
    refine pn_aload_n (q := 6) dX6_base_5 rfl rfl rfl ?_
    refine pn_get (q := 9) fX6_23 dX6_base_6 rfl rfl rfl ?_
    refine pn_get (q := 12) fX6_212 dX6_base_9 rfl rfl rfl ?_
    first | refine pn_nlt (q := 15) (tgt := 36) dX6_base_12 (by decide) rfl (by omega) (by omega) (fun hc12 => ?_) (fun hc12 => ?_) | refine pn_icmp_lt (q := 15) (tgt := 36) dX6_base_12 (by decide) rfl (fun hc12 => ?_) (fun hc12 => ?_)
    · refine pn_iload_n (q := 37) dX6_base_36 rfl rfl ?_
      first | refine pn_zlt (q := 40) (tgt := 51) dX6_base_37 (by decide) rfl (by omega) (fun hc37 => ?_) (fun hc37 => ?_) | refine pn_if_lt (q := 40) (tgt := 51) dX6_base_37 (by decide) rfl (fun hc37 => ?_) (fun hc37 => ?_)
      · exact hc37.elim
      · refine pn_iload_n (q := 41) dX6_base_40 rfl rfl ?_
        refine pn_aload_n (q := 42) dX6_base_41 rfl rfl rfl ?_
        refine pn_get (q := 45) fX6_23 dX6_base_42 rfl rfl rfl ?_
        refine pn_roV1 (q := 48) (c_places adK d N.1 N.2.1 N.2.2.1 N.2.2.2.1 N.2.2.2.2.1 N.2.2.2.2.2.1 N.2.2.2.2.2.2.1 N.2.2.2.2.2.2.2.1 N.2.2.2.2.2.2.2.2 hsh) lkX6_288 dX6_base_45 rfl rfl (pnSel_of (I := [2, 3, 4, 5]) rfl rfl) (pnFree_none rfl) rfl rfl rfl (by omega) (Nat.le_of_ble_eq_true rfl) rfl ?_
        first | refine pn_nlt (q := 51) (tgt := 53) dX6_base_48 (by decide) rfl (by omega) (by omega) (fun hc48 => ?_) (fun hc48 => ?_) | refine pn_icmp_lt (q := 51) (tgt := 53) dX6_base_48 (by decide) rfl (fun hc48 => ?_) (fun hc48 => ?_)
        · refine pn_aload_n (q := 54) dX6_base_53 rfl rfl rfl ?_
          refine pn_get (q := 57) fX6_23 dX6_base_54 rfl rfl rfl ?_
          refine pn_iload_n (q := 58) dX6_base_57 rfl rfl ?_
          refine pn_iload_n (q := 59) dX6_base_58 rfl rfl ?_
          refine pn_roV1 (q := 62) (CB) lkX6_291 dX6_base_59 rfl rfl (pnSel_of (I := [2, 3, 4, 5]) rfl rfl) (pnFree_none rfl) rfl rfl rfl (by omega) (Nat.le_of_ble_eq_true rfl) rfl ?_
          refine pn_iret dX6_base_62 rfl ?_
          exact ⟨rfl, rfl⟩
        · omega
    · omega
set_option maxRecDepth 100000 in
theorem p_baseNo (adK : Nat → Nat) (d : Nat) (b : Nat → Int32) (tp : Nat) (fp : Int32) (N : NS) (A : AS) (Q : QS) (C : CS) (W : WS) (Z : SS) (ask : Nat → Int32) (rf : Nat → Nat) (hq : Q.1 = 8 ∨ Q.1 = 9) (i : Nat) (y : Int32) (hsh : N.2.2.1 ≤ 3) (hbc : N.2.2.2.2.2.1 ≤ 4) (hi : i < N.2.2.2.2.2.1) (hy : hasN (plN N.2.2.1 N.2.2.2.1) y = false) (hp5 : plN N.2.2.1 N.2.2.2.1 ≤ 6) : pnCt mX6_base adK (d + 2) 0 0 [.ref 0, .int (nI i), .int y] (hP b tp fp N A Q C W Z ask rf) (pnIs (.inl (some (.int (-1)))) (hP b tp fp N A Q C W Z ask rf)) := by
  refine pnCt_of (by decide) kX6_base (Nat.le_of_ble_eq_true rfl) rfl (hP_cl hq) (pnCS_b rfl) ?_
  rcases hasN_cases y (plN N.2.2.1 N.2.2.2.1) (by omega) with ⟨h1, -⟩ | ⟨h1, h2, -⟩ | ⟨j, -, -, h1⟩
  · refine pn_iload_n (q := 1) dX6_base_0 rfl rfl ?_
    first | refine pn_zlt (q := 4) (tgt := 15) dX6_base_1 (by decide) rfl (by omega) (fun hc1 => ?_) (fun hc1 => ?_) | refine pn_if_lt (q := 4) (tgt := 15) dX6_base_1 (by decide) rfl (fun hc1 => ?_) (fun hc1 => ?_)
    · exact hc1.elim
    · refine pn_iload_n (q := 5) dX6_base_4 rfl rfl ?_
      refine pn_aload_n (q := 6) dX6_base_5 rfl rfl rfl ?_
      refine pn_get (q := 9) fX6_23 dX6_base_6 rfl rfl rfl ?_
      refine pn_get (q := 12) fX6_212 dX6_base_9 rfl rfl rfl ?_
      first | refine pn_nlt (q := 15) (tgt := 36) dX6_base_12 (by decide) rfl (by omega) (by omega) (fun hc12 => ?_) (fun hc12 => ?_) | refine pn_icmp_lt (q := 15) (tgt := 36) dX6_base_12 (by decide) rfl (fun hc12 => ?_) (fun hc12 => ?_)
      · refine pn_iload_n (q := 37) dX6_base_36 rfl rfl ?_
        refine pn_if_lt (q := 40) (tgt := 51) dX6_base_37 (by decide) rfl (fun hc37 => ?_) (fun hc37 => ?_)
        · refine pn_iconst (q := 52) (v := (-1)) dX6_base_51 rfl (by decide) ?_
          refine pn_iret dX6_base_52 rfl ?_
          exact ⟨rfl, rfl⟩
        · exact (hc37 h1).elim
      · omega
  · refine pn_iload_n (q := 1) dX6_base_0 rfl rfl ?_
    first | refine pn_zlt (q := 4) (tgt := 15) dX6_base_1 (by decide) rfl (by omega) (fun hc1 => ?_) (fun hc1 => ?_) | refine pn_if_lt (q := 4) (tgt := 15) dX6_base_1 (by decide) rfl (fun hc1 => ?_) (fun hc1 => ?_)
    · exact hc1.elim
    · refine pn_iload_n (q := 5) dX6_base_4 rfl rfl ?_
      refine pn_aload_n (q := 6) dX6_base_5 rfl rfl rfl ?_
      refine pn_get (q := 9) fX6_23 dX6_base_6 rfl rfl rfl ?_
      refine pn_get (q := 12) fX6_212 dX6_base_9 rfl rfl rfl ?_
      first | refine pn_nlt (q := 15) (tgt := 36) dX6_base_12 (by decide) rfl (by omega) (by omega) (fun hc12 => ?_) (fun hc12 => ?_) | refine pn_icmp_lt (q := 15) (tgt := 36) dX6_base_12 (by decide) rfl (fun hc12 => ?_) (fun hc12 => ?_)
      · refine pn_iload_n (q := 37) dX6_base_36 rfl rfl ?_
        refine pn_if_lt (q := 40) (tgt := 51) dX6_base_37 (by decide) rfl (fun hc37 => ?_) (fun hc37 => ?_)
        · exact (h2 hc37).elim
        · refine pn_iload_n (q := 41) dX6_base_40 rfl rfl ?_
          refine pn_aload_n (q := 42) dX6_base_41 rfl rfl rfl ?_
          refine pn_get (q := 45) fX6_23 dX6_base_42 rfl rfl rfl ?_
          refine pn_roV1 (q := 48) (c_places adK d N.1 N.2.1 N.2.2.1 N.2.2.2.1 N.2.2.2.2.1 N.2.2.2.2.2.1 N.2.2.2.2.2.2.1 N.2.2.2.2.2.2.2.1 N.2.2.2.2.2.2.2.2 hsh) lkX6_288 dX6_base_45 rfl rfl (pnSel_of (I := [2, 3, 4, 5]) rfl rfl) (pnFree_none rfl) rfl rfl rfl (by omega) (Nat.le_of_ble_eq_true rfl) rfl ?_
          refine pn_icmp_lt (q := 51) (tgt := 53) dX6_base_48 (by decide) rfl (fun hc48 => ?_) (fun hc48 => ?_)
          · exact (nI_gapL (by omega) h1 hc48).elim
          · refine pn_iconst (q := 52) (v := (-1)) dX6_base_51 rfl (by decide) ?_
            refine pn_iret dX6_base_52 rfl ?_
            exact ⟨rfl, rfl⟩
      · omega
  · rw [hy] at h1; cases h1
set_option maxRecDepth 100000 in
theorem p_baseX (adK : Nat → Nat) (d : Nat) (b : Nat → Int32) (tp : Nat) (fp : Int32) (N : NS) (A : AS) (Q : QS) (C : CS) (W : WS) (Z : SS) (ask : Nat → Int32) (rf : Nat → Nat) (hq : Q.1 = 8 ∨ Q.1 = 9) (x y : Int32) (hbc : N.2.2.2.2.2.1 ≤ 4) (hx : hasN N.2.2.2.2.2.1 x = false) : pnCt mX6_base adK (d + 6) 1 6 [.ref 0, .int x, .int y] (hP b tp fp N A Q C W Z ask rf) (pnIs (.inr "java/util/NoSuchElementException") (hP b tp fp N A Q C W Z ask (updN rf 0 (rf 0 + 1)))) := by
  refine pnCt_of (by decide) kX6_base (Nat.le_of_ble_eq_true rfl) rfl (hP_cl hq) (pnCS_b rfl) ?_
  rcases hasN_cases x N.2.2.2.2.2.1 (by omega) with ⟨h1, -⟩ | ⟨h1, h2, -⟩ | ⟨j, -, -, h1⟩
  · refine pn_iload_n (q := 1) dX6_base_0 rfl rfl ?_
    refine pn_if_lt (q := 4) (tgt := 15) dX6_base_1 (by decide) rfl (fun hc1 => ?_) (fun hc1 => ?_)
    · refine pn_aload_n (q := 16) dX6_base_15 rfl rfl rfl ?_
      refine pn_get (q := 19) fX6_66 dX6_base_16 rfl rfl rfl ?_
      refine pn_iconst (q := 20) (v := nI 0) dX6_base_19 rfl (by decide) ?_
      first | refine pn_dup2 (q := 21) dX6_base_20 rfl rfl rfl ?_ | refine pn_dup2l (q := 21) dX6_base_20 rfl ?_
      refine pn_iald (q := 22) dX6_base_21 rfl rfl rfl (by omega) (by first | decide | omega) ?_
      refine pn_iconst (q := 23) (v := nI 1) dX6_base_22 rfl (by decide) ?_
      first | with_reducible refine pn_iaddN (q := 24) dX6_base_23 rfl ?_ | refine pn_iadd (q := 24) dX6_base_23 rfl ?_
      refine pn_iast (q := 25) dX6_base_24 rfl rfl rfl (by omega) (by first | decide | omega) ?_; rw [updN_nI]
      refine pn_bud (bc' := 0 + 1) (bs' := 0 + 6) ?_ (by omega) (by omega)
      exact pn_thrNW (j := 24) rfl xf_nse pw_841 pw_98 (pnOkW_of xw_nse) xg_nse dX6_base_25 dX6_base_28 dX6_base_29 dX6_base_32 dX6_base_35 rfl (by omega) (Nat.le_of_ble_eq_true rfl) (⟨rfl, rfl⟩)
    · exact (hc1 h1).elim
  · refine pn_iload_n (q := 1) dX6_base_0 rfl rfl ?_
    refine pn_if_lt (q := 4) (tgt := 15) dX6_base_1 (by decide) rfl (fun hc1 => ?_) (fun hc1 => ?_)
    · exact (h2 hc1).elim
    · refine pn_iload_n (q := 5) dX6_base_4 rfl rfl ?_
      refine pn_aload_n (q := 6) dX6_base_5 rfl rfl rfl ?_
      refine pn_get (q := 9) fX6_23 dX6_base_6 rfl rfl rfl ?_
      refine pn_get (q := 12) fX6_212 dX6_base_9 rfl rfl rfl ?_
      refine pn_icmp_lt (q := 15) (tgt := 36) dX6_base_12 (by decide) rfl (fun hc12 => ?_) (fun hc12 => ?_)
      · exact (nI_gapL (by omega) h1 hc12).elim
      · refine pn_aload_n (q := 16) dX6_base_15 rfl rfl rfl ?_
        refine pn_get (q := 19) fX6_66 dX6_base_16 rfl rfl rfl ?_
        refine pn_iconst (q := 20) (v := nI 0) dX6_base_19 rfl (by decide) ?_
        first | refine pn_dup2 (q := 21) dX6_base_20 rfl rfl rfl ?_ | refine pn_dup2l (q := 21) dX6_base_20 rfl ?_
        refine pn_iald (q := 22) dX6_base_21 rfl rfl rfl (by omega) (by first | decide | omega) ?_
        refine pn_iconst (q := 23) (v := nI 1) dX6_base_22 rfl (by decide) ?_
        first | with_reducible refine pn_iaddN (q := 24) dX6_base_23 rfl ?_ | refine pn_iadd (q := 24) dX6_base_23 rfl ?_
        refine pn_iast (q := 25) dX6_base_24 rfl rfl rfl (by omega) (by first | decide | omega) ?_; rw [updN_nI]
        refine pn_bud (bc' := 0 + 1) (bs' := 0 + 6) ?_ (by omega) (by omega)
        exact pn_thrNW (j := 24) rfl xf_nse pw_841 pw_98 (pnOkW_of xw_nse) xg_nse dX6_base_25 dX6_base_28 dX6_base_29 dX6_base_32 dX6_base_35 rfl (by omega) (Nat.le_of_ble_eq_true rfl) (⟨rfl, rfl⟩)
  · rw [hx] at h1; cases h1
set_option maxRecDepth 100000 in
theorem p_cover (adK : Nat → Nat) (d : Nat) (b : Nat → Int32) (tp : Nat) (fp : Int32) (N : NS) (A : AS) (Q : QS) (C : CS) (W : WS) (Z : SS) (ask : Nat → Int32) (rf : Nat → Nat) (hq : Q.1 = 8 ∨ Q.1 = 9) (bN : Nat → Nat) (hbs : N.2.2.2.2.2.2.2.1 = fun j => nI (bN j)) (m q : Nat) (hS : shOk N.2.2.1 N.2.2.2.1) (hbc : N.2.2.2.2.2.1 ≤ 4) (hbN : ∀ j, bN j ≤ 30) (hm : 3 ≤ m) (hm2 : m ≤ 31) (hq1 : 1 ≤ q) (hq2 : q ≤ m / 2) : pnCt mX6_cover adK (d + 3) 0 0 [.ref 0, .int (nI m), .int (nI q)] (hP b tp fp N A Q C W Z ask rf) (pnIs (.inl (some (.int (nI (cvN N.2.2.1 N.2.2.2.1 bN m q N.2.2.2.2.2.1))))) (hP b tp fp N A Q C W Z ask rf)) := by
  refine pnCt_of (by decide) kX6_cover (Nat.le_of_ble_eq_true rfl) rfl (hP_cl hq) (pnCS_b rfl) ?_
  have CB := c_coverOf adK d N.1 N.2.1 N.2.2.1 N.2.2.2.1 N.2.2.2.2.1 N.2.2.2.2.2.1 N.2.2.2.2.2.2.1 bN N.2.2.2.2.2.2.2.2 m q hS hbc hbN (by omega) hm2 (by omega)
  rw [← hbs] at CB
  refine pn_aload_n (q := 1) dX6_cover_0 rfl rfl rfl ?_
  refine pn_iload_n (q := 2) dX6_cover_1 rfl rfl ?_
  refine pn_idV (q := 5) (bc9 := 0) (bs9 := 0) (p_requireRound adK d b tp fp N A Q C W Z ask rf hq m hm hm2) lkX6_272 dX6_cover_2 rfl rfl (hP_cl hq) (hP_cl hq) (Nat.le_of_ble_eq_true rfl) rfl rfl rfl rfl rfl rfl (by omega) (by omega) (by omega) (Nat.le_of_ble_eq_true rfl) ?_
  refine pn_iload_n (q := 6) dX6_cover_5 rfl rfl ?_
  refine pn_iconst (q := 7) (v := nI 1) dX6_cover_6 rfl (by decide) ?_
  first | refine pn_nlt (q := 10) (tgt := 17) dX6_cover_7 (by decide) rfl (by omega) (by omega) (fun hc7 => ?_) (fun hc7 => ?_) | refine pn_icmp_lt (q := 10) (tgt := 17) dX6_cover_7 (by decide) rfl (fun hc7 => ?_) (fun hc7 => ?_)
  · omega
  · refine pn_iload_n (q := 11) dX6_cover_10 rfl rfl ?_
    refine pn_iload_n (q := 12) dX6_cover_11 rfl rfl ?_
    refine pn_iconst (q := 13) (v := nI 2) dX6_cover_12 rfl (by decide) ?_
    refine pn_idivN (q := 14) dX6_cover_13 rfl (by omega) ?_
    first | refine pn_nle (q := 17) (tgt := 38) dX6_cover_14 (by decide) rfl (by omega) (by omega) (fun hc14 => ?_) (fun hc14 => ?_) | refine pn_icmp_le (q := 17) (tgt := 38) dX6_cover_14 (by decide) rfl (fun hc14 => ?_) (fun hc14 => ?_)
    · refine pn_aload_n (q := 39) dX6_cover_38 rfl rfl rfl ?_
      refine pn_get (q := 42) fX6_23 dX6_cover_39 rfl rfl rfl ?_
      refine pn_iload_n (q := 43) dX6_cover_42 rfl rfl ?_
      refine pn_iload_n (q := 44) dX6_cover_43 rfl rfl ?_
      refine pn_roV1 (q := 47) (CB) lkX6_277 dX6_cover_44 rfl rfl (pnSel_of (I := [2, 3, 4, 5]) rfl rfl) (pnFree_none rfl) rfl rfl rfl (by omega) (Nat.le_of_ble_eq_true rfl) rfl ?_
      refine pn_iret dX6_cover_47 rfl ?_
      exact ⟨rfl, rfl⟩
    · omega
set_option maxRecDepth 100000 in
theorem p_coverXa (adK : Nat → Nat) (d : Nat) (b : Nat → Int32) (tp : Nat) (fp : Int32) (N : NS) (A : AS) (Q : QS) (C : CS) (W : WS) (Z : SS) (ask : Nat → Int32) (rf : Nat → Nat) (hq : Q.1 = 8 ∨ Q.1 = 9) (w v : Int32) (hw : rdB w = false) : pnCt mX6_cover adK (d + 7) 1 6 [.ref 0, .int w, .int v] (hP b tp fp N A Q C W Z ask rf) (pnIs (.inr "java/lang/IllegalArgumentException") (hP b tp fp N A Q C W Z ask (updN rf 1 (rf 1 + 1)))) := by
  refine pnCt_of (by decide) kX6_cover (Nat.le_of_ble_eq_true rfl) rfl (hP_cl hq) (pnCS_b rfl) ?_
  refine pn_aload_n (q := 1) dX6_cover_0 rfl rfl rfl ?_
  refine pn_iload_n (q := 2) dX6_cover_1 rfl rfl ?_
  refine pn_idVX (q := 5) (p_requireRoundX adK d b tp fp N A Q C W Z ask rf hq w hw) lkX6_272 dX6_cover_2 rfl rfl (hP_cl hq) (hP_cl hq) (Nat.le_of_ble_eq_true rfl) rfl rfl rfl rfl rfl (by omega) (by omega) (by omega) (Nat.le_of_ble_eq_true rfl) rfl (⟨rfl, rfl⟩)
set_option maxRecDepth 100000 in
theorem p_coverXb (adK : Nat → Nat) (d : Nat) (b : Nat → Int32) (tp : Nat) (fp : Int32) (N : NS) (A : AS) (Q : QS) (C : CS) (W : WS) (Z : SS) (ask : Nat → Int32) (rf : Nat → Nat) (hq : Q.1 = 8 ∨ Q.1 = 9) (m : Nat) (v : Int32) (hm : 3 ≤ m) (hm2 : m ≤ 31) (hv : ¬ (1 ≤ v.toInt ∧ v.toInt ≤ ((m / 2 : Nat) : Int))) : pnCt mX6_cover adK (d + 7) 1 6 [.ref 0, .int (nI m), .int v] (hP b tp fp N A Q C W Z ask rf) (pnIs (.inr "java/lang/IllegalArgumentException") (hP b tp fp N A Q C W Z ask (updN rf 1 (rf 1 + 1)))) := by
  refine pnCt_of (by decide) kX6_cover (Nat.le_of_ble_eq_true rfl) rfl (hP_cl hq) (pnCS_b rfl) ?_
  by_cases h1 : v < nI 1
  · refine pn_aload_n (q := 1) dX6_cover_0 rfl rfl rfl ?_
    refine pn_iload_n (q := 2) dX6_cover_1 rfl rfl ?_
    refine pn_idV (q := 5) (bc9 := 1) (bs9 := 6) (p_requireRound adK d b tp fp N A Q C W Z ask rf hq m hm hm2) lkX6_272 dX6_cover_2 rfl rfl (hP_cl hq) (hP_cl hq) (Nat.le_of_ble_eq_true rfl) rfl rfl rfl rfl rfl rfl (by omega) (by omega) (by omega) (Nat.le_of_ble_eq_true rfl) ?_
    refine pn_iload_n (q := 6) dX6_cover_5 rfl rfl ?_
    refine pn_iconst (q := 7) (v := nI 1) dX6_cover_6 rfl (by decide) ?_
    refine pn_icmp_lt (q := 10) (tgt := 17) dX6_cover_7 (by decide) rfl (fun hc7 => ?_) (fun hc7 => ?_)
    · refine pn_aload_n (q := 18) dX6_cover_17 rfl rfl rfl ?_
      refine pn_get (q := 21) fX6_66 dX6_cover_18 rfl rfl rfl ?_
      refine pn_iconst (q := 22) (v := nI 1) dX6_cover_21 rfl (by decide) ?_
      first | refine pn_dup2 (q := 23) dX6_cover_22 rfl rfl rfl ?_ | refine pn_dup2l (q := 23) dX6_cover_22 rfl ?_
      refine pn_iald (q := 24) dX6_cover_23 rfl rfl rfl (by omega) (by first | decide | omega) ?_
      refine pn_iconst (q := 25) (v := nI 1) dX6_cover_24 rfl (by decide) ?_
      first | with_reducible refine pn_iaddN (q := 26) dX6_cover_25 rfl ?_ | refine pn_iadd (q := 26) dX6_cover_25 rfl ?_
      refine pn_iast (q := 27) dX6_cover_26 rfl rfl rfl (by omega) (by first | decide | omega) ?_; rw [updN_nI]
      refine pn_bud (bc' := 0 + 1) (bs' := 0 + 6) ?_ (by omega) (by omega)
      exact pn_thrW (j := 23) rfl xf_iae xf_RE rfl pw_567 pw_89 (pnOkW_of xw_iae) xg_iae dX6_cover_27 dX6_cover_30 dX6_cover_31 dX6_cover_34 dX6_cover_37 rfl (by omega) (Nat.le_of_ble_eq_true rfl) (⟨rfl, rfl⟩)
    · exact (hc7 h1).elim
  · refine pn_aload_n (q := 1) dX6_cover_0 rfl rfl rfl ?_
    refine pn_iload_n (q := 2) dX6_cover_1 rfl rfl ?_
    refine pn_idV (q := 5) (bc9 := 1) (bs9 := 6) (p_requireRound adK d b tp fp N A Q C W Z ask rf hq m hm hm2) lkX6_272 dX6_cover_2 rfl rfl (hP_cl hq) (hP_cl hq) (Nat.le_of_ble_eq_true rfl) rfl rfl rfl rfl rfl rfl (by omega) (by omega) (by omega) (Nat.le_of_ble_eq_true rfl) ?_
    refine pn_iload_n (q := 6) dX6_cover_5 rfl rfl ?_
    refine pn_iconst (q := 7) (v := nI 1) dX6_cover_6 rfl (by decide) ?_
    refine pn_icmp_lt (q := 10) (tgt := 17) dX6_cover_7 (by decide) rfl (fun hc7 => ?_) (fun hc7 => ?_)
    · exact (h1 hc7).elim
    · refine pn_iload_n (q := 11) dX6_cover_10 rfl rfl ?_
      refine pn_iload_n (q := 12) dX6_cover_11 rfl rfl ?_
      refine pn_iconst (q := 13) (v := nI 2) dX6_cover_12 rfl (by decide) ?_
      refine pn_idivN (q := 14) dX6_cover_13 rfl (by omega) ?_
      refine pn_icmp_le (q := 17) (tgt := 38) dX6_cover_14 (by decide) rfl (fun hc14 => ?_) (fun hc14 => ?_)
      · (rw [Int32.lt_iff_toInt_lt, nI_toInt (by omega)] at h1; rw [Int32.le_iff_toInt_le, nI_toInt (by omega)] at hc14; omega)
      · refine pn_aload_n (q := 18) dX6_cover_17 rfl rfl rfl ?_
        refine pn_get (q := 21) fX6_66 dX6_cover_18 rfl rfl rfl ?_
        refine pn_iconst (q := 22) (v := nI 1) dX6_cover_21 rfl (by decide) ?_
        first | refine pn_dup2 (q := 23) dX6_cover_22 rfl rfl rfl ?_ | refine pn_dup2l (q := 23) dX6_cover_22 rfl ?_
        refine pn_iald (q := 24) dX6_cover_23 rfl rfl rfl (by omega) (by first | decide | omega) ?_
        refine pn_iconst (q := 25) (v := nI 1) dX6_cover_24 rfl (by decide) ?_
        first | with_reducible refine pn_iaddN (q := 26) dX6_cover_25 rfl ?_ | refine pn_iadd (q := 26) dX6_cover_25 rfl ?_
        refine pn_iast (q := 27) dX6_cover_26 rfl rfl rfl (by omega) (by first | decide | omega) ?_; rw [updN_nI]
        refine pn_bud (bc' := 0 + 1) (bs' := 0 + 6) ?_ (by omega) (by omega)
        exact pn_thrW (j := 23) rfl xf_iae xf_RE rfl pw_567 pw_89 (pnOkW_of xw_iae) xg_iae dX6_cover_27 dX6_cover_30 dX6_cover_31 dX6_cover_34 dX6_cover_37 rfl (by omega) (Nat.le_of_ble_eq_true rfl) (⟨rfl, rfl⟩)
set_option maxRecDepth 100000 in
theorem p_good (adK : Nat → Nat) (d : Nat) (b : Nat → Int32) (tp : Nat) (fp : Int32) (N : NS) (A : AS) (Q : QS) (C : CS) (W : WS) (Z : SS) (ask : Nat → Int32) (rf : Nat → Nat) (hq : Q.1 = 8 ∨ Q.1 = 9) (bN : Nat → Nat) (hbs : N.2.2.2.2.2.2.2.1 = fun j => nI (bN j)) (m : Nat) (hS : shOk N.2.2.1 N.2.2.2.1) (hbc : N.2.2.2.2.2.1 ≤ 4) (hbN : ∀ j, bN j ≤ 30) (hm : 3 ≤ m) (hm2 : m ≤ 31) : pnCt mX6_good adK (d + 4) 0 0 [.ref 0, .int (nI m)] (hP b tp fp N A Q C W Z ask rf) (pnIs (.inl (some (.int (bdN N.2.2.1 N.2.2.2.1 bN m N.2.2.2.2.2.1 0 (m / 2 + 1))))) (hP b tp fp N A Q C W Z ask rf)) := by
  refine pnCt_of (by decide) kX6_good (Nat.le_of_ble_eq_true rfl) rfl (hP_cl hq) (pnCS_b rfl) ?_
  have CB := c_badDifference adK d N.1 N.2.1 N.2.2.1 N.2.2.2.1 N.2.2.2.2.1 N.2.2.2.2.2.1 N.2.2.2.2.2.2.1 bN N.2.2.2.2.2.2.2.2 m hS hbc hbN (by omega) hm2
  rw [← hbs] at CB
  refine pn_aload_n (q := 1) dX6_good_0 rfl rfl rfl ?_
  refine pn_iload_n (q := 2) dX6_good_1 rfl rfl ?_
  refine pn_idV (q := 5) (bc9 := 0) (bs9 := 0) (p_requireRound adK d b tp fp N A Q C W Z ask rf hq m hm hm2) lkX6_272 dX6_good_2 rfl rfl (hP_cl hq) (hP_cl hq) (Nat.le_of_ble_eq_true rfl) rfl rfl rfl rfl rfl rfl (by omega) (by omega) (by omega) (Nat.le_of_ble_eq_true rfl) ?_
  refine pn_aload_n (q := 6) dX6_good_5 rfl rfl rfl ?_
  refine pn_get (q := 9) fX6_23 dX6_good_6 rfl rfl rfl ?_
  refine pn_iload_n (q := 10) dX6_good_9 rfl rfl ?_
  refine pn_roV1 (q := 13) (CB) lkX6_282 dX6_good_10 rfl rfl (pnSel_of (I := [2, 3, 4, 5]) rfl rfl) (pnFree_none rfl) rfl rfl rfl (by omega) (Nat.le_of_ble_eq_true rfl) rfl ?_
  refine pn_iret dX6_good_13 rfl ?_
  exact ⟨rfl, rfl⟩
set_option maxRecDepth 100000 in
theorem p_goodX (adK : Nat → Nat) (d : Nat) (b : Nat → Int32) (tp : Nat) (fp : Int32) (N : NS) (A : AS) (Q : QS) (C : CS) (W : WS) (Z : SS) (ask : Nat → Int32) (rf : Nat → Nat) (hq : Q.1 = 8 ∨ Q.1 = 9) (w : Int32) (hw : rdB w = false) : pnCt mX6_good adK (d + 7) 1 6 [.ref 0, .int w] (hP b tp fp N A Q C W Z ask rf) (pnIs (.inr "java/lang/IllegalArgumentException") (hP b tp fp N A Q C W Z ask (updN rf 1 (rf 1 + 1)))) := by
  refine pnCt_of (by decide) kX6_good (Nat.le_of_ble_eq_true rfl) rfl (hP_cl hq) (pnCS_b rfl) ?_
  refine pn_aload_n (q := 1) dX6_good_0 rfl rfl rfl ?_
  refine pn_iload_n (q := 2) dX6_good_1 rfl rfl ?_
  refine pn_idVX (q := 5) (p_requireRoundX adK d b tp fp N A Q C W Z ask rf hq w hw) lkX6_272 dX6_good_2 rfl rfl (hP_cl hq) (hP_cl hq) (Nat.le_of_ble_eq_true rfl) rfl rfl rfl rfl rfl (by omega) (by omega) (by omega) (Nat.le_of_ble_eq_true rfl) rfl (⟨rfl, rfl⟩)
/-! acts: keep and takeBack for every place of the ring -/
theorem c_keep (adK : Nat → Nat) (d cnt nxt : Nat) (S : Nat → NS) (s : NS) (hc : cnt ≤ 8) (hn : nxt < 8) : pnCt mX0_keep adK (d + 2) 0 0 [.ref 0, .ref 34] (hActs cnt nxt S ++ hNS 34 s) (pnIs (.inl none) (hActs (min (cnt + 1) 8) ((nxt + 1) % 8) (upS S nxt (nsB s (nsF (S nxt)))) ++ hNS 34 s)) := by
  match nxt, hn with
  | 0, _ => exact c_keep0 adK d cnt S s hc
  | 1, _ => exact c_keep1 adK d cnt S s hc
  | 2, _ => exact c_keep2 adK d cnt S s hc
  | 3, _ => exact c_keep3 adK d cnt S s hc
  | 4, _ => exact c_keep4 adK d cnt S s hc
  | 5, _ => exact c_keep5 adK d cnt S s hc
  | 6, _ => exact c_keep6 adK d cnt S s hc
  | 7, _ => exact c_keep7 adK d cnt S s hc
  | n + 8, h => omega
theorem c_takeBack (adK : Nat → Nat) (d cnt nxt : Nat) (S : Nat → NS) (s : NS) (hc : cnt ≤ 8) (hc1 : 0 < cnt) (hn : nxt < 8) : pnCt mX0_takeBack adK (d + 2) 0 0 [.ref 0, .ref 34] (hActs cnt nxt S ++ hNS 34 s) (pnIs (.inl none) (hActs (cnt - 1) ((nxt + 7) % 8) S ++ hNS 34 (nsB (S ((nxt + 7) % 8)) (nsF s)))) := by
  match nxt, hn with
  | 0, _ => exact c_takeBack0 adK d cnt S s hc hc1
  | 1, _ => exact c_takeBack1 adK d cnt S s hc hc1
  | 2, _ => exact c_takeBack2 adK d cnt S s hc hc1
  | 3, _ => exact c_takeBack3 adK d cnt S s hc hc1
  | 4, _ => exact c_takeBack4 adK d cnt S s hc hc1
  | 5, _ => exact c_takeBack5 adK d cnt S s hc hc1
  | 6, _ => exact c_takeBack6 adK d cnt S s hc hc1
  | 7, _ => exact c_takeBack7 adK d cnt S s hc hc1
  | n + 8, h => omega
set_option maxRecDepth 100000 in
theorem hP_selA {b : Nat → Int32} {tp : Nat} {fp : Int32} {N : NS} {A : AS} {Q : QS} {C : CS} {W : WS} {Z : SS} {ask : Nat → Int32} {rf : Nat → Nat} : pnSel (hP b tp fp N A Q C W Z ask rf) IA (hActs A.1 A.2.1 A.2.2 ++ hNS 34 N) := pnSel_of rfl rfl
theorem pnPut_mid : ∀ (cs A B C : List pnE) (n m : Nat), A.length = n → B.length = m → cs.length = m → pnPut (A ++ (B ++ C)) (List.range' n m) cs = A ++ (cs ++ C)
  | [], A, B, C, n, m, hA, hB, hc => by
    have e : m = 0 := hc.symm
    subst e
    have : B = [] := List.eq_nil_of_length_eq_zero hB
    subst this
    rfl
  | c :: cs, A, [], C, n, m, hA, hB, hc => by
    subst hB; cases hc
  | c :: cs, A, x :: B, C, n, 0, hA, hB, hc => by cases hc
  | c :: cs, A, x :: B, C, n, m + 1, hA, hB, hc => by
    have e1 : (A ++ (x :: B ++ C)).set n c = (A ++ [c]) ++ (B ++ C) := by
      subst hA
      rw [List.set_append_right _ _ (Nat.le_refl _), Nat.sub_self]
      simp
    show pnPut ((A ++ (x :: B ++ C)).set n c) (List.range' (n + 1) m) cs = _
    rw [e1, pnPut_mid cs (A ++ [c]) B C (n + 1) m (by simp [hA]) (by simpa using hB) (by simpa using hc)]
    simp
theorem pnPut_app : ∀ (I : List Nat) (J : List Nat) (h cs ds : List pnE), I.length = cs.length → pnPut h (I ++ J) (cs ++ ds) = pnPut (pnPut h I cs) J ds
  | [], J, h, cs, ds, e => by
    have : cs = [] := List.eq_nil_of_length_eq_zero e.symm
    subst this
    have : pnPut h [] ([] : List pnE) = h := rfl
    rw [this]; rfl
  | a :: I, J, h, [], ds, e => by cases e
  | a :: I, J, h, c :: cs, ds, e => pnPut_app I J (h.set a c) cs ds (by simpa using e)
set_option maxRecDepth 100000 in
theorem hActs_RC (c' n' : Nat) (S' : Nat → NS) : (hActs c' n' S').map (pnRC IA) = hPa (c', n', S') := rfl
set_option maxRecDepth 100000 in
theorem hNS_RC (s' : NS) : (hNS 34 s').map (pnRC IA) = hNS 2 s' := rfl
theorem IA_eq : IA = List.range' 6 34 ++ List.range' 2 4 := by decide
theorem hP_backA {b : Nat → Int32} {tp : Nat} {fp : Int32} {N : NS} {A : AS} {Q : QS} {C : CS} {W : WS} {Z : SS} {ask : Nat → Int32} {rf : Nat → Nat} (c' n' : Nat) (S' : Nat → NS) (s' : NS) : pnBack (hP b tp fp N A Q C W Z ask rf) IA (hActs c' n' S' ++ hNS 34 s') = hP b tp fp s' (c', n', S') Q C W Z ask rf := by
  rw [pnBack_same (by rfl), List.map_append, hActs_RC, hNS_RC]
  conv => lhs; rw [IA_eq]
  rw [pnPut_app _ _ _ _ _ (by rfl)]
  have e1 : (hP b tp fp N A Q C W Z ask rf) = (.inr (6, [.ref 1, .int (nI tp), .int fp, .ref 2, .ref 6, .ref 40, .ref 49, .ref 53, .ref 56, .ref 59, .ref 60]) :: .inl (2, 300, .inl b) :: hNS 2 N) ++ (hPa A ++ (hPr Q ++ (hPc C ++ (hPw W ++ (hPs Z ++ [.inl (0, 5, .inl ask), .inl (0, 3, .inl (fun j => nI (rf j)))]))))) := rfl
  rw [e1, pnPut_mid (hPa (c', n', S')) _ (hPa A) _ 6 34 rfl rfl rfl]
  exact pnPut_mid (hNS 2 s') [.inr (6, [.ref 1, .int (nI tp), .int fp, .ref 2, .ref 6, .ref 40, .ref 49, .ref 53, .ref 56, .ref 59, .ref 60]), .inl (2, 300, .inl b)] (hNS 2 N) _ 2 4 rfl rfl rfl
abbrev keA (A : AS) (s : NS) : AS := (min (A.1 + 1) 8, (A.2.1 + 1) % 8, upS A.2.2 A.2.1 (nsB s (nsF (A.2.2 A.2.1))))
set_option maxRecDepth 100000 in
theorem p_take (adK : Nat → Nat) (d : Nat) (b : Nat → Int32) (tp : Nat) (fp : Int32) (N : NS) (A : AS) (Q : QS) (C : CS) (W : WS) (Z : SS) (ask : Nat → Int32) (rf : Nat → Nat) (hq : Q.1 = 8 ∨ Q.1 = 9) (hA : A.1 ≤ 8 ∧ A.2.1 < 8) (p : Nat) (hpc : N.2.2.2.2.1 ≤ 55) (hp : p < N.2.2.2.2.1) : pnCt mX6_take adK (d + 3) 0 0 [.ref 0, .int (nI p)] (hP b tp fp N A Q C W Z ask rf) (pnIs (.inl (some (.int (nI (N.2.2.2.2.1 - 1))))) (hP b tp fp (N.1, N.2.1, N.2.2.1, N.2.2.2.1, N.2.2.2.2.1 - 1, N.2.2.2.2.2.1, shN N.2.2.2.2.2.2.1 p (N.2.2.2.2.1 - 1 - p), N.2.2.2.2.2.2.2) (keA A N) Q C W Z ask rf)) := by
  refine pnCt_of (by decide) kX6_take (Nat.le_of_ble_eq_true rfl) rfl (hP_cl hq) (pnCS_b rfl) ?_
  refine pn_aload_n (q := 1) dX6_take_0 rfl rfl rfl ?_
  refine pn_iload_n (q := 2) dX6_take_1 rfl rfl ?_
  refine pn_idV (q := 5) (bc9 := 0) (bs9 := 0) (p_requirePart adK d b tp fp N A Q C W Z ask rf hq (nI p) hpc (hasN_in hp (by omega))) lkX6_138 dX6_take_2 rfl rfl (hP_cl hq) (hP_cl hq) (Nat.le_of_ble_eq_true rfl) rfl rfl rfl rfl rfl rfl (by omega) (by omega) (by omega) (Nat.le_of_ble_eq_true rfl) ?_
  refine pn_aload_n (q := 6) dX6_take_5 rfl rfl rfl ?_
  refine pn_get (q := 9) fX6_30 dX6_take_6 rfl rfl rfl ?_
  refine pn_aload_n (q := 10) dX6_take_9 rfl rfl rfl ?_
  refine pn_get (q := 13) fX6_23 dX6_take_10 rfl rfl rfl ?_
  refine pn_upV0 (q := 16) (bc9 := 0) (bs9 := 0) (c_keep adK d A.1 A.2.1 A.2.2 N hA.1 hA.2) lkX6_94 dX6_take_13 rfl rfl hP_selA (pnFree_none rfl) rfl rfl rfl (by omega) (by omega) (by omega) (Nat.le_of_ble_eq_true rfl) ?_
  refine pn_eq (h' := _) (st' := _) (hP_backA (keA A N).1 (keA A N).2.1 (keA A N).2.2 N) rfl ?_
  refine pn_aload_n (q := 17) dX6_take_16 rfl rfl rfl ?_
  refine pn_get (q := 20) fX6_23 dX6_take_17 rfl rfl rfl ?_
  refine pn_iload_n (q := 21) dX6_take_20 rfl rfl ?_
  refine pn_upV0 (q := 24) (bc9 := 0) (bs9 := 0) (c_takeOut adK d N.1 N.2.1 N.2.2.1 N.2.2.2.1 N.2.2.2.2.1 N.2.2.2.2.2.1 N.2.2.2.2.2.2.1 N.2.2.2.2.2.2.2.1 N.2.2.2.2.2.2.2.2 p hp hpc) lkX6_141 dX6_take_21 rfl rfl (pnSel_of (I := [2, 3, 4, 5]) rfl rfl) (pnFree_none rfl) rfl rfl rfl (by omega) (by omega) (by omega) (Nat.le_of_ble_eq_true rfl) ?_
  refine pn_eq (h' := (hP b tp fp (N.1, N.2.1, N.2.2.1, N.2.2.2.1, N.2.2.2.2.1 - 1, N.2.2.2.2.2.1, shN N.2.2.2.2.2.2.1 p (N.2.2.2.2.1 - 1 - p), N.2.2.2.2.2.2.2) (keA A N) Q C W Z ask rf)) (st' := _) rfl rfl ?_
  refine pn_aload_n (q := 25) dX6_take_24 rfl rfl rfl ?_
  refine pn_get (q := 28) fX6_23 dX6_take_25 rfl rfl rfl ?_
  refine pn_get (q := 31) fX6_135 dX6_take_28 rfl rfl rfl ?_
  refine pn_iret dX6_take_31 rfl ?_
  exact ⟨rfl, rfl⟩
set_option maxRecDepth 100000 in
theorem p_takeX (adK : Nat → Nat) (d : Nat) (b : Nat → Int32) (tp : Nat) (fp : Int32) (N : NS) (A : AS) (Q : QS) (C : CS) (W : WS) (Z : SS) (ask : Nat → Int32) (rf : Nat → Nat) (hq : Q.1 = 8 ∨ Q.1 = 9) (x : Int32) (hpc : N.2.2.2.2.1 ≤ 55) (hx : hasN N.2.2.2.2.1 x = false) : pnCt mX6_take adK (d + 7) 1 6 [.ref 0, .int x] (hP b tp fp N A Q C W Z ask rf) (pnIs (.inr "java/util/NoSuchElementException") (hP b tp fp N A Q C W Z ask (updN rf 0 (rf 0 + 1)))) := by
  refine pnCt_of (by decide) kX6_take (Nat.le_of_ble_eq_true rfl) rfl (hP_cl hq) (pnCS_b rfl) ?_
  refine pn_aload_n (q := 1) dX6_take_0 rfl rfl rfl ?_
  refine pn_iload_n (q := 2) dX6_take_1 rfl rfl ?_
  refine pn_idVX (q := 5) (p_requirePartX adK d b tp fp N A Q C W Z ask rf hq x hpc hx) lkX6_138 dX6_take_2 rfl rfl (hP_cl hq) (hP_cl hq) (Nat.le_of_ble_eq_true rfl) rfl rfl rfl rfl rfl (by omega) (by omega) (by omega) (Nat.le_of_ble_eq_true rfl) rfl (⟨rfl, rfl⟩)
set_option maxRecDepth 100000 in
theorem p_undo0 (adK : Nat → Nat) (d : Nat) (b : Nat → Int32) (tp : Nat) (fp : Int32) (N : NS) (A : AS) (Q : QS) (C : CS) (W : WS) (Z : SS) (ask : Nat → Int32) (rf : Nat → Nat) (hq : Q.1 = 8 ∨ Q.1 = 9) (hA : A.1 = 0) : pnCt mX6_undo adK d 0 0 [.ref 0] (hP b tp fp N A Q C W Z ask rf) (pnIs (.inl (some (.int (-1)))) (hP b tp fp N A Q C W Z ask rf)) := by
  refine pnCt_of (by decide) kX6_undo (Nat.le_of_ble_eq_true rfl) rfl (hP_cl hq) (pnCS_b rfl) ?_
  refine pn_aload_n (q := 1) dX6_undo_0 rfl rfl rfl ?_
  refine pn_get (q := 4) fX6_30 dX6_undo_1 rfl rfl rfl ?_
  refine pn_get (q := 7) fX6_197 dX6_undo_4 rfl rfl rfl ?_
  first | refine pn_zne (q := 10) (tgt := 12) dX6_undo_7 (by decide) rfl (by omega) (fun hc7 => ?_) (fun hc7 => ?_) | refine pn_if_ne (q := 10) (tgt := 12) dX6_undo_7 (by decide) rfl (fun hc7 => ?_) (fun hc7 => ?_)
  · omega
  · refine pn_iconst (q := 11) (v := (-1)) dX6_undo_10 rfl (by decide) ?_
    refine pn_iret dX6_undo_11 rfl ?_
    exact ⟨rfl, rfl⟩
set_option maxRecDepth 100000 in
theorem p_undo (adK : Nat → Nat) (d : Nat) (b : Nat → Int32) (tp : Nat) (fp : Int32) (N : NS) (A : AS) (Q : QS) (C : CS) (W : WS) (Z : SS) (ask : Nat → Int32) (rf : Nat → Nat) (hq : Q.1 = 8 ∨ Q.1 = 9) (hA : A.1 ≤ 8 ∧ A.2.1 < 8) (hA0 : 0 < A.1) : pnCt mX6_undo adK (d + 3) 0 0 [.ref 0] (hP b tp fp N A Q C W Z ask rf) (pnIs (.inl (some (.int (nI (A.1 - 1))))) (hP b tp fp (nsB (A.2.2 ((A.2.1 + 7) % 8)) (nsF N)) (A.1 - 1, (A.2.1 + 7) % 8, A.2.2) Q C W Z ask rf)) := by
  refine pnCt_of (by decide) kX6_undo (Nat.le_of_ble_eq_true rfl) rfl (hP_cl hq) (pnCS_b rfl) ?_
  have hA1 := hA.1
  refine pn_aload_n (q := 1) dX6_undo_0 rfl rfl rfl ?_
  refine pn_get (q := 4) fX6_30 dX6_undo_1 rfl rfl rfl ?_
  refine pn_get (q := 7) fX6_197 dX6_undo_4 rfl rfl rfl ?_
  first | refine pn_zne (q := 10) (tgt := 12) dX6_undo_7 (by decide) rfl (by omega) (fun hc7 => ?_) (fun hc7 => ?_) | refine pn_if_ne (q := 10) (tgt := 12) dX6_undo_7 (by decide) rfl (fun hc7 => ?_) (fun hc7 => ?_)
  · refine pn_aload_n (q := 13) dX6_undo_12 rfl rfl rfl ?_
    refine pn_get (q := 16) fX6_30 dX6_undo_13 rfl rfl rfl ?_
    refine pn_aload_n (q := 17) dX6_undo_16 rfl rfl rfl ?_
    refine pn_get (q := 20) fX6_23 dX6_undo_17 rfl rfl rfl ?_
    refine pn_upV0 (q := 23) (bc9 := 0) (bs9 := 0) (c_takeBack adK d A.1 A.2.1 A.2.2 N hA.1 hA0 hA.2) lkX6_200 dX6_undo_20 rfl rfl hP_selA (pnFree_none rfl) rfl rfl rfl (by omega) (by omega) (by omega) (Nat.le_of_ble_eq_true rfl) ?_
    refine pn_eq (h' := _) (st' := _) (hP_backA (A.1 - 1) ((A.2.1 + 7) % 8) A.2.2 (nsB (A.2.2 ((A.2.1 + 7) % 8)) (nsF N))) rfl ?_
    refine pn_aload_n (q := 24) dX6_undo_23 rfl rfl rfl ?_
    refine pn_get (q := 27) fX6_30 dX6_undo_24 rfl rfl rfl ?_
    refine pn_get (q := 30) fX6_197 dX6_undo_27 rfl rfl rfl ?_
    refine pn_iret dX6_undo_30 rfl ?_
    exact ⟨rfl, rfl⟩
  · omega
