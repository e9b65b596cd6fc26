theorem hasN_in {n j : Nat} (h : j < n) (hn : n < 1000000) : hasN n (nI j) = true := by unfold hasN; rw [nI_toInt (by omega)]; exact decide_eq_true (by omega)
/-! line, refused -/
set_option maxRecDepth 100000 in
theorem p_lineXa (adK : Nat → Nat) (d : Nat) (b : Nat → Int32) (tp : Nat) (fp : Int32) (N : NS) (A : AS) (Q : QS) (C : CS) (W : WS) (Z : SS) (ask : Nat → Int32) (rf : Nat → Nat) (hq : Q.1 = 8 ∨ Q.1 = 9) (x y w : Int32) (hn : N.1 ≤ 11) (hx : hasN N.1 x = false) : pnCt mX6_line adK (d + 7) 1 6 [.ref 0, .int x, .int y, .int w] (hP b tp fp N A Q C W Z ask rf) (pnIs (.inr "java/util/NoSuchElementException") (hP b tp fp N A Q C W Z ask (updN rf 0 (rf 0 + 1)))) := by
  refine pnCt_of (by decide) kX6_line (Nat.le_of_ble_eq_true rfl) rfl (hP_cl hq) (pnCS_b rfl) ?_
  refine pn_aload_n (q := 1) dX6_line_0 rfl rfl rfl ?_
  refine pn_iload_n (q := 2) dX6_line_1 rfl rfl ?_
  refine pn_idVX (q := 5) (p_requireNodeX adK d b tp fp N A Q C W Z ask rf hq x hn hx) lkX6_222 dX6_line_2 rfl rfl (hP_cl hq) (hP_cl hq) (Nat.le_of_ble_eq_true rfl) rfl rfl rfl rfl rfl (by omega) (by omega) (by omega) (Nat.le_of_ble_eq_true rfl) rfl (⟨rfl, rfl⟩)
set_option maxRecDepth 100000 in
theorem p_lineXb (adK : Nat → Nat) (d : Nat) (b : Nat → Int32) (tp : Nat) (fp : Int32) (N : NS) (A : AS) (Q : QS) (C : CS) (W : WS) (Z : SS) (ask : Nat → Int32) (rf : Nat → Nat) (hq : Q.1 = 8 ∨ Q.1 = 9) (x y w : Int32) (hn : N.1 ≤ 11) (hx : hasN N.1 x = true) (hy : hasN N.1 y = false) : pnCt mX6_line adK (d + 7) 1 6 [.ref 0, .int x, .int y, .int w] (hP b tp fp N A Q C W Z ask rf) (pnIs (.inr "java/util/NoSuchElementException") (hP b tp fp N A Q C W Z ask (updN rf 0 (rf 0 + 1)))) := by
  refine pnCt_of (by decide) kX6_line (Nat.le_of_ble_eq_true rfl) rfl (hP_cl hq) (pnCS_b rfl) ?_
  refine pn_aload_n (q := 1) dX6_line_0 rfl rfl rfl ?_
  refine pn_iload_n (q := 2) dX6_line_1 rfl rfl ?_
  refine pn_idV (q := 5) (bc9 := 1) (bs9 := 6) (p_requireNode adK d b tp fp N A Q C W Z ask rf hq x hn hx) lkX6_222 dX6_line_2 rfl rfl (hP_cl hq) (hP_cl hq) (Nat.le_of_ble_eq_true rfl) rfl rfl rfl rfl rfl rfl (by omega) (by omega) (by omega) (Nat.le_of_ble_eq_true rfl) ?_
  refine pn_aload_n (q := 6) dX6_line_5 rfl rfl rfl ?_
  refine pn_iload_n (q := 7) dX6_line_6 rfl rfl ?_
  refine pn_idVX (q := 10) (p_requireNodeX adK d b tp fp N A Q C W Z ask rf hq y hn hy) lkX6_222 dX6_line_7 rfl rfl (hP_cl hq) (hP_cl hq) (Nat.le_of_ble_eq_true rfl) rfl rfl rfl rfl rfl (by omega) (by omega) (by omega) (Nat.le_of_ble_eq_true rfl) rfl (⟨rfl, rfl⟩)
set_option maxRecDepth 100000 in
theorem p_lineXc (adK : Nat → Nat) (d : Nat) (b : Nat → Int32) (tp : Nat) (fp : Int32) (N : NS) (A : AS) (Q : QS) (C : CS) (W : WS) (Z : SS) (ask : Nat → Int32) (rf : Nat → Nat) (hq : Q.1 = 8 ∨ Q.1 = 9) (x w : Int32) (hn : N.1 ≤ 11) (hx : hasN N.1 x = true) : pnCt mX6_line adK (d + 7) 1 6 [.ref 0, .int x, .int x, .int w] (hP b tp fp N A Q C W Z ask rf) (pnIs (.inr "java/lang/IllegalArgumentException") (hP b tp fp N A Q C W Z ask (updN rf 1 (rf 1 + 1)))) := by
  refine pnCt_of (by decide) kX6_line (Nat.le_of_ble_eq_true rfl) rfl (hP_cl hq) (pnCS_b rfl) ?_
  refine pn_aload_n (q := 1) dX6_line_0 rfl rfl rfl ?_
  refine pn_iload_n (q := 2) dX6_line_1 rfl rfl ?_
  refine pn_idV (q := 5) (bc9 := 1) (bs9 := 6) (p_requireNode adK d b tp fp N A Q C W Z ask rf hq x hn hx) lkX6_222 dX6_line_2 rfl rfl (hP_cl hq) (hP_cl hq) (Nat.le_of_ble_eq_true rfl) rfl rfl rfl rfl rfl rfl (by omega) (by omega) (by omega) (Nat.le_of_ble_eq_true rfl) ?_
  refine pn_aload_n (q := 6) dX6_line_5 rfl rfl rfl ?_
  refine pn_iload_n (q := 7) dX6_line_6 rfl rfl ?_
  refine pn_idV (q := 10) (bc9 := 1) (bs9 := 6) (p_requireNode adK d b tp fp N A Q C W Z ask rf hq x hn hx) lkX6_222 dX6_line_7 rfl rfl (hP_cl hq) (hP_cl hq) (Nat.le_of_ble_eq_true rfl) rfl rfl rfl rfl rfl rfl (by omega) (by omega) (by omega) (Nat.le_of_ble_eq_true rfl) ?_
  refine pn_iload_n (q := 11) dX6_line_10 rfl rfl ?_
  refine pn_iload_n (q := 12) dX6_line_11 rfl rfl ?_
  refine pn_icmp_ne (q := 15) (tgt := 35) dX6_line_12 (by decide) rfl (fun hc12 => ?_) (fun hc12 => ?_)
  · exact (hc12 rfl).elim
  · refine pn_aload_n (q := 16) dX6_line_15 rfl rfl rfl ?_
    refine pn_get (q := 19) fX6_66 dX6_line_16 rfl rfl rfl ?_
    refine pn_iconst (q := 20) (v := nI 1) dX6_line_19 rfl (by decide) ?_
    first | refine pn_dup2 (q := 21) dX6_line_20 rfl rfl rfl ?_ | refine pn_dup2l (q := 21) dX6_line_20 rfl ?_
    refine pn_iald (q := 22) dX6_line_21 rfl rfl rfl (by omega) (by first | decide | omega) ?_
    refine pn_iconst (q := 23) (v := nI 1) dX6_line_22 rfl (by decide) ?_
    first | with_reducible refine pn_iaddN (q := 24) dX6_line_23 rfl ?_ | refine pn_iadd (q := 24) dX6_line_23 rfl ?_
    refine pn_iast (q := 25) dX6_line_24 rfl rfl rfl (by omega) (by first | decide | omega) ?_; rw [updN_nI]
    refine pn_bud (bc' := 0 + 1) (bs' := 0 + 6) ?_ (by omega) (by omega)
    exact pn_thrS (j := 20) rfl xf_iae xf_RE rfl pw_567 pw_89 (pnOkW_of xw_iae) xg_iae dX6_line_25 dX6_line_28 dX6_line_29 dX6_line_31 dX6_line_34 rfl (by omega) (Nat.le_of_ble_eq_true rfl) (⟨rfl, rfl⟩)
set_option maxRecDepth 100000 in
theorem p_lineXd (adK : Nat → Nat) (d : Nat) (b : Nat → Int32) (tp : Nat) (fp : Int32) (N : NS) (A : AS) (Q : QS) (C : CS) (W : WS) (Z : SS) (ask : Nat → Int32) (rf : Nat → Nat) (hq : Q.1 = 8 ∨ Q.1 = 9) (x y w : Int32) (hn : N.1 ≤ 11) (hx : hasN N.1 x = true) (hy : hasN N.1 y = true) (hxy : x ≠ y) (hw : hasN 3 w = false) : pnCt mX6_line adK (d + 7) 1 6 [.ref 0, .int x, .int y, .int w] (hP b tp fp N A Q C W Z ask rf) (pnIs (.inr "java/lang/IllegalArgumentException") (hP b tp fp N A Q C W Z ask (updN rf 1 (rf 1 + 1)))) := by
  refine pnCt_of (by decide) kX6_line (Nat.le_of_ble_eq_true rfl) rfl (hP_cl hq) (pnCS_b rfl) ?_
  refine pn_aload_n (q := 1) dX6_line_0 rfl rfl rfl ?_
  refine pn_iload_n (q := 2) dX6_line_1 rfl rfl ?_
  refine pn_idV (q := 5) (bc9 := 1) (bs9 := 6) (p_requireNode adK d b tp fp N A Q C W Z ask rf hq x hn hx) lkX6_222 dX6_line_2 rfl rfl (hP_cl hq) (hP_cl hq) (Nat.le_of_ble_eq_true rfl) rfl rfl rfl rfl rfl rfl (by omega) (by omega) (by omega) (Nat.le_of_ble_eq_true rfl) ?_
  refine pn_aload_n (q := 6) dX6_line_5 rfl rfl rfl ?_
  refine pn_iload_n (q := 7) dX6_line_6 rfl rfl ?_
  refine pn_idV (q := 10) (bc9 := 1) (bs9 := 6) (p_requireNode adK d b tp fp N A Q C W Z ask rf hq y hn hy) lkX6_222 dX6_line_7 rfl rfl (hP_cl hq) (hP_cl hq) (Nat.le_of_ble_eq_true rfl) rfl rfl rfl rfl rfl rfl (by omega) (by omega) (by omega) (Nat.le_of_ble_eq_true rfl) ?_
  refine pn_iload_n (q := 11) dX6_line_10 rfl rfl ?_
  refine pn_iload_n (q := 12) dX6_line_11 rfl rfl ?_
  refine pn_icmp_ne (q := 15) (tgt := 35) dX6_line_12 (by decide) rfl (fun hc12 => ?_) (fun hc12 => ?_)
  · refine pn_aload_n (q := 36) dX6_line_35 rfl rfl rfl ?_
    refine pn_iload_n (q := 37) dX6_line_36 rfl rfl ?_
    refine pn_iconst (q := 38) (v := nI 2) dX6_line_37 rfl (by decide) ?_
    refine pn_idVX (q := 41) (p_requireWhatX adK d b tp fp N A Q C W Z ask rf hq w 2 hw (by omega)) lkX6_203 dX6_line_38 rfl rfl (hP_cl hq) (hP_cl hq) (Nat.le_of_ble_eq_true rfl) rfl rfl rfl rfl rfl (by omega) (by omega) (by omega) (Nat.le_of_ble_eq_true rfl) rfl (⟨rfl, rfl⟩)
  · exact (hxy hc12).elim
/-! node -/
set_option maxRecDepth 100000 in
theorem p_node0 (adK : Nat → Nat) (d : Nat) (b : Nat → Int32) (tp : Nat) (fp : Int32) (N : NS) (A : AS) (Q : QS) (C : CS) (W : WS) (Z : SS) (ask : Nat → Int32) (rf : Nat → Nat) (hq : Q.1 = 8 ∨ Q.1 = 9) (i : Nat) (hn : N.1 ≤ 11) (hpc : N.2.2.2.2.1 ≤ 55) (hi : i < N.1) : pnCt mX6_node adK (d + 3) 0 0 [.ref 0, .int (nI i), .int (nI 0)] (hP b tp fp N A Q C W Z ask rf) (pnIs (.inl (some (.int (nI (pcN (N.2.1 &&& lasN N.1 i N.1)))))) (hP b tp fp N A Q C W Z ask rf)) := by
  refine pnCt_of (by decide) kX6_node (Nat.le_of_ble_eq_true rfl) rfl (hP_cl hq) (pnCS_b rfl) ?_
  refine pn_aload_n (q := 1) dX6_node_0 rfl rfl rfl ?_
  refine pn_iload_n (q := 2) dX6_node_1 rfl rfl ?_
  refine pn_idV (q := 5) (bc9 := 0) (bs9 := 0) (p_requireNode adK d b tp fp N A Q C W Z ask rf hq (nI i) hn (hasN_in hi (by omega))) lkX6_222 dX6_node_2 rfl rfl (hP_cl hq) (hP_cl hq) (Nat.le_of_ble_eq_true rfl) rfl rfl rfl rfl rfl rfl (by omega) (by omega) (by omega) (Nat.le_of_ble_eq_true rfl) ?_
  refine pn_aload_n (q := 6) dX6_node_5 rfl rfl rfl ?_
  refine pn_iload_n (q := 7) dX6_node_6 rfl rfl ?_
  refine pn_iconst (q := 8) (v := nI 2) dX6_node_7 rfl (by decide) ?_
  refine pn_idV (q := 11) (bc9 := 0) (bs9 := 0) (p_requireWhat adK d b tp fp N A Q C W Z ask rf hq 0 2 (by omega) (by omega)) lkX6_203 dX6_node_8 rfl rfl (hP_cl hq) (hP_cl hq) (Nat.le_of_ble_eq_true rfl) rfl rfl rfl rfl rfl rfl (by omega) (by omega) (by omega) (Nat.le_of_ble_eq_true rfl) ?_
  refine pn_aload_n (q := 12) dX6_node_11 rfl rfl rfl ?_
  refine pn_get (q := 15) fX6_23 dX6_node_12 rfl rfl rfl ?_
  refine pn_iload_n (q := 16) dX6_node_15 rfl rfl ?_
  refine pn_roV1 (q := 19) (c_linesAt adK d N.1 N.2.1 N.2.2.1 N.2.2.2.1 N.2.2.2.2.1 N.2.2.2.2.2.1 N.2.2.2.2.2.2.1 N.2.2.2.2.2.2.2.1 N.2.2.2.2.2.2.2.2 i hn hi) lkX6_234 dX6_node_16 rfl rfl (pnSel_of (I := [2, 3, 4, 5]) rfl rfl) (pnFree_none rfl) rfl rfl rfl (by omega) (Nat.le_of_ble_eq_true rfl) rfl ?_
  refine pn_lstore_n (q := 20) dX6_node_19 rfl (by decide) ?_
  refine pn_iload_n (q := 21) dX6_node_20 rfl rfl ?_
  first | refine pn_zne (q := 24) (tgt := 37) dX6_node_21 (by decide) rfl (by omega) (fun hc21 => ?_) (fun hc21 => ?_) | refine pn_if_ne (q := 24) (tgt := 37) dX6_node_21 (by decide) rfl (fun hc21 => ?_) (fun hc21 => ?_)
  · omega
  · refine pn_aload_n (q := 25) dX6_node_24 rfl rfl rfl ?_
    refine pn_get (q := 28) fX6_23 dX6_node_25 rfl rfl rfl ?_
    refine pn_get (q := 31) fX6_74 dX6_node_28 rfl rfl rfl ?_
    refine pn_lload_n (q := 32) dX6_node_31 rfl rfl ?_
    refine pn_land (q := 33) dX6_node_32 rfl ?_
    refine pn_roS1 (q := 36) (c_bc adK d (N.2.1 &&& lasN N.1 i N.1)) lkX6_108 dX6_node_33 rfl rfl (pnSel_of (I := []) rfl rfl) (pnFree_none rfl) rfl (by omega) (Nat.le_of_ble_eq_true rfl) rfl ?_
    refine pn_iret dX6_node_36 rfl ?_
    exact ⟨rfl, rfl⟩
set_option maxRecDepth 100000 in
theorem p_node1 (adK : Nat → Nat) (d : Nat) (b : Nat → Int32) (tp : Nat) (fp : Int32) (N : NS) (A : AS) (Q : QS) (C : CS) (W : WS) (Z : SS) (ask : Nat → Int32) (rf : Nat → Nat) (hq : Q.1 = 8 ∨ Q.1 = 9) (i : Nat) (hn : N.1 ≤ 11) (hpc : N.2.2.2.2.1 ≤ 55) (hi : i < N.1) : pnCt mX6_node adK (d + 3) 0 0 [.ref 0, .int (nI i), .int (nI 1)] (hP b tp fp N A Q C W Z ask rf) (pnIs (.inl (some (.int (nI (pcN (lfN N.2.2.2.2.2.2.1 N.2.1 N.2.2.2.2.1 &&& lasN N.1 i N.1)))))) (hP b tp fp N A Q C W Z ask rf)) := by
  refine pnCt_of (by decide) kX6_node (Nat.le_of_ble_eq_true rfl) rfl (hP_cl hq) (pnCS_b rfl) ?_
  refine pn_aload_n (q := 1) dX6_node_0 rfl rfl rfl ?_
  refine pn_iload_n (q := 2) dX6_node_1 rfl rfl ?_
  refine pn_idV (q := 5) (bc9 := 0) (bs9 := 0) (p_requireNode adK d b tp fp N A Q C W Z ask rf hq (nI i) hn (hasN_in hi (by omega))) lkX6_222 dX6_node_2 rfl rfl (hP_cl hq) (hP_cl hq) (Nat.le_of_ble_eq_true rfl) rfl rfl rfl rfl rfl rfl (by omega) (by omega) (by omega) (Nat.le_of_ble_eq_true rfl) ?_
  refine pn_aload_n (q := 6) dX6_node_5 rfl rfl rfl ?_
  refine pn_iload_n (q := 7) dX6_node_6 rfl rfl ?_
  refine pn_iconst (q := 8) (v := nI 2) dX6_node_7 rfl (by decide) ?_
  refine pn_idV (q := 11) (bc9 := 0) (bs9 := 0) (p_requireWhat adK d b tp fp N A Q C W Z ask rf hq 1 2 (by omega) (by omega)) lkX6_203 dX6_node_8 rfl rfl (hP_cl hq) (hP_cl hq) (Nat.le_of_ble_eq_true rfl) rfl rfl rfl rfl rfl rfl (by omega) (by omega) (by omega) (Nat.le_of_ble_eq_true rfl) ?_
  refine pn_aload_n (q := 12) dX6_node_11 rfl rfl rfl ?_
  refine pn_get (q := 15) fX6_23 dX6_node_12 rfl rfl rfl ?_
  refine pn_iload_n (q := 16) dX6_node_15 rfl rfl ?_
  refine pn_roV1 (q := 19) (c_linesAt adK d N.1 N.2.1 N.2.2.1 N.2.2.2.1 N.2.2.2.2.1 N.2.2.2.2.2.1 N.2.2.2.2.2.2.1 N.2.2.2.2.2.2.2.1 N.2.2.2.2.2.2.2.2 i hn hi) lkX6_234 dX6_node_16 rfl rfl (pnSel_of (I := [2, 3, 4, 5]) rfl rfl) (pnFree_none rfl) rfl rfl rfl (by omega) (Nat.le_of_ble_eq_true rfl) rfl ?_
  refine pn_lstore_n (q := 20) dX6_node_19 rfl (by decide) ?_
  refine pn_iload_n (q := 21) dX6_node_20 rfl rfl ?_
  first | refine pn_zne (q := 24) (tgt := 37) dX6_node_21 (by decide) rfl (by omega) (fun hc21 => ?_) (fun hc21 => ?_) | refine pn_if_ne (q := 24) (tgt := 37) dX6_node_21 (by decide) rfl (fun hc21 => ?_) (fun hc21 => ?_)
  · refine pn_iload_n (q := 38) dX6_node_37 rfl rfl ?_
    refine pn_iconst (q := 39) (v := nI 1) dX6_node_38 rfl (by decide) ?_
    first | refine pn_nne (q := 42) (tgt := 55) dX6_node_39 (by decide) rfl (by omega) (by omega) (fun hc39 => ?_) (fun hc39 => ?_) | refine pn_icmp_ne (q := 42) (tgt := 55) dX6_node_39 (by decide) rfl (fun hc39 => ?_) (fun hc39 => ?_)
    · omega
    · refine pn_aload_n (q := 43) dX6_node_42 rfl rfl rfl ?_
      refine pn_get (q := 46) fX6_23 dX6_node_43 rfl rfl rfl ?_
      refine pn_roV1 (q := 49) (c_leftLines adK d N.1 N.2.1 N.2.2.1 N.2.2.2.1 N.2.2.2.2.1 N.2.2.2.2.2.1 N.2.2.2.2.2.2.1 N.2.2.2.2.2.2.2.1 N.2.2.2.2.2.2.2.2 hpc) lkX6_104 dX6_node_46 rfl rfl (pnSel_of (I := [2, 3, 4, 5]) rfl rfl) (pnFree_none rfl) rfl rfl rfl (by omega) (Nat.le_of_ble_eq_true rfl) rfl ?_
      refine pn_lload_n (q := 50) dX6_node_49 rfl rfl ?_
      refine pn_land (q := 51) dX6_node_50 rfl ?_
      refine pn_roS1 (q := 54) (c_bc adK d (lfN N.2.2.2.2.2.2.1 N.2.1 N.2.2.2.2.1 &&& lasN N.1 i N.1)) lkX6_108 dX6_node_51 rfl rfl (pnSel_of (I := []) rfl rfl) (pnFree_none rfl) rfl (by omega) (Nat.le_of_ble_eq_true rfl) rfl ?_
      refine pn_iret dX6_node_54 rfl ?_
      exact ⟨rfl, rfl⟩
  · omega
set_option maxRecDepth 100000 in
theorem p_node2 (adK : Nat → Nat) (d : Nat) (b : Nat → Int32) (tp : Nat) (fp : Int32) (N : NS) (A : AS) (Q : QS) (C : CS) (W : WS) (Z : SS) (ask : Nat → Int32) (rf : Nat → Nat) (hq : Q.1 = 8 ∨ Q.1 = 9) (i : Nat) (hn : N.1 ≤ 11) (hpc : N.2.2.2.2.1 ≤ 55) (hi : i < N.1) : pnCt mX6_node adK (d + 3) 0 0 [.ref 0, .int (nI i), .int (nI 2)] (hP b tp fp N A Q C W Z ask rf) (pnIs (.inl (some (.int (nI (pmN N.2.2.2.2.2.2.1 (lasN N.1 i N.1) N.2.2.2.2.1))))) (hP b tp fp N A Q C W Z ask rf)) := by
  refine pnCt_of (by decide) kX6_node (Nat.le_of_ble_eq_true rfl) rfl (hP_cl hq) (pnCS_b rfl) ?_
  refine pn_aload_n (q := 1) dX6_node_0 rfl rfl rfl ?_
  refine pn_iload_n (q := 2) dX6_node_1 rfl rfl ?_
  refine pn_idV (q := 5) (bc9 := 0) (bs9 := 0) (p_requireNode adK d b tp fp N A Q C W Z ask rf hq (nI i) hn (hasN_in hi (by omega))) lkX6_222 dX6_node_2 rfl rfl (hP_cl hq) (hP_cl hq) (Nat.le_of_ble_eq_true rfl) rfl rfl rfl rfl rfl rfl (by omega) (by omega) (by omega) (Nat.le_of_ble_eq_true rfl) ?_
  refine pn_aload_n (q := 6) dX6_node_5 rfl rfl rfl ?_
  refine pn_iload_n (q := 7) dX6_node_6 rfl rfl ?_
  refine pn_iconst (q := 8) (v := nI 2) dX6_node_7 rfl (by decide) ?_
  refine pn_idV (q := 11) (bc9 := 0) (bs9 := 0) (p_requireWhat adK d b tp fp N A Q C W Z ask rf hq 2 2 (by omega) (by omega)) lkX6_203 dX6_node_8 rfl rfl (hP_cl hq) (hP_cl hq) (Nat.le_of_ble_eq_true rfl) rfl rfl rfl rfl rfl rfl (by omega) (by omega) (by omega) (Nat.le_of_ble_eq_true rfl) ?_
  refine pn_aload_n (q := 12) dX6_node_11 rfl rfl rfl ?_
  refine pn_get (q := 15) fX6_23 dX6_node_12 rfl rfl rfl ?_
  refine pn_iload_n (q := 16) dX6_node_15 rfl rfl ?_
  refine pn_roV1 (q := 19) (c_linesAt adK d N.1 N.2.1 N.2.2.1 N.2.2.2.1 N.2.2.2.2.1 N.2.2.2.2.2.1 N.2.2.2.2.2.2.1 N.2.2.2.2.2.2.2.1 N.2.2.2.2.2.2.2.2 i hn hi) lkX6_234 dX6_node_16 rfl rfl (pnSel_of (I := [2, 3, 4, 5]) rfl rfl) (pnFree_none rfl) rfl rfl rfl (by omega) (Nat.le_of_ble_eq_true rfl) rfl ?_
  refine pn_lstore_n (q := 20) dX6_node_19 rfl (by decide) ?_
  refine pn_iload_n (q := 21) dX6_node_20 rfl rfl ?_
  first | refine pn_zne (q := 24) (tgt := 37) dX6_node_21 (by decide) rfl (by omega) (fun hc21 => ?_) (fun hc21 => ?_) | refine pn_if_ne (q := 24) (tgt := 37) dX6_node_21 (by decide) rfl (fun hc21 => ?_) (fun hc21 => ?_)
  · refine pn_iload_n (q := 38) dX6_node_37 rfl rfl ?_
    refine pn_iconst (q := 39) (v := nI 1) dX6_node_38 rfl (by decide) ?_
    first | refine pn_nne (q := 42) (tgt := 55) dX6_node_39 (by decide) rfl (by omega) (by omega) (fun hc39 => ?_) (fun hc39 => ?_) | refine pn_icmp_ne (q := 42) (tgt := 55) dX6_node_39 (by decide) rfl (fun hc39 => ?_) (fun hc39 => ?_)
    · refine pn_aload_n (q := 56) dX6_node_55 rfl rfl rfl ?_
      refine pn_get (q := 59) fX6_23 dX6_node_56 rfl rfl rfl ?_
      refine pn_lload_n (q := 60) dX6_node_59 rfl rfl ?_
      refine pn_roV1 (q := 63) (c_partsMeeting adK d N.1 N.2.1 N.2.2.1 N.2.2.2.1 N.2.2.2.2.1 N.2.2.2.2.2.1 N.2.2.2.2.2.2.1 N.2.2.2.2.2.2.2.1 N.2.2.2.2.2.2.2.2 (lasN N.1 i N.1) hpc) lkX6_238 dX6_node_60 rfl rfl (pnSel_of (I := [2, 3, 4, 5]) rfl rfl) (pnFree_none rfl) rfl rfl rfl (by omega) (Nat.le_of_ble_eq_true rfl) rfl ?_
      refine pn_iret dX6_node_63 rfl ?_
      exact ⟨rfl, rfl⟩
    · omega
  · omega
set_option maxRecDepth 100000 in
theorem p_nodeXa (adK : Nat → Nat) (d : Nat) (b : Nat → Int32) (tp : Nat) (fp : Int32) (N : NS) (A : AS) (Q : QS) (C : CS) (W : WS) (Z : SS) (ask : Nat → Int32) (rf : Nat → Nat) (hq : Q.1 = 8 ∨ Q.1 = 9) (x w : Int32) (hn : N.1 ≤ 11) (hx : hasN N.1 x = false) : pnCt mX6_node adK (d + 7) 1 6 [.ref 0, .int x, .int w] (hP b tp fp N A Q C W Z ask rf) (pnIs (.inr "java/util/NoSuchElementException") (hP b tp fp N A Q C W Z ask (updN rf 0 (rf 0 + 1)))) := by
  refine pnCt_of (by decide) kX6_node (Nat.le_of_ble_eq_true rfl) rfl (hP_cl hq) (pnCS_b rfl) ?_
  refine pn_aload_n (q := 1) dX6_node_0 rfl rfl rfl ?_
  refine pn_iload_n (q := 2) dX6_node_1 rfl rfl ?_
  refine pn_idVX (q := 5) (p_requireNodeX adK d b tp fp N A Q C W Z ask rf hq x hn hx) lkX6_222 dX6_node_2 rfl rfl (hP_cl hq) (hP_cl hq) (Nat.le_of_ble_eq_true rfl) rfl rfl rfl rfl rfl (by omega) (by omega) (by omega) (Nat.le_of_ble_eq_true rfl) rfl (⟨rfl, rfl⟩)
set_option maxRecDepth 100000 in
theorem p_nodeXb (adK : Nat → Nat) (d : Nat) (b : Nat → Int32) (tp : Nat) (fp : Int32) (N : NS) (A : AS) (Q : QS) (C : CS) (W : WS) (Z : SS) (ask : Nat → Int32) (rf : Nat → Nat) (hq : Q.1 = 8 ∨ Q.1 = 9) (x w : Int32) (hn : N.1 ≤ 11) (hx : hasN N.1 x = true) (hw : hasN 3 w = false) : pnCt mX6_node adK (d + 7) 1 6 [.ref 0, .int x, .int w] (hP b tp fp N A Q C W Z ask rf) (pnIs (.inr "java/lang/IllegalArgumentException") (hP b tp fp N A Q C W Z ask (updN rf 1 (rf 1 + 1)))) := by
  refine pnCt_of (by decide) kX6_node (Nat.le_of_ble_eq_true rfl) rfl (hP_cl hq) (pnCS_b rfl) ?_
  refine pn_aload_n (q := 1) dX6_node_0 rfl rfl rfl ?_
  refine pn_iload_n (q := 2) dX6_node_1 rfl rfl ?_
  refine pn_idV (q := 5) (bc9 := 1) (bs9 := 6) (p_requireNode adK d b tp fp N A Q C W Z ask rf hq x hn hx) lkX6_222 dX6_node_2 rfl rfl (hP_cl hq) (hP_cl hq) (Nat.le_of_ble_eq_true rfl) rfl rfl rfl rfl rfl rfl (by omega) (by omega) (by omega) (Nat.le_of_ble_eq_true rfl) ?_
  refine pn_aload_n (q := 6) dX6_node_5 rfl rfl rfl ?_
  refine pn_iload_n (q := 7) dX6_node_6 rfl rfl ?_
  refine pn_iconst (q := 8) (v := nI 2) dX6_node_7 rfl (by decide) ?_
  refine pn_idVX (q := 11) (p_requireWhatX adK d b tp fp N A Q C W Z ask rf hq w 2 hw (by omega)) lkX6_203 dX6_node_8 rfl rfl (hP_cl hq) (hP_cl hq) (Nat.le_of_ble_eq_true rfl) rfl rfl rfl rfl rfl (by omega) (by omega) (by omega) (Nat.le_of_ble_eq_true rfl) rfl (⟨rfl, rfl⟩)
/-! part -/
def clrN (x : Int64) : Nat → Int64
  | 0 => x
  | i + 1 => clrN x i &&& (clrN x i - 1)
set_option maxRecDepth 100000 in
theorem p_partXa (adK : Nat → Nat) (d : Nat) (b : Nat → Int32) (tp : Nat) (fp : Int32) (N : NS) (A : AS) (Q : QS) (C : CS) (W : WS) (Z : SS) (ask : Nat → Int32) (rf : Nat → Nat) (hq : Q.1 = 8 ∨ Q.1 = 9) (x y : Int32) (hpc : N.2.2.2.2.1 ≤ 55) (hx : hasN N.2.2.2.2.1 x = false) : pnCt mX6_part adK (d + 7) 1 6 [.ref 0, .int x, .int y] (hP b tp fp N A Q C W Z ask rf) (pnIs (.inr "java/util/NoSuchElementException") (hP b tp fp N A Q C W Z ask (updN rf 0 (rf 0 + 1)))) := by
  refine pnCt_of (by decide) kX6_part (Nat.le_of_ble_eq_true rfl) rfl (hP_cl hq) (pnCS_b rfl) ?_
  refine pn_aload_n (q := 1) dX6_part_0 rfl rfl rfl ?_
  refine pn_iload_n (q := 2) dX6_part_1 rfl rfl ?_
  refine pn_idVX (q := 5) (p_requirePartX adK d b tp fp N A Q C W Z ask rf hq x hpc hx) lkX6_138 dX6_part_2 rfl rfl (hP_cl hq) (hP_cl hq) (Nat.le_of_ble_eq_true rfl) rfl rfl rfl rfl rfl (by omega) (by omega) (by omega) (Nat.le_of_ble_eq_true rfl) rfl (⟨rfl, rfl⟩)
set_option maxRecDepth 100000 in
theorem p_partNo (adK : Nat → Nat) (d : Nat) (b : Nat → Int32) (tp : Nat) (fp : Int32) (N : NS) (A : AS) (Q : QS) (C : CS) (W : WS) (Z : SS) (ask : Nat → Int32) (rf : Nat → Nat) (hq : Q.1 = 8 ∨ Q.1 = 9) (x y : Int32) (hpc : N.2.2.2.2.1 ≤ 55) (hk : N.2.2.2.1 ≤ 5) (hx : hasN N.2.2.2.2.1 x = true) (hy : hasN N.2.2.2.1 y = false) : pnCt mX6_part adK (d + 2) 0 0 [.ref 0, .int x, .int y] (hP b tp fp N A Q C W Z ask rf) (pnIs (.inl (some (.int (-1)))) (hP b tp fp N A Q C W Z ask rf)) := by
  refine pnCt_of (by decide) kX6_part (Nat.le_of_ble_eq_true rfl) rfl (hP_cl hq) (pnCS_b rfl) ?_
  rcases hasN_cases y N.2.2.2.1 (by omega) with ⟨h1, -⟩ | ⟨h1, h2, -⟩ | ⟨j, -, -, h1⟩
  · refine pn_aload_n (q := 1) dX6_part_0 rfl rfl rfl ?_
    refine pn_iload_n (q := 2) dX6_part_1 rfl rfl ?_
    refine pn_idV (q := 5) (bc9 := 0) (bs9 := 0) (p_requirePart adK d b tp fp N A Q C W Z ask rf hq x hpc hx) lkX6_138 dX6_part_2 rfl rfl (hP_cl hq) (hP_cl hq) (Nat.le_of_ble_eq_true rfl) rfl rfl rfl rfl rfl rfl (by omega) (by omega) (by omega) (Nat.le_of_ble_eq_true rfl) ?_
    refine pn_iload_n (q := 6) dX6_part_5 rfl rfl ?_
    refine pn_if_lt (q := 9) (tgt := 20) dX6_part_6 (by decide) rfl (fun hc6 => ?_) (fun hc6 => ?_)
    · refine pn_iconst (q := 21) (v := (-1)) dX6_part_20 rfl (by decide) ?_
      refine pn_iret dX6_part_21 rfl ?_
      exact ⟨rfl, rfl⟩
    · exact (hc6 h1).elim
  · refine pn_aload_n (q := 1) dX6_part_0 rfl rfl rfl ?_
    refine pn_iload_n (q := 2) dX6_part_1 rfl rfl ?_
    refine pn_idV (q := 5) (bc9 := 0) (bs9 := 0) (p_requirePart adK d b tp fp N A Q C W Z ask rf hq x hpc hx) lkX6_138 dX6_part_2 rfl rfl (hP_cl hq) (hP_cl hq) (Nat.le_of_ble_eq_true rfl) rfl rfl rfl rfl rfl rfl (by omega) (by omega) (by omega) (Nat.le_of_ble_eq_true rfl) ?_
    refine pn_iload_n (q := 6) dX6_part_5 rfl rfl ?_
    refine pn_if_lt (q := 9) (tgt := 20) dX6_part_6 (by decide) rfl (fun hc6 => ?_) (fun hc6 => ?_)
    · exact (h2 hc6).elim
    · refine pn_iload_n (q := 10) dX6_part_9 rfl rfl ?_
      refine pn_aload_n (q := 11) dX6_part_10 rfl rfl rfl ?_
      refine pn_get (q := 14) fX6_23 dX6_part_11 rfl rfl rfl ?_
      refine pn_get (q := 17) fX6_209 dX6_part_14 rfl rfl rfl ?_
      refine pn_icmp_lt (q := 20) (tgt := 22) dX6_part_17 (by decide) rfl (fun hc17 => ?_) (fun hc17 => ?_)
      · exact (nI_gapL (by omega) h1 hc17).elim
      · refine pn_iconst (q := 21) (v := (-1)) dX6_part_20 rfl (by decide) ?_
        refine pn_iret dX6_part_21 rfl ?_
        exact ⟨rfl, rfl⟩
  · rw [hy] at h1; cases h1
set_option maxRecDepth 100000 in
theorem p_part (adK : Nat → Nat) (d : Nat) (b : Nat → Int32) (tp : Nat) (fp : Int32) (N : NS) (A : AS) (Q : QS) (C : CS) (W : WS) (Z : SS) (ask : Nat → Int32) (rf : Nat → Nat) (hq : Q.1 = 8 ∨ Q.1 = 9) (p i : Nat) (hpc : N.2.2.2.2.1 ≤ 55) (hk : N.2.2.2.1 ≤ 5) (hp : p < N.2.2.2.2.1) (hi : i < N.2.2.2.1) : pnCt mX6_part adK (d + 2) 0 0 [.ref 0, .int (nI p), .int (nI i)] (hP b tp fp N A Q C W Z ask rf) (pnIs (.inl (some (.int (nI (llN (clrN (N.2.2.2.2.2.2.1 p) i)))))) (hP b tp fp N A Q C W Z ask rf)) := by
  refine pnCt_of (by decide) kX6_part (Nat.le_of_ble_eq_true rfl) rfl (hP_cl hq) (pnCS_b rfl) ?_
  have loop : ∀ (z c : Nat), c + z = i → pnWP mX6_part adK (d + 2) (pnIs (.inl (some (.int (nI (llN (clrN (N.2.2.2.2.2.2.1 p) i)))))) (hP b tp fp N A Q C W Z ask rf)) 0 0 (hP b tp fp N A Q C W Z ask rf) [some (.ref 0), some (.int (nI p)), some (.int (nI i)), some (.long (clrN (N.2.2.2.2.2.2.1 p) c)), none, some (.int (nI c))] [] 35 := by
    intro z
    induction z with
    | zero =>
      intro c hz
      refine pn_iload (q := 37) dX6_part_35 rfl rfl ?_
      refine pn_iload_n (q := 38) dX6_part_37 rfl rfl ?_
      first | refine pn_nge (q := 41) (tgt := 53) dX6_part_38 (by decide) rfl (by omega) (by omega) (fun hc38 => ?_) (fun hc38 => ?_) | refine pn_icmp_ge (q := 41) (tgt := 53) dX6_part_38 (by decide) rfl (fun hc38 => ?_) (fun hc38 => ?_)
      · refine pn_lload_n (q := 54) dX6_part_53 rfl rfl ?_
        refine pn_roS1 (q := 57) (c_leastLine adK d (clrN (N.2.2.2.2.2.2.1 p) c)) lkX6_241 dX6_part_54 rfl rfl (pnSel_of (I := []) rfl rfl) (pnFree_none rfl) rfl (by omega) (Nat.le_of_ble_eq_true rfl) rfl ?_
        refine pn_iret dX6_part_57 rfl ?_
        exact ⟨by rw [show c = i by omega], rfl⟩
      · omega
    | succ z ih =>
      intro c hz
      refine pn_iload (q := 37) dX6_part_35 rfl rfl ?_
      refine pn_iload_n (q := 38) dX6_part_37 rfl rfl ?_
      first | refine pn_nge (q := 41) (tgt := 53) dX6_part_38 (by decide) rfl (by omega) (by omega) (fun hc38 => ?_) (fun hc38 => ?_) | refine pn_icmp_ge (q := 41) (tgt := 53) dX6_part_38 (by decide) rfl (fun hc38 => ?_) (fun hc38 => ?_)
      · omega
      · refine pn_lload_n (q := 42) dX6_part_41 rfl rfl ?_
        refine pn_lload_n (q := 43) dX6_part_42 rfl rfl ?_
        refine pn_lconst (q := 44) (v := 1) dX6_part_43 rfl (by decide) ?_
        refine pn_lsub (q := 45) dX6_part_44 rfl ?_
        refine pn_land (q := 46) dX6_part_45 rfl ?_
        refine pn_lstore_n (q := 47) dX6_part_46 rfl (by decide) ?_
        first | refine pn_iinc1 (q := 50) dX6_part_47 rfl rfl (by decide) ?_ | refine pn_iinc (q := 50) (mm := 1) dX6_part_47 rfl rfl (by decide) (by decide) ?_
        refine pn_goto (q := 35) dX6_part_50 (by decide) ?_
        exact ih (c + 1) (by omega)
  refine pn_aload_n (q := 1) dX6_part_0 rfl rfl rfl ?_
  refine pn_iload_n (q := 2) dX6_part_1 rfl rfl ?_
  refine pn_idV (q := 5) (bc9 := 0) (bs9 := 0) (p_requirePart adK d b tp fp N A Q C W Z ask rf hq (nI p) hpc (hasN_in hp (by omega))) lkX6_138 dX6_part_2 rfl rfl (hP_cl hq) (hP_cl hq) (Nat.le_of_ble_eq_true rfl) rfl rfl rfl rfl rfl rfl (by omega) (by omega) (by omega) (Nat.le_of_ble_eq_true rfl) ?_
  refine pn_iload_n (q := 6) dX6_part_5 rfl rfl ?_
  first | refine pn_zlt (q := 9) (tgt := 20) dX6_part_6 (by decide) rfl (by omega) (fun hc6 => ?_) (fun hc6 => ?_) | refine pn_if_lt (q := 9) (tgt := 20) dX6_part_6 (by decide) rfl (fun hc6 => ?_) (fun hc6 => ?_)
  · exact hc6.elim
  · refine pn_iload_n (q := 10) dX6_part_9 rfl rfl ?_
    refine pn_aload_n (q := 11) dX6_part_10 rfl rfl rfl ?_
    refine pn_get (q := 14) fX6_23 dX6_part_11 rfl rfl rfl ?_
    refine pn_get (q := 17) fX6_209 dX6_part_14 rfl rfl rfl ?_
    first | refine pn_nlt (q := 20) (tgt := 22) dX6_part_17 (by decide) rfl (by omega) (by omega) (fun hc17 => ?_) (fun hc17 => ?_) | refine pn_icmp_lt (q := 20) (tgt := 22) dX6_part_17 (by decide) rfl (fun hc17 => ?_) (fun hc17 => ?_)
    · refine pn_aload_n (q := 23) dX6_part_22 rfl rfl rfl ?_
      refine pn_get (q := 26) fX6_23 dX6_part_23 rfl rfl rfl ?_
      refine pn_get (q := 29) fX6_151 dX6_part_26 rfl rfl rfl ?_
      refine pn_iload_n (q := 30) dX6_part_29 rfl rfl ?_
      refine pn_lald1 (q := 31) dX6_part_30 rfl rfl rfl (by omega) (by decide) ?_
      refine pn_lstore_n (q := 32) dX6_part_31 rfl (by decide) ?_
      refine pn_iconst (q := 33) (v := nI 0) dX6_part_32 rfl (by decide) ?_
      refine pn_istore (q := 35) dX6_part_33 rfl (by decide) ?_
      exact loop i 0 (by omega)
    · omega
/-! status, print -/
set_option maxRecDepth 100000 in
theorem p_status (adK : Nat → Nat) (d : Nat) (b : Nat → Int32) (tp : Nat) (fp : Int32) (N : NS) (A : AS) (Q : QS) (C : CS) (W : WS) (Z : SS) (ask : Nat → Int32) (rf : Nat → Nat) (hq : Q.1 = 8 ∨ Q.1 = 9) (j : Nat) (hj : j < 3) : pnCt mX6_status adK d 0 0 [.ref 0, .int (nI j)] (hP b tp fp N A Q C W Z ask rf) (pnIs (.inl (some (.int (nI (rf j))))) (hP b tp fp N A Q C W Z ask rf)) := by
  refine pnCt_of (by decide) kX6_status (Nat.le_of_ble_eq_true rfl) rfl (hP_cl hq) (pnCS_b rfl) ?_
  refine pn_iload_n (q := 1) dX6_status_0 rfl rfl ?_
  first | refine pn_zlt (q := 4) (tgt := 13) dX6_status_1 (by decide) rfl (by omega) (fun hc1 => ?_) (fun hc1 => ?_) | refine pn_if_lt (q := 4) (tgt := 13) dX6_status_1 (by decide) rfl (fun hc1 => ?_) (fun hc1 => ?_)
  · exact hc1.elim
  · refine pn_iload_n (q := 5) dX6_status_4 rfl rfl ?_
    refine pn_aload_n (q := 6) dX6_status_5 rfl rfl rfl ?_
    refine pn_get (q := 9) fX6_66 dX6_status_6 rfl rfl rfl ?_
    refine pn_alen (q := 10) dX6_status_9 rfl rfl (by decide) ?_
    first | refine pn_nlt (q := 13) (tgt := 15) dX6_status_10 (by decide) rfl (by omega) (by omega) (fun hc10 => ?_) (fun hc10 => ?_) | refine pn_icmp_lt (q := 13) (tgt := 15) dX6_status_10 (by decide) rfl (fun hc10 => ?_) (fun hc10 => ?_)
    · refine pn_aload_n (q := 16) dX6_status_15 rfl rfl rfl ?_
      refine pn_get (q := 19) fX6_66 dX6_status_16 rfl rfl rfl ?_
      refine pn_iload_n (q := 20) dX6_status_19 rfl rfl ?_
      refine pn_iald (q := 21) dX6_status_20 rfl rfl rfl (by omega) (by first | decide | omega) ?_
      refine pn_iret dX6_status_21 rfl ?_
      exact ⟨rfl, rfl⟩
    · omega
set_option maxRecDepth 100000 in
theorem p_statusNo (adK : Nat → Nat) (d : Nat) (b : Nat → Int32) (tp : Nat) (fp : Int32) (N : NS) (A : AS) (Q : QS) (C : CS) (W : WS) (Z : SS) (ask : Nat → Int32) (rf : Nat → Nat) (hq : Q.1 = 8 ∨ Q.1 = 9) (w : Int32) (hw : hasN 3 w = false) : pnCt mX6_status adK d 0 0 [.ref 0, .int w] (hP b tp fp N A Q C W Z ask rf) (pnIs (.inl (some (.int (-1)))) (hP b tp fp N A Q C W Z ask rf)) := by
  refine pnCt_of (by decide) kX6_status (Nat.le_of_ble_eq_true rfl) rfl (hP_cl hq) (pnCS_b rfl) ?_
  rcases hasN_cases w 3 (by omega) with ⟨h1, -⟩ | ⟨h1, h2, -⟩ | ⟨j, -, -, h1⟩
  · refine pn_iload_n (q := 1) dX6_status_0 rfl rfl ?_
    refine pn_if_lt (q := 4) (tgt := 13) dX6_status_1 (by decide) rfl (fun hc1 => ?_) (fun hc1 => ?_)
    · refine pn_iconst (q := 14) (v := (-1)) dX6_status_13 rfl (by decide) ?_
      refine pn_iret dX6_status_14 rfl ?_
      exact ⟨rfl, rfl⟩
    · exact (hc1 h1).elim
  · refine pn_iload_n (q := 1) dX6_status_0 rfl rfl ?_
    refine pn_if_lt (q := 4) (tgt := 13) dX6_status_1 (by decide) rfl (fun hc1 => ?_) (fun hc1 => ?_)
    · exact (h2 hc1).elim
    · refine pn_iload_n (q := 5) dX6_status_4 rfl rfl ?_
      refine pn_aload_n (q := 6) dX6_status_5 rfl rfl rfl ?_
      refine pn_get (q := 9) fX6_66 dX6_status_6 rfl rfl rfl ?_
      refine pn_alen (q := 10) dX6_status_9 rfl rfl (by decide) ?_
      refine pn_icmp_lt (q := 13) (tgt := 15) dX6_status_10 (by decide) rfl (fun hc10 => ?_) (fun hc10 => ?_)
      · exact (nI_gapL (by omega) h1 hc10).elim
      · refine pn_iconst (q := 14) (v := (-1)) dX6_status_13 rfl (by decide) ?_
        refine pn_iret dX6_status_14 rfl ?_
        exact ⟨rfl, rfl⟩
  · rw [hw] at h1; cases h1
def prtN (ps : Nat → Int64) (x : Int64) : Nat → Int64
  | 0 => x
  | i + 1 => 31 * prtN ps x i + ps i
set_option maxRecDepth 100000 in
theorem p_print (adK : Nat → Nat) (d : Nat) (b : Nat → Int32) (tp : Nat) (fp : Int32) (N : NS) (A : AS) (Q : QS) (C : CS) (W : WS) (Z : SS) (ask : Nat → Int32) (rf : Nat → Nat) (hq : Q.1 = 8 ∨ Q.1 = 9) (hpc : N.2.2.2.2.1 ≤ 55) : pnCt mX6_print adK (d + 1) 0 0 [.ref 0] (hP b tp fp N A Q C W Z ask rf) (pnIs (.inl (some (.long (prtN N.2.2.2.2.2.2.1 (lfN N.2.2.2.2.2.2.1 N.2.1 N.2.2.2.2.1) N.2.2.2.2.1)))) (hP b tp fp N A Q C W Z ask rf)) := by
  refine pnCt_of (by decide) kX6_print (Nat.le_of_ble_eq_true rfl) rfl (hP_cl hq) (pnCS_b rfl) ?_
  have loop : ∀ (z c : Nat), c + z = N.2.2.2.2.1 → pnWP mX6_print adK (d + 1) (pnIs (.inl (some (.long (prtN N.2.2.2.2.2.2.1 (lfN N.2.2.2.2.2.2.1 N.2.1 N.2.2.2.2.1) N.2.2.2.2.1)))) (hP b tp fp N A Q C W Z ask rf)) 0 0 (hP b tp fp N A Q C W Z ask rf) [some (.ref 0), some (.long (prtN N.2.2.2.2.2.2.1 (lfN N.2.2.2.2.2.2.1 N.2.1 N.2.2.2.2.1) c)), none, some (.int (nI c))] [] 10 := by
    intro z
    induction z with
    | zero =>
      intro c hz
      refine pn_iload_n (q := 11) dX6_print_10 rfl rfl ?_
      refine pn_aload_n (q := 12) dX6_print_11 rfl rfl rfl ?_
      refine pn_get (q := 15) fX6_23 dX6_print_12 rfl rfl rfl ?_
      refine pn_get (q := 18) fX6_135 dX6_print_15 rfl rfl rfl ?_
      first | refine pn_nge (q := 21) (tgt := 55) dX6_print_18 (by decide) rfl (by omega) (by omega) (fun hc18 => ?_) (fun hc18 => ?_) | refine pn_icmp_ge (q := 21) (tgt := 55) dX6_print_18 (by decide) rfl (fun hc18 => ?_) (fun hc18 => ?_)
      · refine pn_lload_n (q := 56) dX6_print_55 rfl rfl ?_
        refine pn_lret dX6_print_56 rfl ?_
        exact ⟨by rw [show c = N.2.2.2.2.1 by omega], rfl⟩
      · omega
    | succ z ih =>
      intro c hz
      refine pn_iload_n (q := 11) dX6_print_10 rfl rfl ?_
      refine pn_aload_n (q := 12) dX6_print_11 rfl rfl rfl ?_
      refine pn_get (q := 15) fX6_23 dX6_print_12 rfl rfl rfl ?_
      refine pn_get (q := 18) fX6_135 dX6_print_15 rfl rfl rfl ?_
      first | refine pn_nge (q := 21) (tgt := 55) dX6_print_18 (by decide) rfl (by omega) (by omega) (fun hc18 => ?_) (fun hc18 => ?_) | refine pn_icmp_ge (q := 21) (tgt := 55) dX6_print_18 (by decide) rfl (fun hc18 => ?_) (fun hc18 => ?_)
      · omega
      · refine pn_iload_n (q := 22) dX6_print_21 rfl rfl ?_
        refine pn_aload_n (q := 23) dX6_print_22 rfl rfl rfl ?_
        refine pn_get (q := 26) fX6_23 dX6_print_23 rfl rfl rfl ?_
        refine pn_get (q := 29) fX6_151 dX6_print_26 rfl rfl rfl ?_
        refine pn_alen (q := 30) dX6_print_29 rfl rfl (by decide) ?_
        first | refine pn_nge (q := 33) (tgt := 55) dX6_print_30 (by decide) rfl (by omega) (by omega) (fun hc30 => ?_) (fun hc30 => ?_) | refine pn_icmp_ge (q := 33) (tgt := 55) dX6_print_30 (by decide) rfl (fun hc30 => ?_) (fun hc30 => ?_)
        · omega
        · refine pn_ldc2 (q := 36) pw_554 dX6_print_33 rfl ?_
          refine pn_lload_n (q := 37) dX6_print_36 rfl rfl ?_
          refine pn_lmul (q := 38) dX6_print_37 rfl ?_
          refine pn_aload_n (q := 39) dX6_print_38 rfl rfl rfl ?_
          refine pn_get (q := 42) fX6_23 dX6_print_39 rfl rfl rfl ?_
          refine pn_get (q := 45) fX6_151 dX6_print_42 rfl rfl rfl ?_
          refine pn_iload_n (q := 46) dX6_print_45 rfl rfl ?_
          refine pn_lald1 (q := 47) dX6_print_46 rfl rfl rfl (by omega) (by decide) ?_
          refine pn_ladd (q := 48) dX6_print_47 rfl ?_
          refine pn_lstore_n (q := 49) dX6_print_48 rfl (by decide) ?_
          first | refine pn_iinc1 (q := 52) dX6_print_49 rfl rfl (by decide) ?_ | refine pn_iinc (q := 52) (mm := 1) dX6_print_49 rfl rfl (by decide) (by decide) ?_
          refine pn_goto (q := 10) dX6_print_52 (by decide) ?_
          exact ih (c + 1) (by omega)
  refine pn_aload_n (q := 1) dX6_print_0 rfl rfl rfl ?_
  refine pn_get (q := 4) fX6_23 dX6_print_1 rfl rfl rfl ?_
  refine pn_roV1 (q := 7) (c_leftLines adK d N.1 N.2.1 N.2.2.1 N.2.2.2.1 N.2.2.2.2.1 N.2.2.2.2.2.1 N.2.2.2.2.2.2.1 N.2.2.2.2.2.2.2.1 N.2.2.2.2.2.2.2.2 hpc) lkX6_104 dX6_print_4 rfl rfl (pnSel_of (I := [2, 3, 4, 5]) rfl rfl) (pnFree_none rfl) rfl rfl rfl (by omega) (Nat.le_of_ble_eq_true rfl) rfl ?_
  refine pn_lstore_n (q := 8) dX6_print_7 rfl (by decide) ?_
  refine pn_iconst (q := 9) (v := nI 0) dX6_print_8 rfl (by decide) ?_
  refine pn_istore_n (q := 10) dX6_print_9 rfl (by decide) ?_
  exact loop N.2.2.2.2.1 0 (by omega)
/-! tests -/
def tsN (a b : Bool) : Nat := a.toNat + 2 * b.toNat
set_option maxRecDepth 100000 in
theorem p_tests (adK : Nat → Nat) (d : Nat) (b : Nat → Int32) (tp : Nat) (fp : Int32) (N : NS) (A : AS) (Q : QS) (C : CS) (W : WS) (Z : SS) (ask : Nat → Int32) (rf : Nat → Nat) (hq : Q.1 = 8 ∨ Q.1 = 9) (hn : N.1 ≤ 11) (hpc : N.2.2.2.2.1 ≤ 55) (hS : shOk N.2.2.1 N.2.2.2.1) : pnCt mX6_tests adK (d + 4) 0 0 [.ref 0] (hP b tp fp N A Q C W Z ask rf) (pnIs (.inl (some (.int (nI (tsN (decide (pcN (lfN N.2.2.2.2.2.2.1 N.2.1 N.2.2.2.2.1) % N.2.2.2.1 ≠ 0)) (clN N.2.2.1 && odN N.1 (lfN N.2.2.2.2.2.2.1 N.2.1 N.2.2.2.2.1) 0 N.1)))))) (hP b tp fp N A Q C W Z ask rf)) := by
  refine pnCt_of (by decide) kX6_tests (Nat.le_of_ble_eq_true rfl) rfl (hP_cl hq) (pnCS_b rfl) ?_
  have hk : 1 ≤ N.2.2.2.1 := by unfold shOk at hS; omega
  have hk5 : N.2.2.2.1 ≤ 5 := by unfold shOk at hS; omega
  have hsh : N.2.2.1 ≤ 3 := by unfold shOk at hS; omega
  have hm : pcN (lfN N.2.2.2.2.2.2.1 N.2.1 N.2.2.2.2.1) % N.2.2.2.1 < N.2.2.2.1 := Nat.mod_lt _ hk
  have hp9 := (bcI_eq (lfN N.2.2.2.2.2.2.1 N.2.1 N.2.2.2.2.1)).2
  have CI := c_isClosed adK d N.1 N.2.1 N.2.2.1 N.2.2.2.1 N.2.2.2.2.1 N.2.2.2.2.2.1 N.2.2.2.2.2.2.1 N.2.2.2.2.2.2.2.1 N.2.2.2.2.2.2.2.2 hsh
  have CO := c_hasOddNode adK d N.1 N.2.1 N.2.2.1 N.2.2.2.1 N.2.2.2.2.1 N.2.2.2.2.2.1 N.2.2.2.2.2.2.1 N.2.2.2.2.2.2.2.1 N.2.2.2.2.2.2.2.2 (lfN N.2.2.2.2.2.2.1 N.2.1 N.2.2.2.2.1) hn
  have key : ∀ (v : Bool) (x : Int32), x = nI v.toNat → pnWP mX6_tests adK (d + 4) (pnIs (.inl (some (.int (nI (tsN v (clN N.2.2.1 && odN N.1 (lfN N.2.2.2.2.2.2.1 N.2.1 N.2.2.2.2.1) 0 N.1)))))) (hP b tp fp N A Q C W Z ask rf)) 0 0 (hP b tp fp N A Q C W Z ask rf) [some (.ref 0), some (.long (lfN N.2.2.2.2.2.2.1 N.2.1 N.2.2.2.2.1)), none, some (.int x)] [] 39 := by
    intro v x hx
    subst hx
    cases h1 : clN N.2.2.1 with
    | false =>
      rw [h1] at CI
      refine pn_aload_n (q := 40) dX6_tests_39 rfl rfl rfl ?_
      refine pn_get (q := 43) fX6_23 dX6_tests_40 rfl rfl rfl ?_
      refine pn_roV1 (q := 46) (CI) lkX6_252 dX6_tests_43 rfl rfl (pnSel_of (I := [2, 3, 4, 5]) rfl rfl) (pnFree_none rfl) rfl rfl rfl (by omega) (Nat.le_of_ble_eq_true rfl) rfl ?_
      refine pn_beq (q := 49) (tgt := 64) dX6_tests_46 (by decide) rfl (fun hc46 => ?_) (fun hc46 => ?_)
      · refine pn_iload_n (q := 65) dX6_tests_64 rfl rfl ?_
        refine pn_iret dX6_tests_65 rfl ?_
        exact ⟨by cases v <;> rfl, rfl⟩
      · cases hc46
    | true =>
      rw [h1] at CI
      cases h2 : odN N.1 (lfN N.2.2.2.2.2.2.1 N.2.1 N.2.2.2.2.1) 0 N.1 with
      | false =>
        rw [h2] at CO
        refine pn_aload_n (q := 40) dX6_tests_39 rfl rfl rfl ?_
        refine pn_get (q := 43) fX6_23 dX6_tests_40 rfl rfl rfl ?_
        refine pn_roV1 (q := 46) (CI) lkX6_252 dX6_tests_43 rfl rfl (pnSel_of (I := [2, 3, 4, 5]) rfl rfl) (pnFree_none rfl) rfl rfl rfl (by omega) (Nat.le_of_ble_eq_true rfl) rfl ?_
        refine pn_beq (q := 49) (tgt := 64) dX6_tests_46 (by decide) rfl (fun hc46 => ?_) (fun hc46 => ?_)
        · cases hc46
        · refine pn_aload_n (q := 50) dX6_tests_49 rfl rfl rfl ?_
          refine pn_get (q := 53) fX6_23 dX6_tests_50 rfl rfl rfl ?_
          refine pn_lload_n (q := 54) dX6_tests_53 rfl rfl ?_
          refine pn_roV1 (q := 57) (CO) lkX6_255 dX6_tests_54 rfl rfl (pnSel_of (I := [2, 3, 4, 5]) rfl rfl) (pnFree_none rfl) rfl rfl rfl (by omega) (Nat.le_of_ble_eq_true rfl) rfl ?_
          refine pn_beq (q := 60) (tgt := 64) dX6_tests_57 (by decide) rfl (fun hc57 => ?_) (fun hc57 => ?_)
          · refine pn_iload_n (q := 65) dX6_tests_64 rfl rfl ?_
            refine pn_iret dX6_tests_65 rfl ?_
            exact ⟨by cases v <;> rfl, rfl⟩
          · cases hc57
      | true =>
        rw [h2] at CO
        refine pn_aload_n (q := 40) dX6_tests_39 rfl rfl rfl ?_
        refine pn_get (q := 43) fX6_23 dX6_tests_40 rfl rfl rfl ?_
        refine pn_roV1 (q := 46) (CI) lkX6_252 dX6_tests_43 rfl rfl (pnSel_of (I := [2, 3, 4, 5]) rfl rfl) (pnFree_none rfl) rfl rfl rfl (by omega) (Nat.le_of_ble_eq_true rfl) rfl ?_
        refine pn_beq (q := 49) (tgt := 64) dX6_tests_46 (by decide) rfl (fun hc46 => ?_) (fun hc46 => ?_)
        · cases hc46
        · refine pn_aload_n (q := 50) dX6_tests_49 rfl rfl rfl ?_
          refine pn_get (q := 53) fX6_23 dX6_tests_50 rfl rfl rfl ?_
          refine pn_lload_n (q := 54) dX6_tests_53 rfl rfl ?_
          refine pn_roV1 (q := 57) (CO) lkX6_255 dX6_tests_54 rfl rfl (pnSel_of (I := [2, 3, 4, 5]) rfl rfl) (pnFree_none rfl) rfl rfl rfl (by omega) (Nat.le_of_ble_eq_true rfl) rfl ?_
          refine pn_beq (q := 60) (tgt := 64) dX6_tests_57 (by decide) rfl (fun hc57 => ?_) (fun hc57 => ?_)
          · cases hc57
          · refine pn_iload_n (q := 61) dX6_tests_60 rfl rfl ?_
            refine pn_iconst (q := 62) (v := nI 2) dX6_tests_61 rfl (by decide) ?_
            refine pn_ior (q := 63) dX6_tests_62 rfl ?_
            refine pn_istore_n (q := 64) dX6_tests_63 rfl (by decide) ?_
            refine pn_iload_n (q := 65) dX6_tests_64 rfl rfl ?_
            refine pn_iret dX6_tests_65 rfl ?_
            exact ⟨by cases v <;> rfl, rfl⟩
  by_cases h0 : pcN (lfN N.2.2.2.2.2.2.1 N.2.1 N.2.2.2.2.1) % N.2.2.2.1 ≠ 0
  · rw [decide_eq_true h0]
    refine pn_aload_n (q := 1) dX6_tests_0 rfl rfl rfl ?_
    refine pn_get (q := 4) fX6_23 dX6_tests_1 rfl rfl rfl ?_
    refine pn_roV1 (q := 7) (c_leftLines adK d N.1 N.2.1 N.2.2.1 N.2.2.2.1 N.2.2.2.2.1 N.2.2.2.2.2.1 N.2.2.2.2.2.2.1 N.2.2.2.2.2.2.2.1 N.2.2.2.2.2.2.2.2 hpc) lkX6_104 dX6_tests_4 rfl rfl (pnSel_of (I := [2, 3, 4, 5]) rfl rfl) (pnFree_none rfl) rfl rfl rfl (by omega) (Nat.le_of_ble_eq_true rfl) rfl ?_
    refine pn_lstore_n (q := 8) dX6_tests_7 rfl (by decide) ?_
    refine pn_iconst (q := 9) (v := nI 0) dX6_tests_8 rfl (by decide) ?_
    refine pn_istore_n (q := 10) dX6_tests_9 rfl (by decide) ?_
    refine pn_aload_n (q := 11) dX6_tests_10 rfl rfl rfl ?_
    refine pn_get (q := 14) fX6_23 dX6_tests_11 rfl rfl rfl ?_
    refine pn_get (q := 17) fX6_209 dX6_tests_14 rfl rfl rfl ?_
    first | refine pn_zle (q := 20) (tgt := 39) dX6_tests_17 (by decide) rfl (by omega) (fun hc17 => ?_) (fun hc17 => ?_) | refine pn_if_le (q := 20) (tgt := 39) dX6_tests_17 (by decide) rfl (fun hc17 => ?_) (fun hc17 => ?_)
    · omega
    · refine pn_lload_n (q := 21) dX6_tests_20 rfl rfl ?_
      refine pn_roS1 (q := 24) (c_bc adK d (lfN N.2.2.2.2.2.2.1 N.2.1 N.2.2.2.2.1)) lkX6_108 dX6_tests_21 rfl rfl (pnSel_of (I := []) rfl rfl) (pnFree_none rfl) rfl (by omega) (Nat.le_of_ble_eq_true rfl) rfl ?_
      refine pn_aload_n (q := 25) dX6_tests_24 rfl rfl rfl ?_
      refine pn_get (q := 28) fX6_23 dX6_tests_25 rfl rfl rfl ?_
      refine pn_get (q := 31) fX6_209 dX6_tests_28 rfl rfl rfl ?_
      refine pn_iremN (q := 32) dX6_tests_31 rfl (by omega) ?_
      first | refine pn_zeq (q := 35) (tgt := 39) dX6_tests_32 (by decide) rfl (by omega) (fun hc32 => ?_) (fun hc32 => ?_) | refine pn_if_eq (q := 35) (tgt := 39) dX6_tests_32 (by decide) rfl (fun hc32 => ?_) (fun hc32 => ?_)
      · omega
      · refine pn_iload_n (q := 36) dX6_tests_35 rfl rfl ?_
        refine pn_iconst (q := 37) (v := nI 1) dX6_tests_36 rfl (by decide) ?_
        refine pn_ior (q := 38) dX6_tests_37 rfl ?_
        refine pn_istore_n (q := 39) dX6_tests_38 rfl (by decide) ?_
        exact key true _ (by decide)
  · rw [decide_eq_false h0]
    refine pn_aload_n (q := 1) dX6_tests_0 rfl rfl rfl ?_
    refine pn_get (q := 4) fX6_23 dX6_tests_1 rfl rfl rfl ?_
    refine pn_roV1 (q := 7) (c_leftLines adK d N.1 N.2.1 N.2.2.1 N.2.2.2.1 N.2.2.2.2.1 N.2.2.2.2.2.1 N.2.2.2.2.2.2.1 N.2.2.2.2.2.2.2.1 N.2.2.2.2.2.2.2.2 hpc) lkX6_104 dX6_tests_4 rfl rfl (pnSel_of (I := [2, 3, 4, 5]) rfl rfl) (pnFree_none rfl) rfl rfl rfl (by omega) (Nat.le_of_ble_eq_true rfl) rfl ?_
    refine pn_lstore_n (q := 8) dX6_tests_7 rfl (by decide) ?_
    refine pn_iconst (q := 9) (v := nI 0) dX6_tests_8 rfl (by decide) ?_
    refine pn_istore_n (q := 10) dX6_tests_9 rfl (by decide) ?_
    refine pn_aload_n (q := 11) dX6_tests_10 rfl rfl rfl ?_
    refine pn_get (q := 14) fX6_23 dX6_tests_11 rfl rfl rfl ?_
    refine pn_get (q := 17) fX6_209 dX6_tests_14 rfl rfl rfl ?_
    first | refine pn_zle (q := 20) (tgt := 39) dX6_tests_17 (by decide) rfl (by omega) (fun hc17 => ?_) (fun hc17 => ?_) | refine pn_if_le (q := 20) (tgt := 39) dX6_tests_17 (by decide) rfl (fun hc17 => ?_) (fun hc17 => ?_)
    · omega
    · refine pn_lload_n (q := 21) dX6_tests_20 rfl rfl ?_
      refine pn_roS1 (q := 24) (c_bc adK d (lfN N.2.2.2.2.2.2.1 N.2.1 N.2.2.2.2.1)) lkX6_108 dX6_tests_21 rfl rfl (pnSel_of (I := []) rfl rfl) (pnFree_none rfl) rfl (by omega) (Nat.le_of_ble_eq_true rfl) rfl ?_
      refine pn_aload_n (q := 25) dX6_tests_24 rfl rfl rfl ?_
      refine pn_get (q := 28) fX6_23 dX6_tests_25 rfl rfl rfl ?_
      refine pn_get (q := 31) fX6_209 dX6_tests_28 rfl rfl rfl ?_
      refine pn_iremN (q := 32) dX6_tests_31 rfl (by omega) ?_
      first | refine pn_zeq (q := 35) (tgt := 39) dX6_tests_32 (by decide) rfl (by omega) (fun hc32 => ?_) (fun hc32 => ?_) | refine pn_if_eq (q := 35) (tgt := 39) dX6_tests_32 (by decide) rfl (fun hc32 => ?_) (fun hc32 => ?_)
      · exact key false _ rfl
      · omega
