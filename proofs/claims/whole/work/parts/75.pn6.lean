/-! text -/
set_option maxRecDepth 100000 in
theorem hP_selR {b : Nat → Int32} {tp : Nat} {fp : Int32} {N : NS} {A : AS} {Q : QS} {C : CS} {W : WS} {Z : SS} {ask : Nat → Int32} {rf : Nat → Nat} : pnSel (hP b tp fp N A Q C W Z ask rf) IR (hRq Q.1 Q.2.1 b Q.2.2) := pnSel_of rfl rfl
theorem IR_eq : IR = List.range' 40 5 ++ (List.range' 46 3 ++ (List.range' 1 1 ++ List.range' 45 1)) := by decide
def hPr8 (len : Nat) (s : RS) : List pnE := .inr (3, [.ref 41, .int s.1, .int (nI s.2.1), .ref 1, .int (nI len), .int (nI s.2.2.1), .int (nI s.2.2.2.1), .int (nI s.2.2.2.2.1), .int (nI s.2.2.2.2.2.1), .int (nB s.2.2.2.2.2.2.1), .int (nI s.2.2.2.2.2.2.2.1), .int (nI s.2.2.2.2.2.2.2.2.1), .ref 46, .ref 47, .ref 48]) :: hNS 41 s.2.2.2.2.2.2.2.2.2.1
def hPr9 (s : RS) : List pnE := [.inl (0, 250, .inl s.2.2.2.2.2.2.2.2.2.2.1), .inl (0, 50, .inl (fun j => nI (s.2.2.2.2.2.2.2.2.2.2.2.1 j))), .inl (0, 4, .inl (fun j => nI (s.2.2.2.2.2.2.2.2.2.2.2.2 j)))]
set_option maxRecDepth 100000 in
theorem hRq_RC (len : Nat) (b : Nat → Int32) (s : RS) : (hRq 8 len b s).map (pnRC IR) = hPr8 len s ++ (hPr9 s ++ ([.inl (2, 300, .inl b)] ++ [.inl (2, 0, .inl (fun _ => 0))])) := rfl
set_option maxRecDepth 100000 in
theorem hP_backR {b : Nat → Int32} {tp : Nat} {fp : Int32} {N : NS} {A : AS} {Q : QS} {C : CS} {W : WS} {Z : SS} {ask : Nat → Int32} {rf : Nat → Nat} (len : Nat) (s : RS) : pnBack (hP b tp fp N A Q C W Z ask rf) IR (hRq 8 len b s) = hP b tp fp N A (8, len, s) C W Z ask rf := by
  rw [pnBack_same (by rfl), hRq_RC]
  conv => lhs; rw [IR_eq]
  rw [pnPut_app _ _ _ _ _ (by rfl), pnPut_app _ _ _ _ _ (by rfl), pnPut_app _ _ _ _ _ (by rfl)]
  have e1 : (hP b tp fp N A Q C W Z ask rf) = ([.inr (6, [.ref 1, .int (nI tp), .int fp, .ref 2, .ref 6, .ref 40, .ref 49, .ref 53, .ref 56, .ref 59, .ref 60])] ++ ([.inl (2, 300, .inl b)] ++ (hNS 2 N ++ hPa A))) ++ ((hPr Q).take 5 ++ ([.inl (2, 0, .inl (fun _ => 0))] ++ ((hPr Q).drop 6 ++ (hPc C ++ (hPw W ++ (hPs Z ++ [.inl (0, 5, .inl ask), .inl (0, 3, .inl (fun j => nI (rf j)))])))))) := rfl
  rw [e1, pnPut_mid (hPr8 len s) _ ((hPr Q).take 5) _ 40 5 rfl rfl rfl]
  have e2 : ([.inr (6, [.ref 1, .int (nI tp), .int fp, .ref 2, .ref 6, .ref 40, .ref 49, .ref 53, .ref 56, .ref 59, .ref 60])] ++ ([.inl (2, 300, .inl b)] ++ (hNS 2 N ++ hPa A))) ++ (hPr8 len s ++ ([.inl (2, 0, .inl (fun _ => 0))] ++ ((hPr Q).drop 6 ++ (hPc C ++ (hPw W ++ (hPs Z ++ [.inl (0, 5, .inl ask), .inl (0, 3, .inl (fun j => nI (rf j)))])))))) = ([.inr (6, [.ref 1, .int (nI tp), .int fp, .ref 2, .ref 6, .ref 40, .ref 49, .ref 53, .ref 56, .ref 59, .ref 60])] ++ ([.inl (2, 300, .inl b)] ++ (hNS 2 N ++ (hPa A ++ (hPr8 len s ++ [.inl (2, 0, .inl (fun _ => 0))]))))) ++ ((hPr Q).drop 6 ++ (hPc C ++ (hPw W ++ (hPs Z ++ [.inl (0, 5, .inl ask), .inl (0, 3, .inl (fun j => nI (rf j)))])))) := rfl
  rw [e2, pnPut_mid (hPr9 s) _ ((hPr Q).drop 6) _ 46 3 rfl rfl rfl]
  have e3 : ([.inr (6, [.ref 1, .int (nI tp), .int fp, .ref 2, .ref 6, .ref 40, .ref 49, .ref 53, .ref 56, .ref 59, .ref 60])] ++ ([.inl (2, 300, .inl b)] ++ (hNS 2 N ++ (hPa A ++ (hPr8 len s ++ [.inl (2, 0, .inl (fun _ => 0))]))))) ++ (hPr9 s ++ (hPc C ++ (hPw W ++ (hPs Z ++ [.inl (0, 5, .inl ask), .inl (0, 3, .inl (fun j => nI (rf j)))])))) = [.inr (6, [.ref 1, .int (nI tp), .int fp, .ref 2, .ref 6, .ref 40, .ref 49, .ref 53, .ref 56, .ref 59, .ref 60])] ++ ([.inl (2, 300, .inl b)] ++ (hNS 2 N ++ (hPa A ++ (hPr8 len s ++ ([.inl (2, 0, .inl (fun _ => 0))] ++ (hPr9 s ++ (hPc C ++ (hPw W ++ (hPs Z ++ [.inl (0, 5, .inl ask), .inl (0, 3, .inl (fun j => nI (rf j)))]))))))))) := rfl
  rw [e3, pnPut_mid [.inl (2, 300, .inl b)] _ [.inl (2, 300, .inl b)] _ 1 1 rfl rfl rfl]
  exact pnPut_mid [.inl (2, 0, .inl (fun _ => 0))] ([.inr (6, [.ref 1, .int (nI tp), .int fp, .ref 2, .ref 6, .ref 40, .ref 49, .ref 53, .ref 56, .ref 59, .ref 60])] ++ ([.inl (2, 300, .inl b)] ++ (hNS 2 N ++ (hPa A ++ hPr8 len s)))) [.inl (2, 0, .inl (fun _ => 0))] (hPr9 s ++ (hPc C ++ (hPw W ++ (hPs Z ++ [.inl (0, 5, .inl ask), .inl (0, 3, .inl (fun j => nI (rf j)))])))) 45 1 rfl rfl rfl
set_option maxRecDepth 100000 in
theorem p_textX (adK : Nat → Nat) (d : Nat) (b : Nat → Int32) (tp : Nat) (fp : Int32) (N : NS) (A : AS) (Q : QS) (C : CS) (W : WS) (Z : SS) (ask : Nat → Int32) (rf : Nat → Nat) (hq : Q.1 = 8 ∨ Q.1 = 9) (x : Int32) (ht : tp ≤ 300) (hx : hasN (tp + 1) x = false) : pnCt mX6_text adK (d + 6) 1 6 [.ref 0, .int x] (hP b tp fp N A Q C W Z ask rf) (pnIs (.inr "java/lang/IllegalArgumentException") (hP b tp fp N A Q C W Z ask (updN rf 1 (rf 1 + 1)))) := by
  refine pnCt_of (by decide) kX6_text (Nat.le_of_ble_eq_true rfl) rfl (hP_cl hq) (pnCS_b rfl) ?_
  rcases hasN_cases x (tp + 1) (by omega) with ⟨h1, -⟩ | ⟨h1, h2, -⟩ | ⟨j, -, -, h1⟩
  · refine pn_iload_n (q := 1) dX6_text_0 rfl rfl ?_
    refine pn_if_lt (q := 4) (tgt := 12) dX6_text_1 (by decide) rfl (fun hc1 => ?_) (fun hc1 => ?_)
    · refine pn_aload_n (q := 13) dX6_text_12 rfl rfl rfl ?_
      refine pn_get (q := 16) fX6_66 dX6_text_13 rfl rfl rfl ?_
      refine pn_iconst (q := 17) (v := nI 1) dX6_text_16 rfl (by decide) ?_
      first | refine pn_dup2 (q := 18) dX6_text_17 rfl rfl rfl ?_ | refine pn_dup2l (q := 18) dX6_text_17 rfl ?_
      refine pn_iald (q := 19) dX6_text_18 rfl rfl rfl (by omega) (by first | decide | omega) ?_
      refine pn_iconst (q := 20) (v := nI 1) dX6_text_19 rfl (by decide) ?_
      first | with_reducible refine pn_iaddN (q := 21) dX6_text_20 rfl ?_ | refine pn_iadd (q := 21) dX6_text_20 rfl ?_
      refine pn_iast (q := 22) dX6_text_21 rfl rfl rfl (by omega) (by first | decide | omega) ?_; rw [updN_nI]
      refine pn_bud (bc' := 0 + 1) (bs' := 0 + 6) ?_ (by omega) (by omega)
      exact pn_thrS (j := 0) rfl xf_iae xf_RE rfl pw_567 pw_89 (pnOkW_of xw_iae) xg_iae dX6_text_22 dX6_text_25 dX6_text_26 dX6_text_28 dX6_text_31 rfl (by omega) (Nat.le_of_ble_eq_true rfl) (⟨rfl, rfl⟩)
    · exact (hc1 h1).elim
  · refine pn_iload_n (q := 1) dX6_text_0 rfl rfl ?_
    refine pn_if_lt (q := 4) (tgt := 12) dX6_text_1 (by decide) rfl (fun hc1 => ?_) (fun hc1 => ?_)
    · exact (h2 hc1).elim
    · refine pn_iload_n (q := 5) dX6_text_4 rfl rfl ?_
      refine pn_aload_n (q := 6) dX6_text_5 rfl rfl rfl ?_
      refine pn_get (q := 9) fX6_13 dX6_text_6 rfl rfl rfl ?_
      refine pn_icmp_le (q := 12) (tgt := 32) dX6_text_9 (by decide) rfl (fun hc9 => ?_) (fun hc9 => ?_)
      · exact (nI_gap (by omega) h1 hc9).elim
      · refine pn_aload_n (q := 13) dX6_text_12 rfl rfl rfl ?_
        refine pn_get (q := 16) fX6_66 dX6_text_13 rfl rfl rfl ?_
        refine pn_iconst (q := 17) (v := nI 1) dX6_text_16 rfl (by decide) ?_
        first | refine pn_dup2 (q := 18) dX6_text_17 rfl rfl rfl ?_ | refine pn_dup2l (q := 18) dX6_text_17 rfl ?_
        refine pn_iald (q := 19) dX6_text_18 rfl rfl rfl (by omega) (by first | decide | omega) ?_
        refine pn_iconst (q := 20) (v := nI 1) dX6_text_19 rfl (by decide) ?_
        first | with_reducible refine pn_iaddN (q := 21) dX6_text_20 rfl ?_ | refine pn_iadd (q := 21) dX6_text_20 rfl ?_
        refine pn_iast (q := 22) dX6_text_21 rfl rfl rfl (by omega) (by first | decide | omega) ?_; rw [updN_nI]
        refine pn_bud (bc' := 0 + 1) (bs' := 0 + 6) ?_ (by omega) (by omega)
        exact pn_thrS (j := 0) rfl xf_iae xf_RE rfl pw_567 pw_89 (pnOkW_of xw_iae) xg_iae dX6_text_22 dX6_text_25 dX6_text_26 dX6_text_28 dX6_text_31 rfl (by omega) (Nat.le_of_ble_eq_true rfl) (⟨rfl, rfl⟩)
  · rw [hx] at h1; cases h1
set_option maxRecDepth 100000 in
theorem p_textF (adK : Nat → Nat) (d : Nat) (b : Nat → Int32) (tp : Nat) (fp : Int32) (N : NS) (A : AS) (Q : QS) (C : CS) (W : WS) (Z : SS) (ask : Nat → Int32) (rf : Nat → Nat) (hq : Q.1 = 8 ∨ Q.1 = 9) (len : Nat) (ht : tp ≤ 300) (hlen : len ≤ tp) (hv : Q.2.2.2.2.2.2.2.1 ≤ 1000) (hp : ∀ j, Q.2.2.2.2.2.2.2.2.2.2.2.2.2.1 j ≤ 5) (hb : ∀ j, Q.2.2.2.2.2.2.2.2.2.2.2.2.2.2 j ≤ 5) (hf : ¬ ((reaR len b Q.2.2)).2.1 = 0) (hf4 : ((reaR len b Q.2.2)).2.1 ≤ 4) : pnCt mX6_text adK (d + 8) 0 0 [.ref 0, .int (nI len)] (hP b tp fp N A Q C W Z ask rf) (pnIs (.inl (some (.int (nI ((reaR len b Q.2.2)).2.1 - nI 10)))) (hP b 0 ((reaR len b Q.2.2)).1 N A (8, len, (reaR len b Q.2.2)) C W Z ask rf)) := by
  refine pnCt_of (by decide) kX6_text (Nat.le_of_ble_eq_true rfl) rfl (hP_cl hq) (pnCS_b rfl) ?_
  have CR := c_read adK d Q.1 Q.2.1 len b Q.2.2 hq (by omega) hv hp hb
  generalize (reaR len b Q.2.2) = r at *
  refine pn_iload_n (q := 1) dX6_text_0 rfl rfl ?_
  first | refine pn_zlt (q := 4) (tgt := 12) dX6_text_1 (by decide) rfl (by omega) (fun hc1 => ?_) (fun hc1 => ?_) | refine pn_if_lt (q := 4) (tgt := 12) dX6_text_1 (by decide) rfl (fun hc1 => ?_) (fun hc1 => ?_)
  · exact hc1.elim
  · refine pn_iload_n (q := 5) dX6_text_4 rfl rfl ?_
    refine pn_aload_n (q := 6) dX6_text_5 rfl rfl rfl ?_
    refine pn_get (q := 9) fX6_13 dX6_text_6 rfl rfl rfl ?_
    first | refine pn_nle (q := 12) (tgt := 32) dX6_text_9 (by decide) rfl (by omega) (by omega) (fun hc9 => ?_) (fun hc9 => ?_) | refine pn_icmp_le (q := 12) (tgt := 32) dX6_text_9 (by decide) rfl (fun hc9 => ?_) (fun hc9 => ?_)
    · refine pn_aload_n (q := 33) dX6_text_32 rfl rfl rfl ?_
      refine pn_iconst (q := 34) (v := nI 0) dX6_text_33 rfl (by decide) ?_
      refine pn_put (q := 37) fX6_13 dX6_text_34 rfl rfl (Nat.le_of_ble_eq_true rfl) (pnF_int _) ?_
      refine pn_aload_n (q := 38) dX6_text_37 rfl rfl rfl ?_
      refine pn_get (q := 41) fX6_37 dX6_text_38 rfl rfl rfl ?_
      refine pn_aload_n (q := 42) dX6_text_41 rfl rfl rfl ?_
      refine pn_get (q := 45) fX6_9 dX6_text_42 rfl rfl rfl ?_
      refine pn_iload_n (q := 46) dX6_text_45 rfl rfl ?_
      refine pn_upV1 (q := 49) (bc9 := 0) (bs9 := 0) (CR) lkX6_89 dX6_text_46 rfl rfl (hP_selR (tp := 0)) (pnFree_none rfl) rfl rfl rfl (by omega) (by omega) (by omega) (Nat.le_of_ble_eq_true rfl) rfl ?_
      refine pn_eq (h' := _) (st' := _) (hP_backR (tp := 0) len r) rfl ?_
      refine pn_istore_n (q := 50) dX6_text_49 rfl (by decide) ?_
      refine pn_iload_n (q := 51) dX6_text_50 rfl rfl ?_
      first | refine pn_zeq (q := 54) (tgt := 70) dX6_text_51 (by decide) rfl (by omega) (fun hc51 => ?_) (fun hc51 => ?_) | refine pn_if_eq (q := 54) (tgt := 70) dX6_text_51 (by decide) rfl (fun hc51 => ?_) (fun hc51 => ?_)
      · omega
      · refine pn_aload_n (q := 55) dX6_text_54 rfl rfl rfl ?_
        refine pn_aload_n (q := 56) dX6_text_55 rfl rfl rfl ?_
        refine pn_get (q := 59) fX6_37 dX6_text_56 rfl rfl rfl ?_
        refine pn_get (q := 62) fX6_93 dX6_text_59 rfl rfl rfl ?_
        refine pn_put (q := 65) fX6_17 dX6_text_62 rfl rfl (Nat.le_of_ble_eq_true rfl) (pnF_int _) ?_
        refine pn_iload_n (q := 66) dX6_text_65 rfl rfl ?_
        refine pn_bipush (q := 68) (v := nI 10) dX6_text_66 rfl (by decide) ?_
        refine pn_isub (q := 69) dX6_text_68 rfl ?_
        refine pn_iret dX6_text_69 rfl ?_
        exact ⟨rfl, rfl⟩
    · omega
def nsT (D : NS) (N : NS) : NS := nsB D (nsF N)
set_option maxRecDepth 100000 in
theorem p_text (adK : Nat → Nat) (d : Nat) (b : Nat → Int32) (tp : Nat) (fp : Int32) (N : NS) (A : AS) (Q : QS) (C : CS) (W : WS) (Z : SS) (ask : Nat → Int32) (rf : Nat → Nat) (hq : Q.1 = 8 ∨ Q.1 = 9) (hA : A.1 ≤ 8 ∧ A.2.1 < 8) (len : Nat) (ht : tp ≤ 300) (hlen : len ≤ tp) (hv : Q.2.2.2.2.2.2.2.1 ≤ 1000) (hp : ∀ j, Q.2.2.2.2.2.2.2.2.2.2.2.2.2.1 j ≤ 5) (hb : ∀ j, Q.2.2.2.2.2.2.2.2.2.2.2.2.2.2 j ≤ 5) (hf : ((reaR len b Q.2.2)).2.1 = 0) (hpc : (rsD (reaR len b Q.2.2)).2.2.2.2.1 ≤ 55) : pnCt mX6_text adK (d + 8) 0 0 [.ref 0, .int (nI len)] (hP b tp fp N A Q C W Z ask rf) (pnIs (.inl (some (.int (nI (pcN (lfN (rsD (reaR len b Q.2.2)).2.2.2.2.2.2.1 (rsD (reaR len b Q.2.2)).2.1 (rsD (reaR len b Q.2.2)).2.2.2.2.1)))))) (hP b 0 (-1) (nsT (rsD (reaR len b Q.2.2)) N) (keA A N) (8, len, (reaR len b Q.2.2)) C W Z ask rf)) := by
  refine pnCt_of (by decide) kX6_text (Nat.le_of_ble_eq_true rfl) rfl (hP_cl hq) (pnCS_b rfl) ?_
  have CR := c_read adK d Q.1 Q.2.1 len b Q.2.2 hq (by omega) hv hp hb
  generalize (reaR len b Q.2.2) = r at *
  refine pn_iload_n (q := 1) dX6_text_0 rfl rfl ?_
  first | refine pn_zlt (q := 4) (tgt := 12) dX6_text_1 (by decide) rfl (by omega) (fun hc1 => ?_) (fun hc1 => ?_) | refine pn_if_lt (q := 4) (tgt := 12) dX6_text_1 (by decide) rfl (fun hc1 => ?_) (fun hc1 => ?_)
  · exact hc1.elim
  · refine pn_iload_n (q := 5) dX6_text_4 rfl rfl ?_
    refine pn_aload_n (q := 6) dX6_text_5 rfl rfl rfl ?_
    refine pn_get (q := 9) fX6_13 dX6_text_6 rfl rfl rfl ?_
    first | refine pn_nle (q := 12) (tgt := 32) dX6_text_9 (by decide) rfl (by omega) (by omega) (fun hc9 => ?_) (fun hc9 => ?_) | refine pn_icmp_le (q := 12) (tgt := 32) dX6_text_9 (by decide) rfl (fun hc9 => ?_) (fun hc9 => ?_)
    · refine pn_aload_n (q := 33) dX6_text_32 rfl rfl rfl ?_
      refine pn_iconst (q := 34) (v := nI 0) dX6_text_33 rfl (by decide) ?_
      refine pn_put (q := 37) fX6_13 dX6_text_34 rfl rfl (Nat.le_of_ble_eq_true rfl) (pnF_int _) ?_
      refine pn_aload_n (q := 38) dX6_text_37 rfl rfl rfl ?_
      refine pn_get (q := 41) fX6_37 dX6_text_38 rfl rfl rfl ?_
      refine pn_aload_n (q := 42) dX6_text_41 rfl rfl rfl ?_
      refine pn_get (q := 45) fX6_9 dX6_text_42 rfl rfl rfl ?_
      refine pn_iload_n (q := 46) dX6_text_45 rfl rfl ?_
      refine pn_upV1 (q := 49) (bc9 := 0) (bs9 := 0) (CR) lkX6_89 dX6_text_46 rfl rfl (hP_selR (tp := 0)) (pnFree_none rfl) rfl rfl rfl (by omega) (by omega) (by omega) (Nat.le_of_ble_eq_true rfl) rfl ?_
      refine pn_eq (h' := _) (st' := _) (hP_backR (tp := 0) len r) rfl ?_
      refine pn_istore_n (q := 50) dX6_text_49 rfl (by decide) ?_
      refine pn_iload_n (q := 51) dX6_text_50 rfl rfl ?_
      first | refine pn_zeq (q := 54) (tgt := 70) dX6_text_51 (by decide) rfl (by omega) (fun hc51 => ?_) (fun hc51 => ?_) | refine pn_if_eq (q := 54) (tgt := 70) dX6_text_51 (by decide) rfl (fun hc51 => ?_) (fun hc51 => ?_)
      · refine pn_aload_n (q := 71) dX6_text_70 rfl rfl rfl ?_
        refine pn_iconst (q := 72) (v := (-1)) dX6_text_71 rfl (by decide) ?_
        refine pn_put (q := 75) fX6_17 dX6_text_72 rfl rfl (Nat.le_of_ble_eq_true rfl) (pnF_int _) ?_
        refine pn_aload_n (q := 76) dX6_text_75 rfl rfl rfl ?_
        refine pn_get (q := 79) fX6_30 dX6_text_76 rfl rfl rfl ?_
        refine pn_aload_n (q := 80) dX6_text_79 rfl rfl rfl ?_
        refine pn_get (q := 83) fX6_23 dX6_text_80 rfl rfl rfl ?_
        refine pn_upV0 (q := 86) (bc9 := 0) (bs9 := 0) (c_keep adK d A.1 A.2.1 A.2.2 N hA.1 hA.2) lkX6_94 dX6_text_83 rfl rfl (hP_selA (tp := 0) (fp := -1) (Q := (8, len, r))) (pnFree_none rfl) rfl rfl rfl (by omega) (by omega) (by omega) (Nat.le_of_ble_eq_true rfl) ?_
        refine pn_eq (h' := _) (st' := _) (hP_backA (tp := 0) (fp := -1) (Q := (8, len, r)) (keA A N).1 (keA A N).2.1 (keA A N).2.2 N) rfl ?_
        refine pn_aload_n (q := 87) dX6_text_86 rfl rfl rfl ?_
        refine pn_get (q := 90) fX6_23 dX6_text_87 rfl rfl rfl ?_
        refine pn_aload_n (q := 91) dX6_text_90 rfl rfl rfl ?_
        refine pn_get (q := 94) fX6_37 dX6_text_91 rfl rfl rfl ?_
        refine pn_get (q := 97) fX6_98 dX6_text_94 rfl rfl rfl ?_
        refine pn_upV0 (q := 100) (bc9 := 0) (bs9 := 0) (c_become adK d N.1 N.2.1 N.2.2.1 N.2.2.2.1 N.2.2.2.2.1 N.2.2.2.2.2.1 N.2.2.2.2.2.2.1 N.2.2.2.2.2.2.2.1 N.2.2.2.2.2.2.2.2 (rsD r).1 (rsD r).2.1 (rsD r).2.2.1 (rsD r).2.2.2.1 (rsD r).2.2.2.2.1 (rsD r).2.2.2.2.2.1 (rsD r).2.2.2.2.2.2.1 (rsD r).2.2.2.2.2.2.2.1 (rsD r).2.2.2.2.2.2.2.2) lkX6_101 dX6_text_97 rfl rfl (pnSel_of (I := [2, 3, 4, 5, 41, 42, 43, 44]) rfl rfl) (pnFree_none rfl) rfl rfl rfl (by omega) (by omega) (by omega) (Nat.le_of_ble_eq_true rfl) ?_
        refine pn_eq (h' := (hP b 0 (-1) (nsT (rsD r) N) (keA A N) (8, len, r) C W Z ask rf)) (st' := _) rfl rfl ?_
        refine pn_aload_n (q := 101) dX6_text_100 rfl rfl rfl ?_
        refine pn_get (q := 104) fX6_23 dX6_text_101 rfl rfl rfl ?_
        refine pn_roV1 (q := 107) (c_leftLines adK d (rsD r).1 (rsD r).2.1 (rsD r).2.2.1 (rsD r).2.2.2.1 (rsD r).2.2.2.2.1 (rsD r).2.2.2.2.2.1 (rsD r).2.2.2.2.2.2.1 (rsD r).2.2.2.2.2.2.2.1 N.2.2.2.2.2.2.2.2 hpc) lkX6_104 dX6_text_104 rfl rfl (pnSel_of (I := [2, 3, 4, 5]) rfl rfl) (pnFree_none rfl) rfl rfl rfl (by omega) (Nat.le_of_ble_eq_true rfl) rfl ?_
        refine pn_roS1 (q := 110) (c_bc adK d _) lkX6_108 dX6_text_107 rfl rfl (pnSel_of (I := []) rfl rfl) (pnFree_none rfl) rfl (by omega) (Nat.le_of_ble_eq_true rfl) rfl ?_
        refine pn_iret dX6_text_110 rfl ?_
        exact ⟨rfl, rfl⟩
      · omega
    · omega
/-! develop, classes -/
def pnXx {S : Type} (E : String) (hf : S → List pnE) : pnR → List pnE → Prop := fun r h' => ∃ x : S, r = .inr E ∧ h' = hf x
set_option maxRecDepth 100000 in
theorem p_developX (adK : Nat → Nat) (d : Nat) (b : Nat → Int32) (tp : Nat) (fp : Int32) (N : NS) (A : AS) (Q : QS) (C : CS) (W : WS) (Z : SS) (ask : Nat → Int32) (rf : Nat → Nat) (hq : Q.1 = 8 ∨ Q.1 = 9) (bN : Nat → Nat) (hbs : N.2.2.2.2.2.2.2.1 = fun j => nI (bN j)) (hS : shOk N.2.2.1 N.2.2.2.1) (hn : N.1 ≤ 11) (hn1 : 1 ≤ N.1) (hpc : N.2.2.2.2.1 ≤ 55) (hbc : N.2.2.2.2.2.1 ≤ 4) (hbN : ∀ j, bN j ≤ 30) (hc : cdN N.1 N.2.2.1 N.2.2.2.1 bN N.2.2.2.2.2.1 = false) : pnCt mX6_develop adK (d + 6) 1 6 [.ref 0] (hP b tp fp N A Q C W Z ask rf) (pnXx "java/lang/IllegalStateException" (fun sf : Nat → Int32 => hP b tp fp (nsB N sf) A Q C W Z ask (updN rf 2 (rf 2 + 1)))) := by
  refine pnCt_of (by decide) kX6_develop (Nat.le_of_ble_eq_true rfl) rfl (hP_cl hq) (pnCS_b rfl) ?_
  have CB := c_canDevelop adK d N.1 N.2.1 N.2.2.1 N.2.2.2.1 N.2.2.2.2.1 N.2.2.2.2.2.1 N.2.2.2.2.2.2.1 bN N.2.2.2.2.2.2.2.2 hS hn hn1 hbc hbN
  rw [← hbs, hc] at CB
  refine pn_aload_n (q := 1) dX6_develop_0 rfl rfl rfl ?_
  refine pn_get (q := 4) fX6_23 dX6_develop_1 rfl rfl rfl ?_
  refine pn_exV1 (q := 7) (bc9 := 1) (bs9 := 6) (CB) lkX6_188 dX6_develop_4 rfl rfl (pnSel_of (I := [2, 3, 4, 5]) rfl rfl) (pnFree_none rfl) rfl rfl rfl (by omega) (by omega) (by omega) (Nat.le_of_ble_eq_true rfl) (fun _ => rfl) (fun sf => ?_)
  refine pn_eq (h' := (hP b tp fp (nsB N sf) A Q C W Z ask rf)) (st' := _) rfl rfl ?_
  refine pn_bne (q := 10) (tgt := 30) dX6_develop_7 (by decide) rfl (fun hc7 => ?_) (fun hc7 => ?_)
  · cases hc7
  · refine pn_aload_n (q := 11) dX6_develop_10 rfl rfl rfl ?_
    refine pn_get (q := 14) fX6_66 dX6_develop_11 rfl rfl rfl ?_
    refine pn_iconst (q := 15) (v := nI 2) dX6_develop_14 rfl (by decide) ?_
    first | refine pn_dup2 (q := 16) dX6_develop_15 rfl rfl rfl ?_ | refine pn_dup2l (q := 16) dX6_develop_15 rfl ?_
    refine pn_iald (q := 17) dX6_develop_16 rfl rfl rfl (by omega) (by first | decide | omega) ?_
    refine pn_iconst (q := 18) (v := nI 1) dX6_develop_17 rfl (by decide) ?_
    first | with_reducible refine pn_iaddN (q := 19) dX6_develop_18 rfl ?_ | refine pn_iadd (q := 19) dX6_develop_18 rfl ?_
    refine pn_iast (q := 20) dX6_develop_19 rfl rfl rfl (by omega) (by first | decide | omega) ?_; rw [updN_nI]
    refine pn_bud (bc' := 0 + 1) (bs' := 0 + 6) ?_ (by omega) (by omega)
    exact pn_thrS (j := 17) rfl xf_ise xf_RE rfl pw_809 pw_97 (pnOkW_of xw_ise) xg_ise dX6_develop_20 dX6_develop_23 dX6_develop_24 dX6_develop_26 dX6_develop_29 rfl (by omega) (Nat.le_of_ble_eq_true rfl) (⟨sf, rfl, rfl⟩)
set_option maxRecDepth 100000 in
theorem p_develop (adK : Nat → Nat) (d : Nat) (b : Nat → Int32) (tp : Nat) (fp : Int32) (N : NS) (A : AS) (Q : QS) (C : CS) (W : WS) (Z : SS) (ask : Nat → Int32) (rf : Nat → Nat) (hq : Q.1 = 8 ∨ Q.1 = 9) (hA : A.1 ≤ 8 ∧ A.2.1 < 8) (bN : Nat → Nat) (hbs : N.2.2.2.2.2.2.2.1 = fun j => nI (bN j)) (hS : shOk N.2.2.1 N.2.2.2.1) (hn : N.1 ≤ 11) (hn1 : 1 ≤ N.1) (hpc : N.2.2.2.2.1 ≤ 55) (hbc : N.2.2.2.2.2.1 ≤ 4) (hbN : ∀ j, bN j ≤ 30) (hc : cdN N.1 N.2.2.1 N.2.2.2.1 bN N.2.2.2.2.2.1 = true) : pnCt mX6_develop adK (d + 6) 0 0 [.ref 0] (hP b tp fp N A Q C W Z ask rf) (pnEx (fun _ : Nat → Int32 => some (.int (nI (N.2.2.2.2.2.1 * N.1)))) (fun sf : Nat → Int32 => hP b tp fp (N.1, dvGs N.1 N.2.2.1 N.2.2.2.1 bN N.2.2.2.2.2.1, N.2.2.1, N.2.2.2.1, N.2.2.2.2.2.1 * N.1, N.2.2.2.2.2.1, dvPs N.1 N.2.2.1 N.2.2.2.1 bN N.2.2.2.2.2.2.1 N.2.2.2.2.2.1, N.2.2.2.2.2.2.2.1, sf) (keA A N) Q C W Z ask rf)) := by
  refine pnCt_of (by decide) kX6_develop (Nat.le_of_ble_eq_true rfl) rfl (hP_cl hq) (pnCS_b rfl) ?_
  have CB := c_canDevelop adK d N.1 N.2.1 N.2.2.1 N.2.2.2.1 N.2.2.2.2.1 N.2.2.2.2.2.1 N.2.2.2.2.2.2.1 bN N.2.2.2.2.2.2.2.2 hS hn hn1 hbc hbN
  rw [← hbs, hc] at CB
  have CD := fun sf => c_developBases adK d N.1 N.2.1 N.2.2.1 N.2.2.2.1 N.2.2.2.2.1 N.2.2.2.2.2.1 N.2.2.2.2.2.2.1 bN sf hS hn hn1 hbc hbN
  rw [← hbs] at CD
  refine pn_aload_n (q := 1) dX6_develop_0 rfl rfl rfl ?_
  refine pn_get (q := 4) fX6_23 dX6_develop_1 rfl rfl rfl ?_
  refine pn_exV1 (q := 7) (bc9 := 0) (bs9 := 0) (CB) lkX6_188 dX6_develop_4 rfl rfl (pnSel_of (I := [2, 3, 4, 5]) rfl rfl) (pnFree_none rfl) rfl rfl rfl (by omega) (by omega) (by omega) (Nat.le_of_ble_eq_true rfl) (fun _ => rfl) (fun sf => ?_)
  refine pn_eq (h' := (hP b tp fp (nsB N sf) A Q C W Z ask rf)) (st' := _) rfl rfl ?_
  refine pn_bne (q := 10) (tgt := 30) dX6_develop_7 (by decide) rfl (fun hc7 => ?_) (fun hc7 => ?_)
  · refine pn_aload_n (q := 31) dX6_develop_30 rfl rfl rfl ?_
    refine pn_get (q := 34) fX6_30 dX6_develop_31 rfl rfl rfl ?_
    refine pn_aload_n (q := 35) dX6_develop_34 rfl rfl rfl ?_
    refine pn_get (q := 38) fX6_23 dX6_develop_35 rfl rfl rfl ?_
    refine pn_upV0 (q := 41) (bc9 := 0) (bs9 := 0) (c_keep adK d A.1 A.2.1 A.2.2 (nsB N sf) hA.1 hA.2) lkX6_94 dX6_develop_38 rfl rfl (hP_selA (N := nsB N sf)) (pnFree_none rfl) rfl rfl rfl (by omega) (by omega) (by omega) (Nat.le_of_ble_eq_true rfl) ?_
    refine pn_eq (h' := _) (st' := _) (hP_backA (N := nsB N sf) (keA A N).1 (keA A N).2.1 (keA A N).2.2 (nsB N sf)) rfl ?_
    refine pn_aload_n (q := 42) dX6_develop_41 rfl rfl rfl ?_
    refine pn_get (q := 45) fX6_23 dX6_develop_42 rfl rfl rfl ?_
    refine pn_exV0 (q := 48) (bc9 := 0) (bs9 := 0) (CD sf) lkX6_194 dX6_develop_45 rfl rfl (pnSel_of (I := [2, 3, 4, 5]) rfl rfl) (pnFree_none rfl) rfl rfl rfl (by omega) (by omega) (by omega) (Nat.le_of_ble_eq_true rfl) (fun sf2 => ?_)
    refine pn_eq (h' := (hP b tp fp (N.1, dvGs N.1 N.2.2.1 N.2.2.2.1 bN N.2.2.2.2.2.1, N.2.2.1, N.2.2.2.1, N.2.2.2.2.2.1 * N.1, N.2.2.2.2.2.1, dvPs N.1 N.2.2.1 N.2.2.2.1 bN N.2.2.2.2.2.2.1 N.2.2.2.2.2.1, N.2.2.2.2.2.2.2.1, sf2) (keA A N) Q C W Z ask rf)) (st' := _) rfl rfl ?_
    refine pn_aload_n (q := 49) dX6_develop_48 rfl rfl rfl ?_
    refine pn_get (q := 52) fX6_23 dX6_develop_49 rfl rfl rfl ?_
    refine pn_get (q := 55) fX6_135 dX6_develop_52 rfl rfl rfl ?_
    refine pn_iret dX6_develop_55 rfl ?_
    exact ⟨sf2, rfl, rfl⟩
  · cases hc7
set_option maxRecDepth 100000 in
theorem p_classesX (adK : Nat → Nat) (d : Nat) (b : Nat → Int32) (tp : Nat) (fp : Int32) (N : NS) (A : AS) (Q : QS) (C : CS) (W : WS) (Z : SS) (ask : Nat → Int32) (rf : Nat → Nat) (hq : Q.1 = 8 ∨ Q.1 = 9) (hpc : 14 < N.2.2.2.2.1) (hpc2 : N.2.2.2.2.1 ≤ 55) : pnCt mX6_classes adK (d + 6) 1 6 [.ref 0] (hP b tp fp N A Q C W Z ask rf) (pnIs (.inr "java/lang/IllegalStateException") (hP b tp fp N A Q C W Z ask (updN rf 2 (rf 2 + 1)))) := by
  refine pnCt_of (by decide) kX6_classes (Nat.le_of_ble_eq_true rfl) rfl (hP_cl hq) (pnCS_b rfl) ?_
  refine pn_aload_n (q := 1) dX6_classes_0 rfl rfl rfl ?_
  refine pn_get (q := 4) fX6_23 dX6_classes_1 rfl rfl rfl ?_
  refine pn_get (q := 7) fX6_135 dX6_classes_4 rfl rfl rfl ?_
  refine pn_bipush (q := 9) (v := nI 14) dX6_classes_7 rfl (by decide) ?_
  first | refine pn_nle (q := 12) (tgt := 33) dX6_classes_9 (by decide) rfl (by omega) (by omega) (fun hc9 => ?_) (fun hc9 => ?_) | refine pn_icmp_le (q := 12) (tgt := 33) dX6_classes_9 (by decide) rfl (fun hc9 => ?_) (fun hc9 => ?_)
  · omega
  · refine pn_aload_n (q := 13) dX6_classes_12 rfl rfl rfl ?_
    refine pn_get (q := 16) fX6_66 dX6_classes_13 rfl rfl rfl ?_
    refine pn_iconst (q := 17) (v := nI 2) dX6_classes_16 rfl (by decide) ?_
    first | refine pn_dup2 (q := 18) dX6_classes_17 rfl rfl rfl ?_ | refine pn_dup2l (q := 18) dX6_classes_17 rfl ?_
    refine pn_iald (q := 19) dX6_classes_18 rfl rfl rfl (by omega) (by first | decide | omega) ?_
    refine pn_iconst (q := 20) (v := nI 1) dX6_classes_19 rfl (by decide) ?_
    first | with_reducible refine pn_iaddN (q := 21) dX6_classes_20 rfl ?_ | refine pn_iadd (q := 21) dX6_classes_20 rfl ?_
    refine pn_iast (q := 22) dX6_classes_21 rfl rfl rfl (by omega) (by first | decide | omega) ?_; rw [updN_nI]
    refine pn_bud (bc' := 0 + 1) (bs' := 0 + 6) ?_ (by omega) (by omega)
    exact pn_thrW (j := 21) rfl xf_ise xf_RE rfl pw_809 pw_97 (pnOkW_of xw_ise) xg_ise dX6_classes_22 dX6_classes_25 dX6_classes_26 dX6_classes_29 dX6_classes_32 rfl (by omega) (Nat.le_of_ble_eq_true rfl) (⟨rfl, rfl⟩)
set_option maxRecDepth 100000 in
theorem p_classes (adK : Nat → Nat) (d : Nat) (b : Nat → Int32) (tp : Nat) (fp : Int32) (N : NS) (A : AS) (Q : QS) (C : CS) (W : WS) (Z : SS) (ask : Nat → Int32) (rf : Nat → Nat) (hq : Q.1 = 8 ∨ Q.1 = 9) (hn : N.1 ≤ 11) (hpc : N.2.2.2.2.1 ≤ 14) : pnCt mX6_classes adK (d + 17) 0 0 [.ref 0] (hP b tp fp N A Q C W Z ask rf) (pnEx (fun _ : (Nat → Int32) × (Nat → Int32) => some (.int (nI (fwR N.1 N.2.2.2.2.2.2.1 N.2.2.2.2.1)))) (fun s => hP b tp fp N A Q C W (min N.2.2.2.2.1 14, s.1, s.2) ask rf)) := by
  refine pnCt_of (by decide) kX6_classes (Nat.le_of_ble_eq_true rfl) rfl (hP_cl hq) (pnCS_b rfl) ?_
  refine pn_aload_n (q := 1) dX6_classes_0 rfl rfl rfl ?_
  refine pn_get (q := 4) fX6_23 dX6_classes_1 rfl rfl rfl ?_
  refine pn_get (q := 7) fX6_135 dX6_classes_4 rfl rfl rfl ?_
  refine pn_bipush (q := 9) (v := nI 14) dX6_classes_7 rfl (by decide) ?_
  first | refine pn_nle (q := 12) (tgt := 33) dX6_classes_9 (by decide) rfl (by omega) (by omega) (fun hc9 => ?_) (fun hc9 => ?_) | refine pn_icmp_le (q := 12) (tgt := 33) dX6_classes_9 (by decide) rfl (fun hc9 => ?_) (fun hc9 => ?_)
  · refine pn_aload_n (q := 34) dX6_classes_33 rfl rfl rfl ?_
    refine pn_get (q := 37) fX6_58 dX6_classes_34 rfl rfl rfl ?_
    refine pn_aload_n (q := 38) dX6_classes_37 rfl rfl rfl ?_
    refine pn_get (q := 41) fX6_23 dX6_classes_38 rfl rfl rfl ?_
    refine pn_exV1 (q := 44) (bc9 := 0) (bs9 := 0) (c_fewest adK d Z.1 Z.2.1 Z.2.2 N.1 N.2.1 N.2.2.1 N.2.2.2.1 N.2.2.2.2.1 N.2.2.2.2.2.1 N.2.2.2.2.2.2.1 N.2.2.2.2.2.2.2.1 N.2.2.2.2.2.2.2.2 hn (by omega)) lkX6_268 dX6_classes_41 rfl rfl (pnSel_of (I := [56, 57, 58, 2, 3, 4, 5]) rfl rfl) (pnFree_none rfl) rfl rfl rfl (by omega) (by omega) (by omega) (Nat.le_of_ble_eq_true rfl) (fun _ => rfl) (fun s => ?_)
    refine pn_eq (h' := (hP b tp fp N A Q C W (min N.2.2.2.2.1 14, s.1, s.2) ask rf)) (st' := _) rfl rfl ?_
    refine pn_iret dX6_classes_44 rfl ?_
    exact ⟨s, rfl, rfl⟩
  · omega
