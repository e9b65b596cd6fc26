/-! feed -/
def byI (x s : Int32) : Int32 := vp_nar .byte ((x.toUInt32 >>> (s.toUInt32 &&& Int32.toUInt32 31)).toInt32.toInt8.toInt32)
def tpN (b : Nat → Int32) (t : Nat) (x : Int32) : Nat → Int32 := upd (upd (upd (upd b t (byI x 24)) (t + 1) (byI x 16)) (t + 1 + 1) (byI x 8)) (t + 1 + 1 + 1) (byI x 0)
set_option maxRecDepth 100000 in
theorem p_tapeNumber (adK : Nat → Nat) (d : Nat) (b : Nat → Int32) (tp : Nat) (fp : Int32) (N : NS) (A : AS) (Q : QS) (C : CS) (W : WS) (Z : SS) (ask : Nat → Int32) (rf : Nat → Nat) (hq : Q.1 = 8 ∨ Q.1 = 9) (x : Int32) (ht : tp + 4 ≤ 300) : pnCt mX6_tapeNumber adK d 0 0 [.ref 0, .int x] (hP b tp fp N A Q C W Z ask rf) (pnIs (.inl none) (hP (tpN b tp x) (tp + 1 + 1 + 1 + 1) fp N A Q C W Z ask rf)) := by
  refine pnCt_of (by decide) kX6_tapeNumber (Nat.le_of_ble_eq_true rfl) rfl (hP_cl hq) (pnCS_b rfl) ?_
  have step : ∀ (s s' : Int32) (t : Nat) (b' : Nat → Int32), ¬ s < 0 → s + (-8) = s' → t < 300 → pnWP mX6_tapeNumber adK d (pnIs (.inl none) (hP (tpN b tp x) (tp + 1 + 1 + 1 + 1) fp N A Q C W Z ask rf)) 0 0 (hP (upd b' t (byI x s)) (t + 1) fp N A Q C W Z ask rf) [some (.ref 0), some (.int x), some (.int s')] [] 3 → pnWP mX6_tapeNumber adK d (pnIs (.inl none) (hP (tpN b tp x) (tp + 1 + 1 + 1 + 1) fp N A Q C W Z ask rf)) 0 0 (hP b' t fp N A Q C W Z ask rf) [some (.ref 0), some (.int x), some (.int s)] [] 3 := by
    intro s s' t b' hs e ht k
    subst e
    refine pn_iload_n (q := 4) dX6_tapeNumber_3 rfl rfl ?_
    refine pn_if_lt (q := 7) (tgt := 55) dX6_tapeNumber_4 (by decide) rfl (fun hc4 => ?_) (fun hc4 => ?_)
    · exact (hs hc4).elim
    · refine pn_aload_n (q := 8) dX6_tapeNumber_7 rfl rfl rfl ?_
      refine pn_get (q := 11) fX6_13 dX6_tapeNumber_8 rfl rfl rfl ?_
      first | refine pn_zlt (q := 14) (tgt := 49) dX6_tapeNumber_11 (by decide) rfl (by omega) (fun hc11 => ?_) (fun hc11 => ?_) | refine pn_if_lt (q := 14) (tgt := 49) dX6_tapeNumber_11 (by decide) rfl (fun hc11 => ?_) (fun hc11 => ?_)
      · exact hc11.elim
      · refine pn_aload_n (q := 15) dX6_tapeNumber_14 rfl rfl rfl ?_
        refine pn_get (q := 18) fX6_13 dX6_tapeNumber_15 rfl rfl rfl ?_
        refine pn_aload_n (q := 19) dX6_tapeNumber_18 rfl rfl rfl ?_
        refine pn_get (q := 22) fX6_9 dX6_tapeNumber_19 rfl rfl rfl ?_
        refine pn_alen (q := 23) dX6_tapeNumber_22 rfl rfl (by decide) ?_
        first | refine pn_nge (q := 26) (tgt := 49) dX6_tapeNumber_23 (by decide) rfl (by omega) (by omega) (fun hc23 => ?_) (fun hc23 => ?_) | refine pn_icmp_ge (q := 26) (tgt := 49) dX6_tapeNumber_23 (by decide) rfl (fun hc23 => ?_) (fun hc23 => ?_)
        · omega
        · refine pn_aload_n (q := 27) dX6_tapeNumber_26 rfl rfl rfl ?_
          refine pn_get (q := 30) fX6_9 dX6_tapeNumber_27 rfl rfl rfl ?_
          refine pn_aload_n (q := 31) dX6_tapeNumber_30 rfl rfl rfl ?_
          refine pn_get (q := 34) fX6_13 dX6_tapeNumber_31 rfl rfl rfl ?_
          refine pn_iload_n (q := 35) dX6_tapeNumber_34 rfl rfl ?_
          refine pn_iload_n (q := 36) dX6_tapeNumber_35 rfl rfl ?_
          refine pn_iushr (q := 37) dX6_tapeNumber_36 rfl ?_
          refine pn_i2b (q := 38) dX6_tapeNumber_37 rfl ?_
          refine pn_bast (q := 39) dX6_tapeNumber_38 rfl rfl rfl (by omega) (by first | decide | omega) ?_
          refine pn_aload_n (q := 40) dX6_tapeNumber_39 rfl rfl rfl ?_
          refine pn_dup (q := 41) dX6_tapeNumber_40 rfl rfl ?_
          refine pn_get (q := 44) fX6_13 dX6_tapeNumber_41 rfl rfl rfl ?_
          refine pn_iconst (q := 45) (v := nI 1) dX6_tapeNumber_44 rfl (by decide) ?_
          first | with_reducible refine pn_iaddN (q := 46) dX6_tapeNumber_45 rfl ?_ | refine pn_iadd (q := 46) dX6_tapeNumber_45 rfl ?_
          refine pn_put (q := 49) fX6_13 dX6_tapeNumber_46 rfl rfl (Nat.le_of_ble_eq_true rfl) (pnF_int _) ?_
          refine pn_iinc (q := 52) (mm := (-8)) dX6_tapeNumber_49 rfl rfl (by decide) (by decide) ?_
          refine pn_goto (q := 3) dX6_tapeNumber_52 (by decide) ?_
          exact k
  have last : pnWP mX6_tapeNumber adK d (pnIs (.inl none) (hP (tpN b tp x) (tp + 1 + 1 + 1 + 1) fp N A Q C W Z ask rf)) 0 0 (hP (tpN b tp x) (tp + 1 + 1 + 1 + 1) fp N A Q C W Z ask rf) [some (.ref 0), some (.int x), some (.int (-8))] [] 3 := by
    refine pn_iload_n (q := 4) dX6_tapeNumber_3 rfl rfl ?_
    refine pn_if_lt (q := 7) (tgt := 55) dX6_tapeNumber_4 (by decide) rfl (fun hc4 => ?_) (fun hc4 => ?_)
    · refine pn_vret dX6_tapeNumber_55 rfl ?_
      exact ⟨rfl, rfl⟩
    · exact (hc4 (by decide)).elim
  refine pn_bipush (q := 2) (v := nI 24) dX6_tapeNumber_0 rfl (by decide) ?_
  refine pn_istore_n (q := 3) dX6_tapeNumber_2 rfl (by decide) ?_
  exact step 24 16 tp b (by decide) (by decide) (by omega) (step 16 8 (tp + 1) _ (by decide) (by decide) (by omega) (step 8 0 (tp + 1 + 1) _ (by decide) (by decide) (by omega) (step 0 (-8) (tp + 1 + 1 + 1) _ (by decide) (by decide) (by omega) last)))
def fdN (b : Nat → Int32) (t : Nat) (x1 x2 x3 x4 x5 : Int32) : Nat → Int32 := tpN (tpN (tpN (tpN (tpN b t x1) (t + 4) x2) (t + 8) x3) (t + 12) x4) (t + 16) x5
set_option maxRecDepth 100000 in
theorem p_feed (adK : Nat → Nat) (d : Nat) (b : Nat → Int32) (tp : Nat) (fp : Int32) (N : NS) (A : AS) (Q : QS) (C : CS) (W : WS) (Z : SS) (ask : Nat → Int32) (rf : Nat → Nat) (hq : Q.1 = 8 ∨ Q.1 = 9) (x1 x2 x3 x4 x5 : Int32) (ht : tp + 20 ≤ 300) : pnCt mX6_feed adK (d + 1) 0 0 [.ref 0, .int x1, .int x2, .int x3, .int x4, .int x5] (hP b tp fp N A Q C W Z ask rf) (pnIs (.inl (some (.int (nI (tp + 20))))) (hP (fdN b tp x1 x2 x3 x4 x5) (tp + 20) fp N A Q C W Z ask rf)) := by
  refine pnCt_of (by decide) kX6_feed (Nat.le_of_ble_eq_true rfl) rfl (hP_cl hq) (pnCS_b rfl) ?_
  refine pn_aload_n (q := 1) dX6_feed_0 rfl rfl rfl ?_
  refine pn_get (q := 4) fX6_13 dX6_feed_1 rfl rfl rfl ?_
  refine pn_bipush (q := 6) (v := nI 20) dX6_feed_4 rfl (by decide) ?_
  first | with_reducible refine pn_iaddN (q := 7) dX6_feed_6 rfl ?_ | refine pn_iadd (q := 7) dX6_feed_6 rfl ?_
  refine pn_sipush (q := 10) (v := nI 300) dX6_feed_7 rfl (by decide) ?_
  first | refine pn_nle (q := 13) (tgt := 15) dX6_feed_10 (by decide) rfl (by omega) (by omega) (fun hc10 => ?_) (fun hc10 => ?_) | refine pn_icmp_le (q := 13) (tgt := 15) dX6_feed_10 (by decide) rfl (fun hc10 => ?_) (fun hc10 => ?_)
  · refine pn_aload_n (q := 16) dX6_feed_15 rfl rfl rfl ?_
    refine pn_iload_n (q := 17) dX6_feed_16 rfl rfl ?_
    refine pn_idV (q := 20) (bc9 := 0) (bs9 := 0) (p_tapeNumber adK d b tp fp N A Q C W Z ask rf hq x1 (by omega)) lkX6_78 dX6_feed_17 rfl rfl (hP_cl hq) (hP_cl hq) (Nat.le_of_ble_eq_true rfl) rfl rfl rfl rfl rfl rfl (by omega) (by omega) (by omega) (Nat.le_of_ble_eq_true rfl) ?_
    refine pn_aload_n (q := 21) dX6_feed_20 rfl rfl rfl ?_
    refine pn_iload_n (q := 22) dX6_feed_21 rfl rfl ?_
    refine pn_idV (q := 25) (bc9 := 0) (bs9 := 0) (p_tapeNumber adK d (tpN b tp x1) (tp + 4) fp N A Q C W Z ask rf hq x2 (by omega)) lkX6_78 dX6_feed_22 rfl rfl (hP_cl hq) (hP_cl hq) (Nat.le_of_ble_eq_true rfl) rfl rfl rfl rfl rfl rfl (by omega) (by omega) (by omega) (Nat.le_of_ble_eq_true rfl) ?_
    refine pn_aload_n (q := 26) dX6_feed_25 rfl rfl rfl ?_
    refine pn_iload_n (q := 27) dX6_feed_26 rfl rfl ?_
    refine pn_idV (q := 30) (bc9 := 0) (bs9 := 0) (p_tapeNumber adK d (tpN (tpN b tp x1) (tp + 4) x2) (tp + 8) fp N A Q C W Z ask rf hq x3 (by omega)) lkX6_78 dX6_feed_27 rfl rfl (hP_cl hq) (hP_cl hq) (Nat.le_of_ble_eq_true rfl) rfl rfl rfl rfl rfl rfl (by omega) (by omega) (by omega) (Nat.le_of_ble_eq_true rfl) ?_
    refine pn_aload_n (q := 31) dX6_feed_30 rfl rfl rfl ?_
    refine pn_iload (q := 33) dX6_feed_31 rfl rfl ?_
    refine pn_idV (q := 36) (bc9 := 0) (bs9 := 0) (p_tapeNumber adK d (tpN (tpN (tpN b tp x1) (tp + 4) x2) (tp + 8) x3) (tp + 12) fp N A Q C W Z ask rf hq x4 (by omega)) lkX6_78 dX6_feed_33 rfl rfl (hP_cl hq) (hP_cl hq) (Nat.le_of_ble_eq_true rfl) rfl rfl rfl rfl rfl rfl (by omega) (by omega) (by omega) (Nat.le_of_ble_eq_true rfl) ?_
    refine pn_aload_n (q := 37) dX6_feed_36 rfl rfl rfl ?_
    refine pn_iload (q := 39) dX6_feed_37 rfl rfl ?_
    refine pn_idV (q := 42) (bc9 := 0) (bs9 := 0) (p_tapeNumber adK d (tpN (tpN (tpN (tpN b tp x1) (tp + 4) x2) (tp + 8) x3) (tp + 12) x4) (tp + 16) fp N A Q C W Z ask rf hq x5 (by omega)) lkX6_78 dX6_feed_39 rfl rfl (hP_cl hq) (hP_cl hq) (Nat.le_of_ble_eq_true rfl) rfl rfl rfl rfl rfl rfl (by omega) (by omega) (by omega) (Nat.le_of_ble_eq_true rfl) ?_
    refine pn_aload_n (q := 43) dX6_feed_42 rfl rfl rfl ?_
    refine pn_get (q := 46) fX6_13 dX6_feed_43 rfl rfl rfl ?_
    refine pn_iret dX6_feed_46 rfl ?_
    exact ⟨rfl, rfl⟩
  · omega
set_option maxRecDepth 100000 in
theorem p_feedNo (adK : Nat → Nat) (d : Nat) (b : Nat → Int32) (tp : Nat) (fp : Int32) (N : NS) (A : AS) (Q : QS) (C : CS) (W : WS) (Z : SS) (ask : Nat → Int32) (rf : Nat → Nat) (hq : Q.1 = 8 ∨ Q.1 = 9) (x1 x2 x3 x4 x5 : Int32) (ht : 300 < tp + 20) (ht2 : tp ≤ 300) : pnCt mX6_feed adK (d + 1) 0 0 [.ref 0, .int x1, .int x2, .int x3, .int x4, .int x5] (hP b tp fp N A Q C W Z ask rf) (pnIs (.inl (some (.int (-1)))) (hP b tp fp N A Q C W Z ask rf)) := by
  refine pnCt_of (by decide) kX6_feed (Nat.le_of_ble_eq_true rfl) rfl (hP_cl hq) (pnCS_b rfl) ?_
  refine pn_aload_n (q := 1) dX6_feed_0 rfl rfl rfl ?_
  refine pn_get (q := 4) fX6_13 dX6_feed_1 rfl rfl rfl ?_
  refine pn_bipush (q := 6) (v := nI 20) dX6_feed_4 rfl (by decide) ?_
  first | with_reducible refine pn_iaddN (q := 7) dX6_feed_6 rfl ?_ | refine pn_iadd (q := 7) dX6_feed_6 rfl ?_
  refine pn_sipush (q := 10) (v := nI 300) dX6_feed_7 rfl (by decide) ?_
  first | refine pn_nle (q := 13) (tgt := 15) dX6_feed_10 (by decide) rfl (by omega) (by omega) (fun hc10 => ?_) (fun hc10 => ?_) | refine pn_icmp_le (q := 13) (tgt := 15) dX6_feed_10 (by decide) rfl (fun hc10 => ?_) (fun hc10 => ?_)
  · omega
  · refine pn_iconst (q := 14) (v := (-1)) dX6_feed_13 rfl (by decide) ?_
    refine pn_iret dX6_feed_14 rfl ?_
    exact ⟨rfl, rfl⟩
/-! put -/
def askF (x1 x2 x3 x4 x5 : Int32) (a : Nat → Int32) : Nat → Int32 := upd (upd (upd (upd (upd a 0 x1) 1 x2) 2 x3) 3 x4) 4 x5
def cntA (a : Nat → Int32) : Nat → Nat
  | 0 => 0
  | i + 1 => if a i = -1 then cntA a i else cntA a i + 1
theorem cntA_le (a : Nat → Int32) : ∀ i, cntA a i ≤ i
  | 0 => Nat.le_refl _
  | i + 1 => by have := cntA_le a i; unfold cntA; split <;> omega
set_option maxRecDepth 100000 in
theorem p_nodesAsked (adK : Nat → Nat) (d : Nat) (b : Nat → Int32) (tp : Nat) (fp : Int32) (N : NS) (A : AS) (Q : QS) (C : CS) (W : WS) (Z : SS) (ask : Nat → Int32) (rf : Nat → Nat) (hq : Q.1 = 8 ∨ Q.1 = 9) : pnCt mX6_nodesAsked adK d 0 0 [.ref 0] (hP b tp fp N A Q C W Z ask rf) (pnIs (.inl (some (.int (nI (cntA ask 5))))) (hP b tp fp N A Q C W Z ask rf)) := by
  refine pnCt_of (by decide) kX6_nodesAsked (Nat.le_of_ble_eq_true rfl) rfl (hP_cl hq) (pnCS_b rfl) ?_
  have loop : ∀ (z c : Nat), c + z = 5 → pnWP mX6_nodesAsked adK d (pnIs (.inl (some (.int (nI (cntA ask 5))))) (hP b tp fp N A Q C W Z ask rf)) 0 0 (hP b tp fp N A Q C W Z ask rf) [some (.ref 0), some (.int (nI (cntA ask c))), some (.int (nI c))] [] 4 := by
    intro z
    induction z with
    | zero =>
      intro c hz
      refine pn_iload_n (q := 5) dX6_nodesAsked_4 rfl rfl ?_
      refine pn_aload_n (q := 6) dX6_nodesAsked_5 rfl rfl rfl ?_
      refine pn_get (q := 9) fX6_62 dX6_nodesAsked_6 rfl rfl rfl ?_
      refine pn_alen (q := 10) dX6_nodesAsked_9 rfl rfl (by decide) ?_
      first | refine pn_nge (q := 13) (tgt := 32) dX6_nodesAsked_10 (by decide) rfl (by omega) (by omega) (fun hc10 => ?_) (fun hc10 => ?_) | refine pn_icmp_ge (q := 13) (tgt := 32) dX6_nodesAsked_10 (by decide) rfl (fun hc10 => ?_) (fun hc10 => ?_)
      · refine pn_iload_n (q := 33) dX6_nodesAsked_32 rfl rfl ?_
        refine pn_iret dX6_nodesAsked_33 rfl ?_
        exact ⟨by rw [show c = 5 by omega], rfl⟩
      · omega
    | succ z ih =>
      intro c hz
      have e : cntA ask (c + 1) = if ask c = -1 then cntA ask c else cntA ask c + 1 := rfl
      have k9 := ih (c + 1) (by omega)
      rw [e] at k9
      have := cntA_le ask c
      refine pn_iload_n (q := 5) dX6_nodesAsked_4 rfl rfl ?_
      refine pn_aload_n (q := 6) dX6_nodesAsked_5 rfl rfl rfl ?_
      refine pn_get (q := 9) fX6_62 dX6_nodesAsked_6 rfl rfl rfl ?_
      refine pn_alen (q := 10) dX6_nodesAsked_9 rfl rfl (by decide) ?_
      first | refine pn_nge (q := 13) (tgt := 32) dX6_nodesAsked_10 (by decide) rfl (by omega) (by omega) (fun hc10 => ?_) (fun hc10 => ?_) | refine pn_icmp_ge (q := 13) (tgt := 32) dX6_nodesAsked_10 (by decide) rfl (fun hc10 => ?_) (fun hc10 => ?_)
      · omega
      · refine pn_aload_n (q := 14) dX6_nodesAsked_13 rfl rfl rfl ?_
        refine pn_get (q := 17) fX6_62 dX6_nodesAsked_14 rfl rfl rfl ?_
        refine pn_iload_n (q := 18) dX6_nodesAsked_17 rfl rfl ?_
        refine pn_iald (q := 19) dX6_nodesAsked_18 rfl rfl rfl (by omega) (by first | decide | omega) ?_
        refine pn_iconst (q := 20) (v := (-1)) dX6_nodesAsked_19 rfl (by decide) ?_
        refine pn_icmp_eq (q := 23) (tgt := 26) dX6_nodesAsked_20 (by decide) rfl (fun hc20 => ?_) (fun hc20 => ?_)
        · first | refine pn_iinc1 (q := 29) dX6_nodesAsked_26 rfl rfl (by decide) ?_ | refine pn_iinc (q := 29) (mm := 1) dX6_nodesAsked_26 rfl rfl (by decide) (by decide) ?_
          refine pn_goto (q := 4) dX6_nodesAsked_29 (by decide) ?_
          (first | (rw [if_pos hc20] at k9; exact k9) | (rw [if_neg hc20] at k9; exact k9))
        · first | refine pn_iinc1 (q := 26) dX6_nodesAsked_23 rfl rfl (by decide) ?_ | refine pn_iinc (q := 26) (mm := 1) dX6_nodesAsked_23 rfl rfl (by decide) (by decide) ?_
          first | refine pn_iinc1 (q := 29) dX6_nodesAsked_26 rfl rfl (by decide) ?_ | refine pn_iinc (q := 29) (mm := 1) dX6_nodesAsked_26 rfl rfl (by decide) (by decide) ?_
          refine pn_goto (q := 4) dX6_nodesAsked_29 (by decide) ?_
          (first | (rw [if_pos hc20] at k9; exact k9) | (rw [if_neg hc20] at k9; exact k9))
  refine pn_iconst (q := 1) (v := nI 0) dX6_nodesAsked_0 rfl (by decide) ?_
  refine pn_istore_n (q := 2) dX6_nodesAsked_1 rfl (by decide) ?_
  refine pn_iconst (q := 3) (v := nI 0) dX6_nodesAsked_2 rfl (by decide) ?_
  refine pn_istore_n (q := 4) dX6_nodesAsked_3 rfl (by decide) ?_
  exact loop 5 0 (by omega)
theorem hP_selX {b : Nat → Int32} {tp : Nat} {fp : Int32} {N : NS} {A : AS} {Q : QS} {C : CS} {W : WS} {Z : SS} {ask : Nat → Int32} {rf : Nat → Nat} : pnSel (hP b tp fp N A Q C W Z ask rf) [2, 3, 4, 5, 59] (hNet N.1 N.2.1 N.2.2.1 N.2.2.2.1 N.2.2.2.2.1 N.2.2.2.2.2.1 N.2.2.2.2.2.2.1 N.2.2.2.2.2.2.2.1 N.2.2.2.2.2.2.2.2 ++ [.inl (0, 5, .inl ask)]) := pnSel_of rfl rfl
set_option maxRecDepth 100000 in
theorem p_putXa (adK : Nat → Nat) (d : Nat) (b : Nat → Int32) (tp : Nat) (fp : Int32) (N : NS) (A : AS) (Q : QS) (C : CS) (W : WS) (Z : SS) (ask : Nat → Int32) (rf : Nat → Nat) (hq : Q.1 = 8 ∨ Q.1 = 9) (x1 x2 x3 x4 x5 : Int32) (hS : shOk N.2.2.1 N.2.2.2.1) (hn : N.1 ≤ 11) (hn1 : 1 ≤ N.1) (hpc : N.2.2.2.2.1 ≤ 55) (hl : (lpN N.1 N.2.2.1 N.2.2.2.1 (askF x1 x2 x3 x4 x5 ask) 0 (cntA (askF x1 x2 x3 x4 x5 ask) 5)) = 0) : pnCt mX6_put adK (d + 6) 1 6 [.ref 0, .int x1, .int x2, .int x3, .int x4, .int x5] (hP b tp fp N A Q C W Z ask rf) (pnIs (.inr "java/lang/IllegalArgumentException") (hP b tp fp N A Q C W Z (askF x1 x2 x3 x4 x5 ask) (updN rf 1 (rf 1 + 1)))) := by
  refine pnCt_of (by decide) kX6_put (Nat.le_of_ble_eq_true rfl) rfl (hP_cl hq) (pnCS_b rfl) ?_
  have hc5 := cntA_le (askF x1 x2 x3 x4 x5 ask) 5
  refine pn_aload_n (q := 1) dX6_put_0 rfl rfl rfl ?_
  refine pn_get (q := 4) fX6_62 dX6_put_1 rfl rfl rfl ?_
  refine pn_iconst (q := 5) (v := nI 0) dX6_put_4 rfl (by decide) ?_
  refine pn_iload_n (q := 6) dX6_put_5 rfl rfl ?_
  refine pn_iast (q := 7) dX6_put_6 rfl rfl rfl (by omega) (by first | decide | omega) ?_
  refine pn_aload_n (q := 8) dX6_put_7 rfl rfl rfl ?_
  refine pn_get (q := 11) fX6_62 dX6_put_8 rfl rfl rfl ?_
  refine pn_iconst (q := 12) (v := nI 1) dX6_put_11 rfl (by decide) ?_
  refine pn_iload_n (q := 13) dX6_put_12 rfl rfl ?_
  refine pn_iast (q := 14) dX6_put_13 rfl rfl rfl (by omega) (by first | decide | omega) ?_
  refine pn_aload_n (q := 15) dX6_put_14 rfl rfl rfl ?_
  refine pn_get (q := 18) fX6_62 dX6_put_15 rfl rfl rfl ?_
  refine pn_iconst (q := 19) (v := nI 2) dX6_put_18 rfl (by decide) ?_
  refine pn_iload_n (q := 20) dX6_put_19 rfl rfl ?_
  refine pn_iast (q := 21) dX6_put_20 rfl rfl rfl (by omega) (by first | decide | omega) ?_
  refine pn_aload_n (q := 22) dX6_put_21 rfl rfl rfl ?_
  refine pn_get (q := 25) fX6_62 dX6_put_22 rfl rfl rfl ?_
  refine pn_iconst (q := 26) (v := nI 3) dX6_put_25 rfl (by decide) ?_
  refine pn_iload (q := 28) dX6_put_26 rfl rfl ?_
  refine pn_iast (q := 29) dX6_put_28 rfl rfl rfl (by omega) (by first | decide | omega) ?_
  refine pn_aload_n (q := 30) dX6_put_29 rfl rfl rfl ?_
  refine pn_get (q := 33) fX6_62 dX6_put_30 rfl rfl rfl ?_
  refine pn_iconst (q := 34) (v := nI 4) dX6_put_33 rfl (by decide) ?_
  refine pn_iload (q := 36) dX6_put_34 rfl rfl ?_
  refine pn_iast (q := 37) dX6_put_36 rfl rfl rfl (by omega) (by first | decide | omega) ?_
  refine pn_aload_n (q := 38) dX6_put_37 rfl rfl rfl ?_
  refine pn_get (q := 41) fX6_23 dX6_put_38 rfl rfl rfl ?_
  refine pn_aload_n (q := 42) dX6_put_41 rfl rfl rfl ?_
  refine pn_get (q := 45) fX6_62 dX6_put_42 rfl rfl rfl ?_
  refine pn_iconst (q := 46) (v := nI 0) dX6_put_45 rfl (by decide) ?_
  refine pn_aload_n (q := 47) dX6_put_46 rfl rfl rfl ?_
  refine pn_idV (q := 50) (bc9 := 1) (bs9 := 6) (p_nodesAsked adK d b tp fp N A Q C W Z (askF x1 x2 x3 x4 x5 ask) rf hq) lkX6_114 dX6_put_47 rfl rfl (hP_cl hq) (hP_cl hq) (Nat.le_of_ble_eq_true rfl) rfl rfl rfl rfl rfl rfl (by omega) (by omega) (by omega) (Nat.le_of_ble_eq_true rfl) ?_
  refine pn_upV1 (q := 53) (bc9 := 1) (bs9 := 6) (c_linesOfPartX adK d N.1 N.2.1 N.2.2.1 N.2.2.2.1 N.2.2.2.2.1 N.2.2.2.2.2.1 N.2.2.2.2.2.2.1 N.2.2.2.2.2.2.2.1 N.2.2.2.2.2.2.2.2 5 (askF x1 x2 x3 x4 x5 ask) 0 (cntA (askF x1 x2 x3 x4 x5 ask) 5) hS hn hn1 (by omega) (by omega)) lkX6_118 dX6_put_50 rfl rfl hP_selX (pnFree_none rfl) rfl rfl rfl (by omega) (by omega) (by omega) (Nat.le_of_ble_eq_true rfl) rfl ?_
  refine pn_eq (h' := _) (st' := _) (pnBack_id hP_selX) rfl ?_
  refine pn_lstore (q := 55) dX6_put_53 rfl (by decide) ?_
  refine pn_lload (q := 57) dX6_put_55 rfl rfl ?_
  refine pn_lconst (q := 58) (v := 0) dX6_put_57 rfl (by decide) ?_
  refine pn_lne (q1 := 59) (q := 62) (tgt := 82) dX6_put_58 rfl dX6_put_59 (by decide) rfl (fun hc58 => ?_) (fun hc58 => ?_)
  · exact (hc58 hl).elim
  · refine pn_aload_n (q := 63) dX6_put_62 rfl rfl rfl ?_
    refine pn_get (q := 66) fX6_66 dX6_put_63 rfl rfl rfl ?_
    refine pn_iconst (q := 67) (v := nI 1) dX6_put_66 rfl (by decide) ?_
    first | refine pn_dup2 (q := 68) dX6_put_67 rfl rfl rfl ?_ | refine pn_dup2l (q := 68) dX6_put_67 rfl ?_
    refine pn_iald (q := 69) dX6_put_68 rfl rfl rfl (by omega) (by first | decide | omega) ?_
    refine pn_iconst (q := 70) (v := nI 1) dX6_put_69 rfl (by decide) ?_
    first | with_reducible refine pn_iaddN (q := 71) dX6_put_70 rfl ?_ | refine pn_iadd (q := 71) dX6_put_70 rfl ?_
    refine pn_iast (q := 72) dX6_put_71 rfl rfl rfl (by omega) (by first | decide | omega) ?_; rw [updN_nI]
    refine pn_bud (bc' := 0 + 1) (bs' := 0 + 6) ?_ (by omega) (by omega)
    exact pn_thrS (j := 12) rfl xf_iae xf_RE rfl pw_567 pw_89 (pnOkW_of xw_iae) xg_iae dX6_put_72 dX6_put_75 dX6_put_76 dX6_put_78 dX6_put_81 rfl (by omega) (Nat.le_of_ble_eq_true rfl) (⟨rfl, rfl⟩)
set_option maxRecDepth 100000 in
theorem p_putXb (adK : Nat → Nat) (d : Nat) (b : Nat → Int32) (tp : Nat) (fp : Int32) (N : NS) (A : AS) (Q : QS) (C : CS) (W : WS) (Z : SS) (ask : Nat → Int32) (rf : Nat → Nat) (hq : Q.1 = 8 ∨ Q.1 = 9) (x1 x2 x3 x4 x5 : Int32) (hS : shOk N.2.2.1 N.2.2.2.1) (hn : N.1 ≤ 11) (hn1 : 1 ≤ N.1) (hpc : N.2.2.2.2.1 ≤ 55) (hl : ¬ (lpN N.1 N.2.2.1 N.2.2.2.1 (askF x1 x2 x3 x4 x5 ask) 0 (cntA (askF x1 x2 x3 x4 x5 ask) 5)) = 0) (hl2 : ¬ (lpN N.1 N.2.2.1 N.2.2.2.1 (askF x1 x2 x3 x4 x5 ask) 0 (cntA (askF x1 x2 x3 x4 x5 ask) 5)) &&& ((lfN N.2.2.2.2.2.2.1 N.2.1 N.2.2.2.2.1) ^^^ (-1)) = 0) : pnCt mX6_put adK (d + 6) 1 6 [.ref 0, .int x1, .int x2, .int x3, .int x4, .int x5] (hP b tp fp N A Q C W Z ask rf) (pnIs (.inr "java/lang/IllegalStateException") (hP b tp fp N A Q C W Z (askF x1 x2 x3 x4 x5 ask) (updN rf 2 (rf 2 + 1)))) := by
  refine pnCt_of (by decide) kX6_put (Nat.le_of_ble_eq_true rfl) rfl (hP_cl hq) (pnCS_b rfl) ?_
  have hc5 := cntA_le (askF x1 x2 x3 x4 x5 ask) 5
  refine pn_aload_n (q := 1) dX6_put_0 rfl rfl rfl ?_
  refine pn_get (q := 4) fX6_62 dX6_put_1 rfl rfl rfl ?_
  refine pn_iconst (q := 5) (v := nI 0) dX6_put_4 rfl (by decide) ?_
  refine pn_iload_n (q := 6) dX6_put_5 rfl rfl ?_
  refine pn_iast (q := 7) dX6_put_6 rfl rfl rfl (by omega) (by first | decide | omega) ?_
  refine pn_aload_n (q := 8) dX6_put_7 rfl rfl rfl ?_
  refine pn_get (q := 11) fX6_62 dX6_put_8 rfl rfl rfl ?_
  refine pn_iconst (q := 12) (v := nI 1) dX6_put_11 rfl (by decide) ?_
  refine pn_iload_n (q := 13) dX6_put_12 rfl rfl ?_
  refine pn_iast (q := 14) dX6_put_13 rfl rfl rfl (by omega) (by first | decide | omega) ?_
  refine pn_aload_n (q := 15) dX6_put_14 rfl rfl rfl ?_
  refine pn_get (q := 18) fX6_62 dX6_put_15 rfl rfl rfl ?_
  refine pn_iconst (q := 19) (v := nI 2) dX6_put_18 rfl (by decide) ?_
  refine pn_iload_n (q := 20) dX6_put_19 rfl rfl ?_
  refine pn_iast (q := 21) dX6_put_20 rfl rfl rfl (by omega) (by first | decide | omega) ?_
  refine pn_aload_n (q := 22) dX6_put_21 rfl rfl rfl ?_
  refine pn_get (q := 25) fX6_62 dX6_put_22 rfl rfl rfl ?_
  refine pn_iconst (q := 26) (v := nI 3) dX6_put_25 rfl (by decide) ?_
  refine pn_iload (q := 28) dX6_put_26 rfl rfl ?_
  refine pn_iast (q := 29) dX6_put_28 rfl rfl rfl (by omega) (by first | decide | omega) ?_
  refine pn_aload_n (q := 30) dX6_put_29 rfl rfl rfl ?_
  refine pn_get (q := 33) fX6_62 dX6_put_30 rfl rfl rfl ?_
  refine pn_iconst (q := 34) (v := nI 4) dX6_put_33 rfl (by decide) ?_
  refine pn_iload (q := 36) dX6_put_34 rfl rfl ?_
  refine pn_iast (q := 37) dX6_put_36 rfl rfl rfl (by omega) (by first | decide | omega) ?_
  refine pn_aload_n (q := 38) dX6_put_37 rfl rfl rfl ?_
  refine pn_get (q := 41) fX6_23 dX6_put_38 rfl rfl rfl ?_
  refine pn_aload_n (q := 42) dX6_put_41 rfl rfl rfl ?_
  refine pn_get (q := 45) fX6_62 dX6_put_42 rfl rfl rfl ?_
  refine pn_iconst (q := 46) (v := nI 0) dX6_put_45 rfl (by decide) ?_
  refine pn_aload_n (q := 47) dX6_put_46 rfl rfl rfl ?_
  refine pn_idV (q := 50) (bc9 := 1) (bs9 := 6) (p_nodesAsked adK d b tp fp N A Q C W Z (askF x1 x2 x3 x4 x5 ask) rf hq) lkX6_114 dX6_put_47 rfl rfl (hP_cl hq) (hP_cl hq) (Nat.le_of_ble_eq_true rfl) rfl rfl rfl rfl rfl rfl (by omega) (by omega) (by omega) (Nat.le_of_ble_eq_true rfl) ?_
  refine pn_upV1 (q := 53) (bc9 := 1) (bs9 := 6) (c_linesOfPartX adK d N.1 N.2.1 N.2.2.1 N.2.2.2.1 N.2.2.2.2.1 N.2.2.2.2.2.1 N.2.2.2.2.2.2.1 N.2.2.2.2.2.2.2.1 N.2.2.2.2.2.2.2.2 5 (askF x1 x2 x3 x4 x5 ask) 0 (cntA (askF x1 x2 x3 x4 x5 ask) 5) hS hn hn1 (by omega) (by omega)) lkX6_118 dX6_put_50 rfl rfl hP_selX (pnFree_none rfl) rfl rfl rfl (by omega) (by omega) (by omega) (Nat.le_of_ble_eq_true rfl) rfl ?_
  refine pn_eq (h' := _) (st' := _) (pnBack_id hP_selX) rfl ?_
  refine pn_lstore (q := 55) dX6_put_53 rfl (by decide) ?_
  refine pn_lload (q := 57) dX6_put_55 rfl rfl ?_
  refine pn_lconst (q := 58) (v := 0) dX6_put_57 rfl (by decide) ?_
  refine pn_lne (q1 := 59) (q := 62) (tgt := 82) dX6_put_58 rfl dX6_put_59 (by decide) rfl (fun hc58 => ?_) (fun hc58 => ?_)
  · refine pn_lload (q := 84) dX6_put_82 rfl rfl ?_
    refine pn_aload_n (q := 85) dX6_put_84 rfl rfl rfl ?_
    refine pn_get (q := 88) fX6_23 dX6_put_85 rfl rfl rfl ?_
    refine pn_roV1 (q := 91) (c_leftLines adK d N.1 N.2.1 N.2.2.1 N.2.2.2.1 N.2.2.2.2.1 N.2.2.2.2.2.1 N.2.2.2.2.2.2.1 N.2.2.2.2.2.2.2.1 N.2.2.2.2.2.2.2.2 hpc) lkX6_104 dX6_put_88 rfl rfl (pnSel_of (I := [2, 3, 4, 5]) rfl rfl) (pnFree_none rfl) rfl rfl rfl (by omega) (Nat.le_of_ble_eq_true rfl) rfl ?_
    refine pn_ldc2 (q := 94) pw_808 dX6_put_91 rfl ?_
    refine pn_lxor (q := 95) dX6_put_94 rfl ?_
    refine pn_land (q := 96) dX6_put_95 rfl ?_
    refine pn_lconst (q := 97) (v := 0) dX6_put_96 rfl (by decide) ?_
    refine pn_leq (q1 := 98) (q := 101) (tgt := 121) dX6_put_97 rfl dX6_put_98 (by decide) rfl (fun hc97 => ?_) (fun hc97 => ?_)
    · exact (hl2 hc97).elim
    · refine pn_aload_n (q := 102) dX6_put_101 rfl rfl rfl ?_
      refine pn_get (q := 105) fX6_66 dX6_put_102 rfl rfl rfl ?_
      refine pn_iconst (q := 106) (v := nI 2) dX6_put_105 rfl (by decide) ?_
      first | refine pn_dup2 (q := 107) dX6_put_106 rfl rfl rfl ?_ | refine pn_dup2l (q := 107) dX6_put_106 rfl ?_
      refine pn_iald (q := 108) dX6_put_107 rfl rfl rfl (by omega) (by first | decide | omega) ?_
      refine pn_iconst (q := 109) (v := nI 1) dX6_put_108 rfl (by decide) ?_
      first | with_reducible refine pn_iaddN (q := 110) dX6_put_109 rfl ?_ | refine pn_iadd (q := 110) dX6_put_109 rfl ?_
      refine pn_iast (q := 111) dX6_put_110 rfl rfl rfl (by omega) (by first | decide | omega) ?_; rw [updN_nI]
      refine pn_bud (bc' := 0 + 1) (bs' := 0 + 6) ?_ (by omega) (by omega)
      exact pn_thrS (j := 13) rfl xf_ise xf_RE rfl pw_809 pw_97 (pnOkW_of xw_ise) xg_ise dX6_put_111 dX6_put_114 dX6_put_115 dX6_put_117 dX6_put_120 rfl (by omega) (Nat.le_of_ble_eq_true rfl) (⟨rfl, rfl⟩)
  · exact (hl hc58).elim
set_option maxRecDepth 100000 in
theorem p_put (adK : Nat → Nat) (d : Nat) (b : Nat → Int32) (tp : Nat) (fp : Int32) (N : NS) (A : AS) (Q : QS) (C : CS) (W : WS) (Z : SS) (ask : Nat → Int32) (rf : Nat → Nat) (hq : Q.1 = 8 ∨ Q.1 = 9) (x1 x2 x3 x4 x5 : Int32) (hA : A.1 ≤ 8 ∧ A.2.1 < 8) (hS : shOk N.2.2.1 N.2.2.2.1) (hn : N.1 ≤ 11) (hn1 : 1 ≤ N.1) (hpc : N.2.2.2.2.1 ≤ 55) (hl : ¬ (lpN N.1 N.2.2.1 N.2.2.2.1 (askF x1 x2 x3 x4 x5 ask) 0 (cntA (askF x1 x2 x3 x4 x5 ask) 5)) = 0) (hl2 : (lpN N.1 N.2.2.1 N.2.2.2.1 (askF x1 x2 x3 x4 x5 ask) 0 (cntA (askF x1 x2 x3 x4 x5 ask) 5)) &&& ((lfN N.2.2.2.2.2.2.1 N.2.1 N.2.2.2.2.1) ^^^ (-1)) = 0) (hpc2 : N.2.2.2.2.1 < 55) : pnCt mX6_put adK (d + 6) 0 0 [.ref 0, .int x1, .int x2, .int x3, .int x4, .int x5] (hP b tp fp N A Q C W Z ask rf) (pnIs (.inl (some (.int (nI (N.2.2.2.2.1 + 1))))) (hP b tp fp (N.1, N.2.1, N.2.2.1, N.2.2.2.1, N.2.2.2.2.1 + 1, N.2.2.2.2.2.1, vp_updL N.2.2.2.2.2.2.1 N.2.2.2.2.1 (lpN N.1 N.2.2.1 N.2.2.2.1 (askF x1 x2 x3 x4 x5 ask) 0 (cntA (askF x1 x2 x3 x4 x5 ask) 5)), N.2.2.2.2.2.2.2) (keA A N) Q C W Z (askF x1 x2 x3 x4 x5 ask) rf)) := by
  refine pnCt_of (by decide) kX6_put (Nat.le_of_ble_eq_true rfl) rfl (hP_cl hq) (pnCS_b rfl) ?_
  have hc5 := cntA_le (askF x1 x2 x3 x4 x5 ask) 5
  refine pn_aload_n (q := 1) dX6_put_0 rfl rfl rfl ?_
  refine pn_get (q := 4) fX6_62 dX6_put_1 rfl rfl rfl ?_
  refine pn_iconst (q := 5) (v := nI 0) dX6_put_4 rfl (by decide) ?_
  refine pn_iload_n (q := 6) dX6_put_5 rfl rfl ?_
  refine pn_iast (q := 7) dX6_put_6 rfl rfl rfl (by omega) (by first | decide | omega) ?_
  refine pn_aload_n (q := 8) dX6_put_7 rfl rfl rfl ?_
  refine pn_get (q := 11) fX6_62 dX6_put_8 rfl rfl rfl ?_
  refine pn_iconst (q := 12) (v := nI 1) dX6_put_11 rfl (by decide) ?_
  refine pn_iload_n (q := 13) dX6_put_12 rfl rfl ?_
  refine pn_iast (q := 14) dX6_put_13 rfl rfl rfl (by omega) (by first | decide | omega) ?_
  refine pn_aload_n (q := 15) dX6_put_14 rfl rfl rfl ?_
  refine pn_get (q := 18) fX6_62 dX6_put_15 rfl rfl rfl ?_
  refine pn_iconst (q := 19) (v := nI 2) dX6_put_18 rfl (by decide) ?_
  refine pn_iload_n (q := 20) dX6_put_19 rfl rfl ?_
  refine pn_iast (q := 21) dX6_put_20 rfl rfl rfl (by omega) (by first | decide | omega) ?_
  refine pn_aload_n (q := 22) dX6_put_21 rfl rfl rfl ?_
  refine pn_get (q := 25) fX6_62 dX6_put_22 rfl rfl rfl ?_
  refine pn_iconst (q := 26) (v := nI 3) dX6_put_25 rfl (by decide) ?_
  refine pn_iload (q := 28) dX6_put_26 rfl rfl ?_
  refine pn_iast (q := 29) dX6_put_28 rfl rfl rfl (by omega) (by first | decide | omega) ?_
  refine pn_aload_n (q := 30) dX6_put_29 rfl rfl rfl ?_
  refine pn_get (q := 33) fX6_62 dX6_put_30 rfl rfl rfl ?_
  refine pn_iconst (q := 34) (v := nI 4) dX6_put_33 rfl (by decide) ?_
  refine pn_iload (q := 36) dX6_put_34 rfl rfl ?_
  refine pn_iast (q := 37) dX6_put_36 rfl rfl rfl (by omega) (by first | decide | omega) ?_
  refine pn_aload_n (q := 38) dX6_put_37 rfl rfl rfl ?_
  refine pn_get (q := 41) fX6_23 dX6_put_38 rfl rfl rfl ?_
  refine pn_aload_n (q := 42) dX6_put_41 rfl rfl rfl ?_
  refine pn_get (q := 45) fX6_62 dX6_put_42 rfl rfl rfl ?_
  refine pn_iconst (q := 46) (v := nI 0) dX6_put_45 rfl (by decide) ?_
  refine pn_aload_n (q := 47) dX6_put_46 rfl rfl rfl ?_
  refine pn_idV (q := 50) (bc9 := 0) (bs9 := 0) (p_nodesAsked adK d b tp fp N A Q C W Z (askF x1 x2 x3 x4 x5 ask) rf hq) lkX6_114 dX6_put_47 rfl rfl (hP_cl hq) (hP_cl hq) (Nat.le_of_ble_eq_true rfl) rfl rfl rfl rfl rfl rfl (by omega) (by omega) (by omega) (Nat.le_of_ble_eq_true rfl) ?_
  refine pn_upV1 (q := 53) (bc9 := 0) (bs9 := 0) (c_linesOfPartX adK d N.1 N.2.1 N.2.2.1 N.2.2.2.1 N.2.2.2.2.1 N.2.2.2.2.2.1 N.2.2.2.2.2.2.1 N.2.2.2.2.2.2.2.1 N.2.2.2.2.2.2.2.2 5 (askF x1 x2 x3 x4 x5 ask) 0 (cntA (askF x1 x2 x3 x4 x5 ask) 5) hS hn hn1 (by omega) (by omega)) lkX6_118 dX6_put_50 rfl rfl hP_selX (pnFree_none rfl) rfl rfl rfl (by omega) (by omega) (by omega) (Nat.le_of_ble_eq_true rfl) rfl ?_
  refine pn_eq (h' := _) (st' := _) (pnBack_id hP_selX) rfl ?_
  refine pn_lstore (q := 55) dX6_put_53 rfl (by decide) ?_
  refine pn_lload (q := 57) dX6_put_55 rfl rfl ?_
  refine pn_lconst (q := 58) (v := 0) dX6_put_57 rfl (by decide) ?_
  refine pn_lne (q1 := 59) (q := 62) (tgt := 82) dX6_put_58 rfl dX6_put_59 (by decide) rfl (fun hc58 => ?_) (fun hc58 => ?_)
  · refine pn_lload (q := 84) dX6_put_82 rfl rfl ?_
    refine pn_aload_n (q := 85) dX6_put_84 rfl rfl rfl ?_
    refine pn_get (q := 88) fX6_23 dX6_put_85 rfl rfl rfl ?_
    refine pn_roV1 (q := 91) (c_leftLines adK d N.1 N.2.1 N.2.2.1 N.2.2.2.1 N.2.2.2.2.1 N.2.2.2.2.2.1 N.2.2.2.2.2.2.1 N.2.2.2.2.2.2.2.1 N.2.2.2.2.2.2.2.2 hpc) lkX6_104 dX6_put_88 rfl rfl (pnSel_of (I := [2, 3, 4, 5]) rfl rfl) (pnFree_none rfl) rfl rfl rfl (by omega) (Nat.le_of_ble_eq_true rfl) rfl ?_
    refine pn_ldc2 (q := 94) pw_808 dX6_put_91 rfl ?_
    refine pn_lxor (q := 95) dX6_put_94 rfl ?_
    refine pn_land (q := 96) dX6_put_95 rfl ?_
    refine pn_lconst (q := 97) (v := 0) dX6_put_96 rfl (by decide) ?_
    refine pn_leq (q1 := 98) (q := 101) (tgt := 121) dX6_put_97 rfl dX6_put_98 (by decide) rfl (fun hc97 => ?_) (fun hc97 => ?_)
    · refine pn_aload_n (q := 122) dX6_put_121 rfl rfl rfl ?_
      refine pn_get (q := 125) fX6_30 dX6_put_122 rfl rfl rfl ?_
      refine pn_aload_n (q := 126) dX6_put_125 rfl rfl rfl ?_
      refine pn_get (q := 129) fX6_23 dX6_put_126 rfl rfl rfl ?_
      refine pn_upV0 (q := 132) (bc9 := 0) (bs9 := 0) (c_keep adK d A.1 A.2.1 A.2.2 N hA.1 hA.2) lkX6_94 dX6_put_129 rfl rfl hP_selA (pnFree_none rfl) rfl rfl rfl (by omega) (by omega) (by omega) (Nat.le_of_ble_eq_true rfl) ?_
      refine pn_eq (h' := _) (st' := _) (hP_backA (keA A N).1 (keA A N).2.1 (keA A N).2.2 N) rfl ?_
      refine pn_aload_n (q := 133) dX6_put_132 rfl rfl rfl ?_
      refine pn_get (q := 136) fX6_23 dX6_put_133 rfl rfl rfl ?_
      refine pn_lload (q := 138) dX6_put_136 rfl rfl ?_
      refine pn_upV0 (q := 141) (bc9 := 0) (bs9 := 0) (c_putIn adK d N.1 N.2.1 N.2.2.1 N.2.2.2.1 N.2.2.2.2.1 N.2.2.2.2.2.1 N.2.2.2.2.2.2.1 N.2.2.2.2.2.2.2.1 N.2.2.2.2.2.2.2.2 (lpN N.1 N.2.2.1 N.2.2.2.1 (askF x1 x2 x3 x4 x5 ask) 0 (cntA (askF x1 x2 x3 x4 x5 ask) 5)) hpc2) lkX6_131 dX6_put_138 rfl rfl (pnSel_of (I := [2, 3, 4, 5]) rfl rfl) (pnFree_none rfl) rfl rfl rfl (by omega) (by omega) (by omega) (Nat.le_of_ble_eq_true rfl) ?_
      refine pn_eq (h' := (hP b tp fp (N.1, N.2.1, N.2.2.1, N.2.2.2.1, N.2.2.2.2.1 + 1, N.2.2.2.2.2.1, vp_updL N.2.2.2.2.2.2.1 N.2.2.2.2.1 (lpN N.1 N.2.2.1 N.2.2.2.1 (askF x1 x2 x3 x4 x5 ask) 0 (cntA (askF x1 x2 x3 x4 x5 ask) 5)), N.2.2.2.2.2.2.2) (keA A N) Q C W Z (askF x1 x2 x3 x4 x5 ask) rf)) (st' := _) rfl rfl ?_
      refine pn_aload_n (q := 142) dX6_put_141 rfl rfl rfl ?_
      refine pn_get (q := 145) fX6_23 dX6_put_142 rfl rfl rfl ?_
      refine pn_get (q := 148) fX6_135 dX6_put_145 rfl rfl rfl ?_
      refine pn_iret dX6_put_148 rfl ?_
      exact ⟨rfl, rfl⟩
    · exact (hc97 hl2).elim
  · exact (hl hc58).elim
