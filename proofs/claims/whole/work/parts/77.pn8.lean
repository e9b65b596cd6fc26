/-! exchanges -/
set_option maxRecDepth 100000 in
theorem p_twoXa (adK : Nat → Nat) (d : Nat) (b : Nat → Int32) (tp : Nat) (fp : Int32) (N : NS) (A : AS) (Q : QS) (C : CS) (W : WS) (Z : SS) (ask : Nat → Int32) (rf : Nat → Nat) (hq : Q.1 = 8 ∨ Q.1 = 9) (x y : Int32) (hpc : N.2.2.2.2.1 ≤ 55) (hx : hasN N.2.2.2.2.1 x = false) : pnCt mX6_requireTwoParts adK (d + 7) 1 6 [.ref 0, .int x, .int y] (hP b tp fp N A Q C W Z ask rf) (pnIs (.inr "java/util/NoSuchElementException") (hP b tp fp N A Q C W Z ask (updN rf 0 (rf 0 + 1)))) := by
  refine pnCt_of (by decide) kX6_requireTwoParts (Nat.le_of_ble_eq_true rfl) rfl (hP_cl hq) (pnCS_b rfl) ?_
  refine pn_aload_n (q := 1) dX6_requireTwoParts_0 rfl rfl rfl ?_
  refine pn_iload_n (q := 2) dX6_requireTwoParts_1 rfl rfl ?_
  refine pn_idVX (q := 5) (p_requirePartX adK d b tp fp N A Q C W Z ask rf hq x hpc hx) lkX6_138 dX6_requireTwoParts_2 rfl rfl (hP_cl hq) (hP_cl hq) (Nat.le_of_ble_eq_true rfl) rfl rfl rfl rfl rfl (by omega) (by omega) (by omega) (Nat.le_of_ble_eq_true rfl) rfl (⟨rfl, rfl⟩)
set_option maxRecDepth 100000 in
theorem p_twoXb (adK : Nat → Nat) (d : Nat) (b : Nat → Int32) (tp : Nat) (fp : Int32) (N : NS) (A : AS) (Q : QS) (C : CS) (W : WS) (Z : SS) (ask : Nat → Int32) (rf : Nat → Nat) (hq : Q.1 = 8 ∨ Q.1 = 9) (x y : Int32) (hpc : N.2.2.2.2.1 ≤ 55) (hx : hasN N.2.2.2.2.1 x = true) (hy : hasN N.2.2.2.2.1 y = false) : pnCt mX6_requireTwoParts adK (d + 7) 1 6 [.ref 0, .int x, .int y] (hP b tp fp N A Q C W Z ask rf) (pnIs (.inr "java/util/NoSuchElementException") (hP b tp fp N A Q C W Z ask (updN rf 0 (rf 0 + 1)))) := by
  refine pnCt_of (by decide) kX6_requireTwoParts (Nat.le_of_ble_eq_true rfl) rfl (hP_cl hq) (pnCS_b rfl) ?_
  refine pn_aload_n (q := 1) dX6_requireTwoParts_0 rfl rfl rfl ?_
  refine pn_iload_n (q := 2) dX6_requireTwoParts_1 rfl rfl ?_
  refine pn_idV (q := 5) (bc9 := 1) (bs9 := 6) (p_requirePart adK d b tp fp N A Q C W Z ask rf hq x hpc hx) lkX6_138 dX6_requireTwoParts_2 rfl rfl (hP_cl hq) (hP_cl hq) (Nat.le_of_ble_eq_true rfl) rfl rfl rfl rfl rfl rfl (by omega) (by omega) (by omega) (Nat.le_of_ble_eq_true rfl) ?_
  refine pn_aload_n (q := 6) dX6_requireTwoParts_5 rfl rfl rfl ?_
  refine pn_iload_n (q := 7) dX6_requireTwoParts_6 rfl rfl ?_
  refine pn_idVX (q := 10) (p_requirePartX adK d b tp fp N A Q C W Z ask rf hq y hpc hy) lkX6_138 dX6_requireTwoParts_7 rfl rfl (hP_cl hq) (hP_cl hq) (Nat.le_of_ble_eq_true rfl) rfl rfl rfl rfl rfl (by omega) (by omega) (by omega) (Nat.le_of_ble_eq_true rfl) rfl (⟨rfl, rfl⟩)
set_option maxRecDepth 100000 in
theorem p_twoXc (adK : Nat → Nat) (d : Nat) (b : Nat → Int32) (tp : Nat) (fp : Int32) (N : NS) (A : AS) (Q : QS) (C : CS) (W : WS) (Z : SS) (ask : Nat → Int32) (rf : Nat → Nat) (hq : Q.1 = 8 ∨ Q.1 = 9) (x : Int32) (hpc : N.2.2.2.2.1 ≤ 55) (hx : hasN N.2.2.2.2.1 x = true) : pnCt mX6_requireTwoParts adK (d + 7) 1 6 [.ref 0, .int x, .int x] (hP b tp fp N A Q C W Z ask rf) (pnIs (.inr "java/lang/IllegalArgumentException") (hP b tp fp N A Q C W Z ask (updN rf 1 (rf 1 + 1)))) := by
  refine pnCt_of (by decide) kX6_requireTwoParts (Nat.le_of_ble_eq_true rfl) rfl (hP_cl hq) (pnCS_b rfl) ?_
  refine pn_aload_n (q := 1) dX6_requireTwoParts_0 rfl rfl rfl ?_
  refine pn_iload_n (q := 2) dX6_requireTwoParts_1 rfl rfl ?_
  refine pn_idV (q := 5) (bc9 := 1) (bs9 := 6) (p_requirePart adK d b tp fp N A Q C W Z ask rf hq x hpc hx) lkX6_138 dX6_requireTwoParts_2 rfl rfl (hP_cl hq) (hP_cl hq) (Nat.le_of_ble_eq_true rfl) rfl rfl rfl rfl rfl rfl (by omega) (by omega) (by omega) (Nat.le_of_ble_eq_true rfl) ?_
  refine pn_aload_n (q := 6) dX6_requireTwoParts_5 rfl rfl rfl ?_
  refine pn_iload_n (q := 7) dX6_requireTwoParts_6 rfl rfl ?_
  refine pn_idV (q := 10) (bc9 := 1) (bs9 := 6) (p_requirePart adK d b tp fp N A Q C W Z ask rf hq x hpc hx) lkX6_138 dX6_requireTwoParts_7 rfl rfl (hP_cl hq) (hP_cl hq) (Nat.le_of_ble_eq_true rfl) rfl rfl rfl rfl rfl rfl (by omega) (by omega) (by omega) (Nat.le_of_ble_eq_true rfl) ?_
  refine pn_iload_n (q := 11) dX6_requireTwoParts_10 rfl rfl ?_
  refine pn_iload_n (q := 12) dX6_requireTwoParts_11 rfl rfl ?_
  refine pn_icmp_ne (q := 15) (tgt := 35) dX6_requireTwoParts_12 (by decide) rfl (fun hc12 => ?_) (fun hc12 => ?_)
  · exact (hc12 rfl).elim
  · refine pn_aload_n (q := 16) dX6_requireTwoParts_15 rfl rfl rfl ?_
    refine pn_get (q := 19) fX6_66 dX6_requireTwoParts_16 rfl rfl rfl ?_
    refine pn_iconst (q := 20) (v := nI 1) dX6_requireTwoParts_19 rfl (by decide) ?_
    first | refine pn_dup2 (q := 21) dX6_requireTwoParts_20 rfl rfl rfl ?_ | refine pn_dup2l (q := 21) dX6_requireTwoParts_20 rfl ?_
    refine pn_iald (q := 22) dX6_requireTwoParts_21 rfl rfl rfl (by omega) (by first | decide | omega) ?_
    refine pn_iconst (q := 23) (v := nI 1) dX6_requireTwoParts_22 rfl (by decide) ?_
    first | with_reducible refine pn_iaddN (q := 24) dX6_requireTwoParts_23 rfl ?_ | refine pn_iadd (q := 24) dX6_requireTwoParts_23 rfl ?_
    refine pn_iast (q := 25) dX6_requireTwoParts_24 rfl rfl rfl (by omega) (by first | decide | omega) ?_; rw [updN_nI]
    refine pn_bud (bc' := 0 + 1) (bs' := 0 + 6) ?_ (by omega) (by omega)
    exact pn_thrS (j := 15) rfl xf_iae xf_RE rfl pw_567 pw_89 (pnOkW_of xw_iae) xg_iae dX6_requireTwoParts_25 dX6_requireTwoParts_28 dX6_requireTwoParts_29 dX6_requireTwoParts_31 dX6_requireTwoParts_34 rfl (by omega) (Nat.le_of_ble_eq_true rfl) (⟨rfl, rfl⟩)
set_option maxRecDepth 100000 in
theorem p_two (adK : Nat → Nat) (d : Nat) (b : Nat → Int32) (tp : Nat) (fp : Int32) (N : NS) (A : AS) (Q : QS) (C : CS) (W : WS) (Z : SS) (ask : Nat → Int32) (rf : Nat → Nat) (hq : Q.1 = 8 ∨ Q.1 = 9) (i j : Nat) (hpc : N.2.2.2.2.1 ≤ 55) (hi : i < N.2.2.2.2.1) (hj : j < N.2.2.2.2.1) (hij : i ≠ j) : pnCt mX6_requireTwoParts adK (d + 2) 0 0 [.ref 0, .int (nI i), .int (nI j)] (hP b tp fp N A Q C W Z ask rf) (pnIs (.inl none) (hP b tp fp N A Q C W Z ask rf)) := by
  refine pnCt_of (by decide) kX6_requireTwoParts (Nat.le_of_ble_eq_true rfl) rfl (hP_cl hq) (pnCS_b rfl) ?_
  refine pn_aload_n (q := 1) dX6_requireTwoParts_0 rfl rfl rfl ?_
  refine pn_iload_n (q := 2) dX6_requireTwoParts_1 rfl rfl ?_
  refine pn_idV (q := 5) (bc9 := 0) (bs9 := 0) (p_requirePart adK d b tp fp N A Q C W Z ask rf hq (nI i) hpc (hasN_in hi (by omega))) lkX6_138 dX6_requireTwoParts_2 rfl rfl (hP_cl hq) (hP_cl hq) (Nat.le_of_ble_eq_true rfl) rfl rfl rfl rfl rfl rfl (by omega) (by omega) (by omega) (Nat.le_of_ble_eq_true rfl) ?_
  refine pn_aload_n (q := 6) dX6_requireTwoParts_5 rfl rfl rfl ?_
  refine pn_iload_n (q := 7) dX6_requireTwoParts_6 rfl rfl ?_
  refine pn_idV (q := 10) (bc9 := 0) (bs9 := 0) (p_requirePart adK d b tp fp N A Q C W Z ask rf hq (nI j) hpc (hasN_in hj (by omega))) lkX6_138 dX6_requireTwoParts_7 rfl rfl (hP_cl hq) (hP_cl hq) (Nat.le_of_ble_eq_true rfl) rfl rfl rfl rfl rfl rfl (by omega) (by omega) (by omega) (Nat.le_of_ble_eq_true rfl) ?_
  refine pn_iload_n (q := 11) dX6_requireTwoParts_10 rfl rfl ?_
  refine pn_iload_n (q := 12) dX6_requireTwoParts_11 rfl rfl ?_
  first | refine pn_nne (q := 15) (tgt := 35) dX6_requireTwoParts_12 (by decide) rfl (by omega) (by omega) (fun hc12 => ?_) (fun hc12 => ?_) | refine pn_icmp_ne (q := 15) (tgt := 35) dX6_requireTwoParts_12 (by decide) rfl (fun hc12 => ?_) (fun hc12 => ?_)
  · refine pn_vret dX6_requireTwoParts_35 rfl ?_
    exact ⟨rfl, rfl⟩
  · omega
set_option maxRecDepth 100000 in
theorem p_exchangesXa (adK : Nat → Nat) (d : Nat) (b : Nat → Int32) (tp : Nat) (fp : Int32) (N : NS) (A : AS) (Q : QS) (C : CS) (W : WS) (Z : SS) (ask : Nat → Int32) (rf : Nat → Nat) (hq : Q.1 = 8 ∨ Q.1 = 9) (x y : Int32) (hpc : N.2.2.2.2.1 ≤ 55) (hx : hasN N.2.2.2.2.1 x = false) : pnCt mX6_exchanges adK (d + 8) 1 6 [.ref 0, .int x, .int y] (hP b tp fp N A Q C W Z ask rf) (pnIs (.inr "java/util/NoSuchElementException") (hP b tp fp N A Q C W Z ask (updN rf 0 (rf 0 + 1)))) := by
  refine pnCt_of (by decide) kX6_exchanges (Nat.le_of_ble_eq_true rfl) rfl (hP_cl hq) (pnCS_b rfl) ?_
  refine pn_aload_n (q := 1) dX6_exchanges_0 rfl rfl rfl ?_
  refine pn_iload_n (q := 2) dX6_exchanges_1 rfl rfl ?_
  refine pn_iload_n (q := 3) dX6_exchanges_2 rfl rfl ?_
  refine pn_idVX (q := 6) (p_twoXa adK d b tp fp N A Q C W Z ask rf hq x y hpc hx) lkX6_144 dX6_exchanges_3 rfl rfl (hP_cl hq) (hP_cl hq) (Nat.le_of_ble_eq_true rfl) rfl rfl rfl rfl rfl (by omega) (by omega) (by omega) (Nat.le_of_ble_eq_true rfl) rfl (⟨rfl, rfl⟩)
set_option maxRecDepth 100000 in
theorem p_exchangesXb (adK : Nat → Nat) (d : Nat) (b : Nat → Int32) (tp : Nat) (fp : Int32) (N : NS) (A : AS) (Q : QS) (C : CS) (W : WS) (Z : SS) (ask : Nat → Int32) (rf : Nat → Nat) (hq : Q.1 = 8 ∨ Q.1 = 9) (x y : Int32) (hpc : N.2.2.2.2.1 ≤ 55) (hx : hasN N.2.2.2.2.1 x = true) (hy : hasN N.2.2.2.2.1 y = false) : pnCt mX6_exchanges adK (d + 8) 1 6 [.ref 0, .int x, .int y] (hP b tp fp N A Q C W Z ask rf) (pnIs (.inr "java/util/NoSuchElementException") (hP b tp fp N A Q C W Z ask (updN rf 0 (rf 0 + 1)))) := by
  refine pnCt_of (by decide) kX6_exchanges (Nat.le_of_ble_eq_true rfl) rfl (hP_cl hq) (pnCS_b rfl) ?_
  refine pn_aload_n (q := 1) dX6_exchanges_0 rfl rfl rfl ?_
  refine pn_iload_n (q := 2) dX6_exchanges_1 rfl rfl ?_
  refine pn_iload_n (q := 3) dX6_exchanges_2 rfl rfl ?_
  refine pn_idVX (q := 6) (p_twoXb adK d b tp fp N A Q C W Z ask rf hq x y hpc hx hy) lkX6_144 dX6_exchanges_3 rfl rfl (hP_cl hq) (hP_cl hq) (Nat.le_of_ble_eq_true rfl) rfl rfl rfl rfl rfl (by omega) (by omega) (by omega) (Nat.le_of_ble_eq_true rfl) rfl (⟨rfl, rfl⟩)
set_option maxRecDepth 100000 in
theorem p_exchangesXc (adK : Nat → Nat) (d : Nat) (b : Nat → Int32) (tp : Nat) (fp : Int32) (N : NS) (A : AS) (Q : QS) (C : CS) (W : WS) (Z : SS) (ask : Nat → Int32) (rf : Nat → Nat) (hq : Q.1 = 8 ∨ Q.1 = 9) (x y : Int32) (hpc : N.2.2.2.2.1 ≤ 55) (hx : hasN N.2.2.2.2.1 x = true) (hxy : y = x) : pnCt mX6_exchanges adK (d + 8) 1 6 [.ref 0, .int x, .int y] (hP b tp fp N A Q C W Z ask rf) (pnIs (.inr "java/lang/IllegalArgumentException") (hP b tp fp N A Q C W Z ask (updN rf 1 (rf 1 + 1)))) := by
  subst hxy
  refine pnCt_of (by decide) kX6_exchanges (Nat.le_of_ble_eq_true rfl) rfl (hP_cl hq) (pnCS_b rfl) ?_
  refine pn_aload_n (q := 1) dX6_exchanges_0 rfl rfl rfl ?_
  refine pn_iload_n (q := 2) dX6_exchanges_1 rfl rfl ?_
  refine pn_iload_n (q := 3) dX6_exchanges_2 rfl rfl ?_
  refine pn_idVX (q := 6) (p_twoXc adK d b tp fp N A Q C W Z ask rf hq y hpc hx) lkX6_144 dX6_exchanges_3 rfl rfl (hP_cl hq) (hP_cl hq) (Nat.le_of_ble_eq_true rfl) rfl rfl rfl rfl rfl (by omega) (by omega) (by omega) (Nat.le_of_ble_eq_true rfl) rfl (⟨rfl, rfl⟩)
set_option maxRecDepth 100000 in
theorem p_exchangeXa (adK : Nat → Nat) (d : Nat) (b : Nat → Int32) (tp : Nat) (fp : Int32) (N : NS) (A : AS) (Q : QS) (C : CS) (W : WS) (Z : SS) (ask : Nat → Int32) (rf : Nat → Nat) (hq : Q.1 = 8 ∨ Q.1 = 9) (x y z : Int32) (hpc : N.2.2.2.2.1 ≤ 55) (hx : hasN N.2.2.2.2.1 x = false) : pnCt mX6_exchange adK (d + 8) 1 6 [.ref 0, .int x, .int y, .int z] (hP b tp fp N A Q C W Z ask rf) (pnIs (.inr "java/util/NoSuchElementException") (hP b tp fp N A Q C W Z ask (updN rf 0 (rf 0 + 1)))) := by
  refine pnCt_of (by decide) kX6_exchange (Nat.le_of_ble_eq_true rfl) rfl (hP_cl hq) (pnCS_b rfl) ?_
  refine pn_aload_n (q := 1) dX6_exchange_0 rfl rfl rfl ?_
  refine pn_iload_n (q := 2) dX6_exchange_1 rfl rfl ?_
  refine pn_iload_n (q := 3) dX6_exchange_2 rfl rfl ?_
  refine pn_idVX (q := 6) (p_twoXa adK d b tp fp N A Q C W Z ask rf hq x y hpc hx) lkX6_144 dX6_exchange_3 rfl rfl (hP_cl hq) (hP_cl hq) (Nat.le_of_ble_eq_true rfl) rfl rfl rfl rfl rfl (by omega) (by omega) (by omega) (Nat.le_of_ble_eq_true rfl) rfl (⟨rfl, rfl⟩)
set_option maxRecDepth 100000 in
theorem p_exchangeXb (adK : Nat → Nat) (d : Nat) (b : Nat → Int32) (tp : Nat) (fp : Int32) (N : NS) (A : AS) (Q : QS) (C : CS) (W : WS) (Z : SS) (ask : Nat → Int32) (rf : Nat → Nat) (hq : Q.1 = 8 ∨ Q.1 = 9) (x y z : Int32) (hpc : N.2.2.2.2.1 ≤ 55) (hx : hasN N.2.2.2.2.1 x = true) (hy : hasN N.2.2.2.2.1 y = false) : pnCt mX6_exchange adK (d + 8) 1 6 [.ref 0, .int x, .int y, .int z] (hP b tp fp N A Q C W Z ask rf) (pnIs (.inr "java/util/NoSuchElementException") (hP b tp fp N A Q C W Z ask (updN rf 0 (rf 0 + 1)))) := by
  refine pnCt_of (by decide) kX6_exchange (Nat.le_of_ble_eq_true rfl) rfl (hP_cl hq) (pnCS_b rfl) ?_
  refine pn_aload_n (q := 1) dX6_exchange_0 rfl rfl rfl ?_
  refine pn_iload_n (q := 2) dX6_exchange_1 rfl rfl ?_
  refine pn_iload_n (q := 3) dX6_exchange_2 rfl rfl ?_
  refine pn_idVX (q := 6) (p_twoXb adK d b tp fp N A Q C W Z ask rf hq x y hpc hx hy) lkX6_144 dX6_exchange_3 rfl rfl (hP_cl hq) (hP_cl hq) (Nat.le_of_ble_eq_true rfl) rfl rfl rfl rfl rfl (by omega) (by omega) (by omega) (Nat.le_of_ble_eq_true rfl) rfl (⟨rfl, rfl⟩)
set_option maxRecDepth 100000 in
theorem p_exchangeXc (adK : Nat → Nat) (d : Nat) (b : Nat → Int32) (tp : Nat) (fp : Int32) (N : NS) (A : AS) (Q : QS) (C : CS) (W : WS) (Z : SS) (ask : Nat → Int32) (rf : Nat → Nat) (hq : Q.1 = 8 ∨ Q.1 = 9) (x y z : Int32) (hpc : N.2.2.2.2.1 ≤ 55) (hx : hasN N.2.2.2.2.1 x = true) (hxy : y = x) : pnCt mX6_exchange adK (d + 8) 1 6 [.ref 0, .int x, .int y, .int z] (hP b tp fp N A Q C W Z ask rf) (pnIs (.inr "java/lang/IllegalArgumentException") (hP b tp fp N A Q C W Z ask (updN rf 1 (rf 1 + 1)))) := by
  subst hxy
  refine pnCt_of (by decide) kX6_exchange (Nat.le_of_ble_eq_true rfl) rfl (hP_cl hq) (pnCS_b rfl) ?_
  refine pn_aload_n (q := 1) dX6_exchange_0 rfl rfl rfl ?_
  refine pn_iload_n (q := 2) dX6_exchange_1 rfl rfl ?_
  refine pn_iload_n (q := 3) dX6_exchange_2 rfl rfl ?_
  refine pn_idVX (q := 6) (p_twoXc adK d b tp fp N A Q C W Z ask rf hq y hpc hx) lkX6_144 dX6_exchange_3 rfl rfl (hP_cl hq) (hP_cl hq) (Nat.le_of_ble_eq_true rfl) rfl rfl rfl rfl rfl (by omega) (by omega) (by omega) (Nat.le_of_ble_eq_true rfl) rfl (⟨rfl, rfl⟩)
def cpN (s : S3) (x y : Int64) : Nat := cpC s.1 s.2.1 x y (s.2.1 (llN (x ||| y))) 0 (s.2.1 (llN (x ||| y) + 1) - s.2.1 (llN (x ||| y)))
def cpG (s : S3) (x y : Int64) (q : Int32) : Int64 := cpF s.1 s.2.1 x y q (s.2.1 (llN (x ||| y))) 0 0 (s.2.1 (llN (x ||| y) + 1) - s.2.1 (llN (x ||| y)))
abbrev ctG (C : CS) (N : NS) (s : S3) (fd : Int64) : CS := (lnC N, rC C N, s.1, s.2.1, fd, N.1, N.2.2.1, N.2.2.2.1, N.2.1, plN N.2.2.1 N.2.2.2.1, s.2.2)
theorem cpC_le (f : Nat → Int64) (sN : Nat → Nat) (x y : Int64) : ∀ (m i a : Nat), cpC f sN x y i a m ≤ a + m
  | 0, i, a => Nat.le_refl _
  | m + 1, i, a => by
    have h1 := cpC_le f sN x y m (i + 1) (a + 1)
    have h2 := cpC_le f sN x y m (i + 1) a
    unfold cpC
    split <;> omega
theorem mkN_up (f : Nat → Int64) (c l : Nat) : mkN f c l ≤ mkN f c (l + 1) := by
  have := skA_le f (l + 1) (c - mkN f c l) (mkN f c l)
  show _ ≤ skA f (l + 1) (c - mkN f c l) (mkN f c l)
  omega
theorem csOk_up {C : CS} {N : NS} {s : S3} (hn1 : 1 ≤ N.1) (h : csOk (ctF C N s)) (l : Nat) : s.2.1 l ≤ s.2.1 (l + 1) := by
  rcases h.2.2.2.2 with h9 | h9
  · have : N.1 = 0 := h9.1
    omega
  · have e : s.2.1 = mkN s.1 (lnC N) := h9.2.2.2.2.2.2
    rw [e]
    exact mkN_up _ _ _
theorem csOk_G {C : CS} {N : NS} {s : S3} {fd : Int64} (h : csOk (ctF C N s)) : csOk (ctG C N s fd) := h
theorem cpN_le {C : CS} {N : NS} {s : S3} (h : csOk (ctF C N s)) (x y : Int64) : cpN s x y ≤ 27720 := by
  have h1 := cpC_le s.1 s.2.1 x y (s.2.1 (llN (x ||| y) + 1) - s.2.1 (llN (x ||| y))) (s.2.1 (llN (x ||| y))) 0
  have h2 : s.2.1 (llN (x ||| y) + 1) ≤ lnC N := h.2.2.2.1 _
  have h3 : lnC N ≤ rC C N := h.2.1
  have h4 := rOk_le h.1
  have h4 : rC C N ≤ 27720 := h4
  unfold cpN
  omega
theorem p_couples (adK : Nat → Nat) (d : Nat) (C : CS) (N : NS) (s : S3) (fd : Int64) (hs : csOk (ctF C N s)) (hn1 : 1 ≤ N.1) (x y : Int64) (q : Int32) (h56 : llN (x ||| y) + 1 < 56) : pnCt mX1_couples adK (d + 3) 0 0 [.ref 0, .long x, .long y, .int q] (hC0 (ctG C N s fd)) (pnIs (.inl (some (.int (nI (cpN s x y))))) (hC0 (ctG C N s (cpG s x y q)))) :=
  c_couples adK d (lnC N) (rC C N) s.1 s.2.1 fd N.1 N.2.2.1 N.2.2.2.1 N.2.1 (plN N.2.2.1 N.2.2.2.1) (fun j => nI (s.2.2 j)) x y q h56 (csOk_up hn1 hs _) (fun j => Nat.le_trans (hs.2.2.2.1 j) hs.2.1) (Nat.le_trans (rOk_le hs.1) (by decide))
set_option maxRecDepth 100000 in
theorem p_exchanges (adK : Nat → Nat) (d : Nat) (b : Nat → Int32) (tp : Nat) (fp : Int32) (N : NS) (A : AS) (Q : QS) (C : CS) (W : WS) (Z : SS) (ask : Nat → Int32) (rf : Nat → Nat) (hq : Q.1 = 8 ∨ Q.1 = 9) (hS : shOk N.2.2.1 N.2.2.2.1) (hn : N.1 ≤ 11) (hn1 : 1 ≤ N.1) (hpc : N.2.2.2.2.1 ≤ 55) (hC : csOk C) (hlen : lnC N ≤ 27720) (i j : Nat) (hi : i < N.2.2.2.2.1) (hj : j < N.2.2.2.2.1) (hij : i ≠ j) (h56 : llN ((N.2.2.2.2.2.2.1 i) ||| (N.2.2.2.2.2.2.1 j)) + 1 < 56) : pnCt mX6_exchanges adK (d + 10) (mcC C N) (msC C N) [.ref 0, .int (nI i), .int (nI j)] (hP b tp fp N A Q C W Z ask rf) (pnExP (fun s : S3 => csOk (ctF C N s)) (fun s => some (.int (nI (cpN s (N.2.2.2.2.2.2.1 i) (N.2.2.2.2.2.2.1 j))))) (fun s => (hP b tp fp N A Q (ctG C N s (cpG s (N.2.2.2.2.2.2.1 i) (N.2.2.2.2.2.2.1 j) (-1))) W Z ask rf))) := by
  refine pnCt_of (by decide) kX6_exchanges (Nat.le_of_ble_eq_true rfl) rfl (hP_cl hq) (pnCS_b rfl) ?_
  have CF := p_fit adK d C N hS hn hn1 hC hlen
  refine pn_aload_n (q := 1) dX6_exchanges_0 rfl rfl rfl ?_
  refine pn_iload_n (q := 2) dX6_exchanges_1 rfl rfl ?_
  refine pn_iload_n (q := 3) dX6_exchanges_2 rfl rfl ?_
  refine pn_idV (q := 6) (bc9 := mcC C N) (bs9 := msC C N) (p_two adK d b tp fp N A Q C W Z ask rf hq i j hpc hi hj hij) lkX6_144 dX6_exchanges_3 rfl rfl (hP_cl hq) (hP_cl hq) (Nat.le_of_ble_eq_true rfl) rfl rfl rfl rfl rfl rfl (by omega) (by omega) (by omega) (Nat.le_of_ble_eq_true rfl) ?_
  refine pn_aload_n (q := 7) dX6_exchanges_6 rfl rfl rfl ?_
  refine pn_get (q := 10) fX6_44 dX6_exchanges_7 rfl rfl rfl ?_
  refine pn_aload_n (q := 11) dX6_exchanges_10 rfl rfl rfl ?_
  refine pn_get (q := 14) fX6_23 dX6_exchanges_11 rfl rfl rfl ?_
  refine pn_ePV0 (q := 17) (bc9 := 0) (bs9 := 0) (CF) lkX6_148 dX6_exchanges_14 rfl rfl (pnSel_of (I := [49, 50, 51, 52, 2, 3, 4, 5]) rfl rfl) (hP_free rfl rfl (hP_oF hq) rfl) rfl rfl rfl (by omega) (by omega) (by omega) (Nat.le_of_ble_eq_true rfl) (fun s hs => ?_)
  refine pn_eq (h' := (hP b tp fp N A Q (ctF C N s) W Z ask rf)) (st' := _) rfl rfl ?_
  refine pn_aload_n (q := 18) dX6_exchanges_17 rfl rfl rfl ?_
  refine pn_get (q := 21) fX6_44 dX6_exchanges_18 rfl rfl rfl ?_
  refine pn_aload_n (q := 22) dX6_exchanges_21 rfl rfl rfl ?_
  refine pn_get (q := 25) fX6_23 dX6_exchanges_22 rfl rfl rfl ?_
  refine pn_get (q := 28) fX6_151 dX6_exchanges_25 rfl rfl rfl ?_
  refine pn_iload_n (q := 29) dX6_exchanges_28 rfl rfl ?_
  refine pn_lald1 (q := 30) dX6_exchanges_29 rfl rfl rfl (by omega) (by decide) ?_
  refine pn_aload_n (q := 31) dX6_exchanges_30 rfl rfl rfl ?_
  refine pn_get (q := 34) fX6_23 dX6_exchanges_31 rfl rfl rfl ?_
  refine pn_get (q := 37) fX6_151 dX6_exchanges_34 rfl rfl rfl ?_
  refine pn_iload_n (q := 38) dX6_exchanges_37 rfl rfl ?_
  refine pn_lald1 (q := 39) dX6_exchanges_38 rfl rfl rfl (by omega) (by decide) ?_
  refine pn_iconst (q := 40) (v := (-1)) dX6_exchanges_39 rfl (by decide) ?_
  refine pn_upV1 (q := 43) (bc9 := 0) (bs9 := 0) (p_couples adK d C N s C.2.2.2.2.1 hs hn1 (N.2.2.2.2.2.2.1 i) (N.2.2.2.2.2.2.1 j) (-1) h56) lkX6_155 dX6_exchanges_40 rfl rfl (pnSel_of (I := [49, 50, 51, 52]) rfl rfl) (hP_free rfl rfl (hP_oC hq) rfl) rfl rfl rfl (by omega) (by omega) (by omega) (Nat.le_of_ble_eq_true rfl) rfl ?_
  refine pn_eq (h' := (hP b tp fp N A Q (ctG C N s (cpG s (N.2.2.2.2.2.2.1 i) (N.2.2.2.2.2.2.1 j) (-1))) W Z ask rf)) (st' := _) rfl rfl ?_
  refine pn_iret dX6_exchanges_43 rfl ?_
  exact ⟨s, hs, rfl, rfl⟩
def xcR (s : S3) (x y : Int64) (z : Int32) : pnR := if hasN (cpN s x y) z = true then .inl (some (.int (nI (cpN s x y)))) else .inr "java/util/NoSuchElementException"
def xcP (ps : Nat → Int64) (i j : Nat) (fd : Int64) : Nat → Int64 := vp_updL (vp_updL ps i fd) j ((ps i ||| ps j) &&& (fd ^^^ (-1)))
def xcN (N : NS) (i j : Nat) (fd : Int64) : NS := (N.1, N.2.1, N.2.2.1, N.2.2.2.1, N.2.2.2.2.1, N.2.2.2.2.2.1, xcP N.2.2.2.2.2.2.1 i j fd, N.2.2.2.2.2.2.2)
set_option maxRecDepth 100000 in
theorem p_exchange (adK : Nat → Nat) (d : Nat) (b : Nat → Int32) (tp : Nat) (fp : Int32) (N : NS) (A : AS) (Q : QS) (C : CS) (W : WS) (Z : SS) (ask : Nat → Int32) (rf : Nat → Nat) (hq : Q.1 = 8 ∨ Q.1 = 9) (hA : A.1 ≤ 8 ∧ A.2.1 < 8) (hS : shOk N.2.2.1 N.2.2.2.1) (hn : N.1 ≤ 11) (hn1 : 1 ≤ N.1) (hpc : N.2.2.2.2.1 ≤ 55) (hC : csOk C) (hlen : lnC N ≤ 27720) (i j : Nat) (hi : i < N.2.2.2.2.1) (hj : j < N.2.2.2.2.1) (hij : i ≠ j) (h56 : llN ((N.2.2.2.2.2.2.1 i) ||| (N.2.2.2.2.2.2.1 j)) + 1 < 56) (z : Int32) : pnCt mX6_exchange adK (d + 10) (mcC C N + 1) (msC C N + 6) [.ref 0, .int (nI i), .int (nI j), .int z] (hP b tp fp N A Q C W Z ask rf) (pnExQ (fun s : S3 => csOk (ctF C N s)) (fun s => xcR s (N.2.2.2.2.2.2.1 i) (N.2.2.2.2.2.2.1 j) z) (fun s => if hasN (cpN s (N.2.2.2.2.2.2.1 i) (N.2.2.2.2.2.2.1 j)) z = true then hP b tp fp (xcN N i j (cpG s (N.2.2.2.2.2.2.1 i) (N.2.2.2.2.2.2.1 j) z)) (keA A N) Q (ctG C N s (cpG s (N.2.2.2.2.2.2.1 i) (N.2.2.2.2.2.2.1 j) z)) W Z ask rf else hP b tp fp N A Q (ctG C N s (cpG s (N.2.2.2.2.2.2.1 i) (N.2.2.2.2.2.2.1 j) (-1))) W Z ask (updN rf 0 (rf 0 + 1)))) := by
  refine pnCt_of (by decide) kX6_exchange (Nat.le_of_ble_eq_true rfl) rfl (hP_cl hq) (pnCS_b rfl) ?_
  have CF := p_fit adK d C N hS hn hn1 hC hlen
  have key : ∀ (s : S3), csOk (ctF C N s) → pnWP mX6_exchange adK (d + 10) (pnExQ (fun s : S3 => csOk (ctF C N s)) (fun s => xcR s (N.2.2.2.2.2.2.1 i) (N.2.2.2.2.2.2.1 j) z) (fun s => if hasN (cpN s (N.2.2.2.2.2.2.1 i) (N.2.2.2.2.2.2.1 j)) z = true then hP b tp fp (xcN N i j (cpG s (N.2.2.2.2.2.2.1 i) (N.2.2.2.2.2.2.1 j) z)) (keA A N) Q (ctG C N s (cpG s (N.2.2.2.2.2.2.1 i) (N.2.2.2.2.2.2.1 j) z)) W Z ask rf else hP b tp fp N A Q (ctG C N s (cpG s (N.2.2.2.2.2.2.1 i) (N.2.2.2.2.2.2.1 j) (-1))) W Z ask (updN rf 0 (rf 0 + 1)))) 1 6 (hP b tp fp N A Q (ctG C N s (cpG s (N.2.2.2.2.2.2.1 i) (N.2.2.2.2.2.2.1 j) (-1))) W Z ask rf) [some (.ref 0), some (.int (nI i)), some (.int (nI j)), some (.int z), some (.long (N.2.2.2.2.2.2.1 i)), none, some (.long (N.2.2.2.2.2.2.1 j)), none, some (.int (nI (cpN s (N.2.2.2.2.2.2.1 i) (N.2.2.2.2.2.2.1 j))))] [] 53 := by
    intro s hs
    have hle := cpN_le hs (N.2.2.2.2.2.2.1 i) (N.2.2.2.2.2.2.1 j)
    rcases hasN_cases z (cpN s (N.2.2.2.2.2.2.1 i) (N.2.2.2.2.2.2.1 j)) (by omega) with ⟨h1, h0⟩ | ⟨h1, h2, h0⟩ | ⟨w, hw, rfl, h0⟩
    · refine pn_iload_n (q := 54) dX6_exchange_53 rfl rfl ?_
      refine pn_if_lt (q := 57) (tgt := 63) dX6_exchange_54 (by decide) rfl (fun hc54 => ?_) (fun hc54 => ?_)
      · refine pn_aload_n (q := 64) dX6_exchange_63 rfl rfl rfl ?_
        refine pn_get (q := 67) fX6_66 dX6_exchange_64 rfl rfl rfl ?_
        refine pn_iconst (q := 68) (v := nI 0) dX6_exchange_67 rfl (by decide) ?_
        first | refine pn_dup2 (q := 69) dX6_exchange_68 rfl rfl rfl ?_ | refine pn_dup2l (q := 69) dX6_exchange_68 rfl ?_
        refine pn_iald (q := 70) dX6_exchange_69 rfl rfl rfl (by omega) (by first | decide | omega) ?_
        refine pn_iconst (q := 71) (v := nI 1) dX6_exchange_70 rfl (by decide) ?_
        first | with_reducible refine pn_iaddN (q := 72) dX6_exchange_71 rfl ?_ | refine pn_iadd (q := 72) dX6_exchange_71 rfl ?_
        refine pn_iast (q := 73) dX6_exchange_72 rfl rfl rfl (by omega) (by first | decide | omega) ?_; rw [updN_nI]
        refine pn_bud (bc' := 0 + 1) (bs' := 0 + 6) ?_ (by omega) (by omega)
        exact pn_thrNS (j := 16) rfl xf_nse pw_841 pw_98 (pnOkW_of xw_nse) xg_nse dX6_exchange_73 dX6_exchange_76 dX6_exchange_77 dX6_exchange_79 dX6_exchange_82 rfl (by omega) (Nat.le_of_ble_eq_true rfl) (⟨s, hs, (if_neg (by rw [h0]; exact Bool.false_ne_true)).symm, by dsimp only; rw [if_neg (by rw [h0]; exact Bool.false_ne_true)]; rfl⟩)
      · exact (hc54 h1).elim
    · refine pn_iload_n (q := 54) dX6_exchange_53 rfl rfl ?_
      refine pn_if_lt (q := 57) (tgt := 63) dX6_exchange_54 (by decide) rfl (fun hc54 => ?_) (fun hc54 => ?_)
      · exact (h2 hc54).elim
      · refine pn_iload_n (q := 58) dX6_exchange_57 rfl rfl ?_
        refine pn_iload (q := 60) dX6_exchange_58 rfl rfl ?_
        refine pn_icmp_lt (q := 63) (tgt := 83) dX6_exchange_60 (by decide) rfl (fun hc60 => ?_) (fun hc60 => ?_)
        · exact (nI_gapL (by omega) h1 hc60).elim
        · refine pn_aload_n (q := 64) dX6_exchange_63 rfl rfl rfl ?_
          refine pn_get (q := 67) fX6_66 dX6_exchange_64 rfl rfl rfl ?_
          refine pn_iconst (q := 68) (v := nI 0) dX6_exchange_67 rfl (by decide) ?_
          first | refine pn_dup2 (q := 69) dX6_exchange_68 rfl rfl rfl ?_ | refine pn_dup2l (q := 69) dX6_exchange_68 rfl ?_
          refine pn_iald (q := 70) dX6_exchange_69 rfl rfl rfl (by omega) (by first | decide | omega) ?_
          refine pn_iconst (q := 71) (v := nI 1) dX6_exchange_70 rfl (by decide) ?_
          first | with_reducible refine pn_iaddN (q := 72) dX6_exchange_71 rfl ?_ | refine pn_iadd (q := 72) dX6_exchange_71 rfl ?_
          refine pn_iast (q := 73) dX6_exchange_72 rfl rfl rfl (by omega) (by first | decide | omega) ?_; rw [updN_nI]
          refine pn_bud (bc' := 0 + 1) (bs' := 0 + 6) ?_ (by omega) (by omega)
          exact pn_thrNS (j := 16) rfl xf_nse pw_841 pw_98 (pnOkW_of xw_nse) xg_nse dX6_exchange_73 dX6_exchange_76 dX6_exchange_77 dX6_exchange_79 dX6_exchange_82 rfl (by omega) (Nat.le_of_ble_eq_true rfl) (⟨s, hs, (if_neg (by rw [h0]; exact Bool.false_ne_true)).symm, by dsimp only; rw [if_neg (by rw [h0]; exact Bool.false_ne_true)]; rfl⟩)
    · refine pn_iload_n (q := 54) dX6_exchange_53 rfl rfl ?_
      first | refine pn_zlt (q := 57) (tgt := 63) dX6_exchange_54 (by decide) rfl (by omega) (fun hc54 => ?_) (fun hc54 => ?_) | refine pn_if_lt (q := 57) (tgt := 63) dX6_exchange_54 (by decide) rfl (fun hc54 => ?_) (fun hc54 => ?_)
      · exact hc54.elim
      · refine pn_iload_n (q := 58) dX6_exchange_57 rfl rfl ?_
        refine pn_iload (q := 60) dX6_exchange_58 rfl rfl ?_
        first | refine pn_nlt (q := 63) (tgt := 83) dX6_exchange_60 (by decide) rfl (by omega) (by omega) (fun hc60 => ?_) (fun hc60 => ?_) | refine pn_icmp_lt (q := 63) (tgt := 83) dX6_exchange_60 (by decide) rfl (fun hc60 => ?_) (fun hc60 => ?_)
        · refine pn_aload_n (q := 84) dX6_exchange_83 rfl rfl rfl ?_
          refine pn_get (q := 87) fX6_44 dX6_exchange_84 rfl rfl rfl ?_
          refine pn_lload (q := 89) dX6_exchange_87 rfl rfl ?_
          refine pn_lload (q := 91) dX6_exchange_89 rfl rfl ?_
          refine pn_iload_n (q := 92) dX6_exchange_91 rfl rfl ?_
          refine pn_upV1 (q := 95) (bc9 := 1) (bs9 := 6) (p_couples adK d C N s (cpG s (N.2.2.2.2.2.2.1 i) (N.2.2.2.2.2.2.1 j) (-1)) hs hn1 (N.2.2.2.2.2.2.1 i) (N.2.2.2.2.2.2.1 j) (nI w) h56) lkX6_155 dX6_exchange_92 rfl rfl (pnSel_of (I := [49, 50, 51, 52]) rfl rfl) (hP_free rfl rfl (hP_oC hq) rfl) rfl rfl rfl (by omega) (by omega) (by omega) (Nat.le_of_ble_eq_true rfl) rfl ?_
          refine pn_eq (h' := (hP b tp fp N A Q (ctG C N s (cpG s (N.2.2.2.2.2.2.1 i) (N.2.2.2.2.2.2.1 j) (nI w))) W Z ask rf)) (st' := _) rfl rfl ?_
          refine pn_pop (q := 96) dX6_exchange_95 rfl rfl ?_
          refine pn_aload_n (q := 97) dX6_exchange_96 rfl rfl rfl ?_
          refine pn_get (q := 100) fX6_30 dX6_exchange_97 rfl rfl rfl ?_
          refine pn_aload_n (q := 101) dX6_exchange_100 rfl rfl rfl ?_
          refine pn_get (q := 104) fX6_23 dX6_exchange_101 rfl rfl rfl ?_
          refine pn_upV0 (q := 107) (bc9 := 1) (bs9 := 6) (c_keep adK d A.1 A.2.1 A.2.2 N hA.1 hA.2) lkX6_94 dX6_exchange_104 rfl rfl (hP_selA (C := ctG C N s (cpG s (N.2.2.2.2.2.2.1 i) (N.2.2.2.2.2.2.1 j) (nI w)))) (pnFree_none rfl) rfl rfl rfl (by omega) (by omega) (by omega) (Nat.le_of_ble_eq_true rfl) ?_
          refine pn_eq (h' := _) (st' := _) (hP_backA (C := ctG C N s (cpG s (N.2.2.2.2.2.2.1 i) (N.2.2.2.2.2.2.1 j) (nI w))) (keA A N).1 (keA A N).2.1 (keA A N).2.2 N) rfl ?_
          refine pn_aload_n (q := 108) dX6_exchange_107 rfl rfl rfl ?_
          refine pn_get (q := 111) fX6_23 dX6_exchange_108 rfl rfl rfl ?_
          refine pn_get (q := 114) fX6_151 dX6_exchange_111 rfl rfl rfl ?_
          refine pn_iload_n (q := 115) dX6_exchange_114 rfl rfl ?_
          refine pn_aload_n (q := 116) dX6_exchange_115 rfl rfl rfl ?_
          refine pn_get (q := 119) fX6_44 dX6_exchange_116 rfl rfl rfl ?_
          refine pn_get (q := 122) fX6_164 dX6_exchange_119 rfl rfl rfl ?_
          refine pn_last1 (q := 123) dX6_exchange_122 rfl rfl rfl (by omega) (by decide) ?_
          refine pn_aload_n (q := 124) dX6_exchange_123 rfl rfl rfl ?_
          refine pn_get (q := 127) fX6_23 dX6_exchange_124 rfl rfl rfl ?_
          refine pn_get (q := 130) fX6_151 dX6_exchange_127 rfl rfl rfl ?_
          refine pn_iload_n (q := 131) dX6_exchange_130 rfl rfl ?_
          refine pn_lload (q := 133) dX6_exchange_131 rfl rfl ?_
          refine pn_lload (q := 135) dX6_exchange_133 rfl rfl ?_
          refine pn_lor (q := 136) dX6_exchange_135 rfl ?_
          refine pn_aload_n (q := 137) dX6_exchange_136 rfl rfl rfl ?_
          refine pn_get (q := 140) fX6_44 dX6_exchange_137 rfl rfl rfl ?_
          refine pn_get (q := 143) fX6_164 dX6_exchange_140 rfl rfl rfl ?_
          refine pn_ldc2 (q := 146) pw_808 dX6_exchange_143 rfl ?_
          refine pn_lxor (q := 147) dX6_exchange_146 rfl ?_
          refine pn_land (q := 148) dX6_exchange_147 rfl ?_
          refine pn_last1 (q := 149) dX6_exchange_148 rfl rfl rfl (by omega) (by decide) ?_
          refine pn_iload (q := 151) dX6_exchange_149 rfl rfl ?_
          refine pn_iret dX6_exchange_151 rfl ?_
          exact ⟨s, hs, (if_pos h0).symm, by dsimp only; rw [if_pos h0]; rfl⟩
        · omega
  refine pn_aload_n (q := 1) dX6_exchange_0 rfl rfl rfl ?_
  refine pn_iload_n (q := 2) dX6_exchange_1 rfl rfl ?_
  refine pn_iload_n (q := 3) dX6_exchange_2 rfl rfl ?_
  refine pn_idV (q := 6) (bc9 := mcC C N + 1) (bs9 := msC C N + 6) (p_two adK d b tp fp N A Q C W Z ask rf hq i j hpc hi hj hij) lkX6_144 dX6_exchange_3 rfl rfl (hP_cl hq) (hP_cl hq) (Nat.le_of_ble_eq_true rfl) rfl rfl rfl rfl rfl rfl (by omega) (by omega) (by omega) (Nat.le_of_ble_eq_true rfl) ?_
  refine pn_aload_n (q := 7) dX6_exchange_6 rfl rfl rfl ?_
  refine pn_get (q := 10) fX6_44 dX6_exchange_7 rfl rfl rfl ?_
  refine pn_aload_n (q := 11) dX6_exchange_10 rfl rfl rfl ?_
  refine pn_get (q := 14) fX6_23 dX6_exchange_11 rfl rfl rfl ?_
  refine pn_ePV0 (q := 17) (bc9 := 1) (bs9 := 6) (CF) lkX6_148 dX6_exchange_14 rfl rfl (pnSel_of (I := [49, 50, 51, 52, 2, 3, 4, 5]) rfl rfl) (hP_free rfl rfl (hP_oF hq) rfl) rfl rfl rfl (by omega) (by omega) (by omega) (Nat.le_of_ble_eq_true rfl) (fun s hs => ?_)
  refine pn_eq (h' := (hP b tp fp N A Q (ctF C N s) W Z ask rf)) (st' := _) rfl rfl ?_
  refine pn_aload_n (q := 18) dX6_exchange_17 rfl rfl rfl ?_
  refine pn_get (q := 21) fX6_23 dX6_exchange_18 rfl rfl rfl ?_
  refine pn_get (q := 24) fX6_151 dX6_exchange_21 rfl rfl rfl ?_
  refine pn_iload_n (q := 25) dX6_exchange_24 rfl rfl ?_
  refine pn_lald1 (q := 26) dX6_exchange_25 rfl rfl rfl (by omega) (by decide) ?_
  refine pn_lstore (q := 28) dX6_exchange_26 rfl (by decide) ?_
  refine pn_aload_n (q := 29) dX6_exchange_28 rfl rfl rfl ?_
  refine pn_get (q := 32) fX6_23 dX6_exchange_29 rfl rfl rfl ?_
  refine pn_get (q := 35) fX6_151 dX6_exchange_32 rfl rfl rfl ?_
  refine pn_iload_n (q := 36) dX6_exchange_35 rfl rfl ?_
  refine pn_lald1 (q := 37) dX6_exchange_36 rfl rfl rfl (by omega) (by decide) ?_
  refine pn_lstore (q := 39) dX6_exchange_37 rfl (by decide) ?_
  refine pn_aload_n (q := 40) dX6_exchange_39 rfl rfl rfl ?_
  refine pn_get (q := 43) fX6_44 dX6_exchange_40 rfl rfl rfl ?_
  refine pn_lload (q := 45) dX6_exchange_43 rfl rfl ?_
  refine pn_lload (q := 47) dX6_exchange_45 rfl rfl ?_
  refine pn_iconst (q := 48) (v := (-1)) dX6_exchange_47 rfl (by decide) ?_
  refine pn_upV1 (q := 51) (bc9 := 1) (bs9 := 6) (p_couples adK d C N s C.2.2.2.2.1 hs hn1 (N.2.2.2.2.2.2.1 i) (N.2.2.2.2.2.2.1 j) (-1) h56) lkX6_155 dX6_exchange_48 rfl rfl (pnSel_of (I := [49, 50, 51, 52]) rfl rfl) (hP_free rfl rfl (hP_oC hq) rfl) rfl rfl rfl (by omega) (by omega) (by omega) (Nat.le_of_ble_eq_true rfl) rfl ?_
  refine pn_eq (h' := (hP b tp fp N A Q (ctG C N s (cpG s (N.2.2.2.2.2.2.1 i) (N.2.2.2.2.2.2.1 j) (-1))) W Z ask rf)) (st' := _) rfl rfl ?_
  refine pn_istore (q := 53) dX6_exchange_51 rfl (by decide) ?_
  exact key s hs
/-! finish -/
def apN (ps : Nat → Int64) (pc : Nat) (way : Nat → Int64) : Nat → (Nat → Int64)
  | 0 => ps
  | i + 1 => vp_updL (apN ps pc way i) (pc + i) (way i)
abbrev fiN (N : NS) (way : Nat → Int64) (i : Nat) : NS := (N.1, N.2.1, N.2.2.1, N.2.2.2.1, N.2.2.2.2.1 + i, N.2.2.2.2.2.1, apN N.2.2.2.2.2.2.1 N.2.2.2.2.1 way i, N.2.2.2.2.2.2.2)
set_option maxRecDepth 100000 in
theorem p_finish (adK : Nat → Nat) (d : Nat) (b : Nat → Int32) (tp : Nat) (fp : Int32) (N : NS) (A : AS) (Q : QS) (C : CS) (W : WS) (Z : SS) (ask : Nat → Int32) (rf : Nat → Nat) (hq : Q.1 = 8 ∨ Q.1 = 9) (hA : A.1 ≤ 8 ∧ A.2.1 < 8) (hS : shOk N.2.2.1 N.2.2.2.1) (hn : N.1 ≤ 11) (hn1 : 1 ≤ N.1) (hpc : N.2.2.2.2.1 ≤ 55) (hC : csOk C) (hlen : lnC N ≤ 27720) (hW : wsOk W) (hw : ∀ s : S3, csOk (ctF C N s) → ((goW (ctF C N s) W true (lfN N.2.2.2.2.2.2.1 N.2.1 N.2.2.2.2.1))).1 ≤ 20000 ∧ (((goW (ctF C N s) W true (lfN N.2.2.2.2.2.2.1 N.2.1 N.2.2.2.2.1))).1 ≠ 0 → N.2.2.2.2.1 + ((goW (ctF C N s) W true (lfN N.2.2.2.2.2.2.1 N.2.1 N.2.2.2.2.1))).2.2.2.1 ≤ 55)) : pnCt mX6_finish adK (d + 10) (mcC C N) (msC C N) [.ref 0] (hP b tp fp N A Q C W Z ask rf) (pnExP (fun s : S3 => csOk (ctF C N s)) (fun s => some (.int (if ((goW (ctF C N s) W true (lfN N.2.2.2.2.2.2.1 N.2.1 N.2.2.2.2.1))).1 = 0 then -1 else nI ((goW (ctF C N s) W true (lfN N.2.2.2.2.2.2.1 N.2.1 N.2.2.2.2.1))).2.2.2.1))) (fun s => if ((goW (ctF C N s) W true (lfN N.2.2.2.2.2.2.1 N.2.1 N.2.2.2.2.1))).1 = 0 then (hP b tp fp N A Q (ctF C N s) (goW (ctF C N s) W true (lfN N.2.2.2.2.2.2.1 N.2.1 N.2.2.2.2.1)) Z ask rf) else hP b tp fp (fiN N ((goW (ctF C N s) W true (lfN N.2.2.2.2.2.2.1 N.2.1 N.2.2.2.2.1))).2.2.2.2.1 ((goW (ctF C N s) W true (lfN N.2.2.2.2.2.2.1 N.2.1 N.2.2.2.2.1))).2.2.2.1) (keA A N) Q (ctF C N s) (goW (ctF C N s) W true (lfN N.2.2.2.2.2.2.1 N.2.1 N.2.2.2.2.1)) Z ask rf)) := by
  refine pnCt_of (by decide) kX6_finish (Nat.le_of_ble_eq_true rfl) rfl (hP_cl hq) (pnCS_b rfl) ?_
  have CF := p_fit adK d C N hS hn hn1 hC hlen
  have hb : N.1 ≤ 11 ∧ N.2.2.1 ≤ 3 ∧ N.2.2.2.1 ≤ 5 := by unfold shOk at hS; omega
  have key : ∀ (s : S3), csOk (ctF C N s) → pnWP mX6_finish adK (d + 10) (pnExP (fun s : S3 => csOk (ctF C N s)) (fun s => some (.int (if ((goW (ctF C N s) W true (lfN N.2.2.2.2.2.2.1 N.2.1 N.2.2.2.2.1))).1 = 0 then -1 else nI ((goW (ctF C N s) W true (lfN N.2.2.2.2.2.2.1 N.2.1 N.2.2.2.2.1))).2.2.2.1))) (fun s => if ((goW (ctF C N s) W true (lfN N.2.2.2.2.2.2.1 N.2.1 N.2.2.2.2.1))).1 = 0 then (hP b tp fp N A Q (ctF C N s) (goW (ctF C N s) W true (lfN N.2.2.2.2.2.2.1 N.2.1 N.2.2.2.2.1)) Z ask rf) else hP b tp fp (fiN N ((goW (ctF C N s) W true (lfN N.2.2.2.2.2.2.1 N.2.1 N.2.2.2.2.1))).2.2.2.2.1 ((goW (ctF C N s) W true (lfN N.2.2.2.2.2.2.1 N.2.1 N.2.2.2.2.1))).2.2.2.1) (keA A N) Q (ctF C N s) (goW (ctF C N s) W true (lfN N.2.2.2.2.2.2.1 N.2.1 N.2.2.2.2.1)) Z ask rf)) 0 0 (hP b tp fp N A Q (ctF C N s) (goW (ctF C N s) W true (lfN N.2.2.2.2.2.2.1 N.2.1 N.2.2.2.2.1)) Z ask rf) [some (.ref 0)] [] 30 := by
    intro s hs
    obtain ⟨hw1, hw2⟩ := hw s hs
    by_cases h0 : ((goW (ctF C N s) W true (lfN N.2.2.2.2.2.2.1 N.2.1 N.2.2.2.2.1))).1 = 0
    · refine pn_aload_n (q := 31) dX6_finish_30 rfl rfl rfl ?_
      refine pn_get (q := 34) fX6_51 dX6_finish_31 rfl rfl rfl ?_
      refine pn_get (q := 37) fX6_179 dX6_finish_34 rfl rfl rfl ?_
      first | refine pn_zne (q := 40) (tgt := 42) dX6_finish_37 (by decide) rfl (by omega) (fun hc37 => ?_) (fun hc37 => ?_) | refine pn_if_ne (q := 40) (tgt := 42) dX6_finish_37 (by decide) rfl (fun hc37 => ?_) (fun hc37 => ?_)
      · omega
      · refine pn_iconst (q := 41) (v := (-1)) dX6_finish_40 rfl (by decide) ?_
        refine pn_iret dX6_finish_41 rfl ?_
        exact ⟨s, hs, by dsimp only; rw [if_pos h0], by dsimp only; rw [if_pos h0]⟩
    · have hw3 := hw2 h0
      have loop : ∀ (z i : Nat), i + z = ((goW (ctF C N s) W true (lfN N.2.2.2.2.2.2.1 N.2.1 N.2.2.2.2.1))).2.2.2.1 → pnWP mX6_finish adK (d + 10) (pnExP (fun s : S3 => csOk (ctF C N s)) (fun s => some (.int (if ((goW (ctF C N s) W true (lfN N.2.2.2.2.2.2.1 N.2.1 N.2.2.2.2.1))).1 = 0 then -1 else nI ((goW (ctF C N s) W true (lfN N.2.2.2.2.2.2.1 N.2.1 N.2.2.2.2.1))).2.2.2.1))) (fun s => if ((goW (ctF C N s) W true (lfN N.2.2.2.2.2.2.1 N.2.1 N.2.2.2.2.1))).1 = 0 then (hP b tp fp N A Q (ctF C N s) (goW (ctF C N s) W true (lfN N.2.2.2.2.2.2.1 N.2.1 N.2.2.2.2.1)) Z ask rf) else hP b tp fp (fiN N ((goW (ctF C N s) W true (lfN N.2.2.2.2.2.2.1 N.2.1 N.2.2.2.2.1))).2.2.2.2.1 ((goW (ctF C N s) W true (lfN N.2.2.2.2.2.2.1 N.2.1 N.2.2.2.2.1))).2.2.2.1) (keA A N) Q (ctF C N s) (goW (ctF C N s) W true (lfN N.2.2.2.2.2.2.1 N.2.1 N.2.2.2.2.1)) Z ask rf)) 0 0 (hP b tp fp (fiN N ((goW (ctF C N s) W true (lfN N.2.2.2.2.2.2.1 N.2.1 N.2.2.2.2.1))).2.2.2.2.1 i) (keA A N) Q (ctF C N s) (goW (ctF C N s) W true (lfN N.2.2.2.2.2.2.1 N.2.1 N.2.2.2.2.1)) Z ask rf) [some (.ref 0), some (.int (nI i))] [] 55 := by
        intro z
        induction z with
        | zero =>
          intro i hz
          refine pn_iload_n (q := 56) dX6_finish_55 rfl rfl ?_
          refine pn_aload_n (q := 57) dX6_finish_56 rfl rfl rfl ?_
          refine pn_get (q := 60) fX6_51 dX6_finish_57 rfl rfl rfl ?_
          refine pn_get (q := 63) fX6_182 dX6_finish_60 rfl rfl rfl ?_
          first | refine pn_nge (q := 66) (tgt := 100) dX6_finish_63 (by decide) rfl (by omega) (by omega) (fun hc63 => ?_) (fun hc63 => ?_) | refine pn_icmp_ge (q := 66) (tgt := 100) dX6_finish_63 (by decide) rfl (fun hc63 => ?_) (fun hc63 => ?_)
          · refine pn_aload_n (q := 101) dX6_finish_100 rfl rfl rfl ?_
            refine pn_get (q := 104) fX6_51 dX6_finish_101 rfl rfl rfl ?_
            refine pn_get (q := 107) fX6_182 dX6_finish_104 rfl rfl rfl ?_
            refine pn_iret dX6_finish_107 rfl ?_
            exact ⟨s, hs, by dsimp only; rw [if_neg h0], by dsimp only; rw [if_neg h0, show i = ((goW (ctF C N s) W true (lfN N.2.2.2.2.2.2.1 N.2.1 N.2.2.2.2.1))).2.2.2.1 by omega]⟩
          · omega
        | succ z ih =>
          intro i hz
          refine pn_iload_n (q := 56) dX6_finish_55 rfl rfl ?_
          refine pn_aload_n (q := 57) dX6_finish_56 rfl rfl rfl ?_
          refine pn_get (q := 60) fX6_51 dX6_finish_57 rfl rfl rfl ?_
          refine pn_get (q := 63) fX6_182 dX6_finish_60 rfl rfl rfl ?_
          first | refine pn_nge (q := 66) (tgt := 100) dX6_finish_63 (by decide) rfl (by omega) (by omega) (fun hc63 => ?_) (fun hc63 => ?_) | refine pn_icmp_ge (q := 66) (tgt := 100) dX6_finish_63 (by decide) rfl (fun hc63 => ?_) (fun hc63 => ?_)
          · omega
          · refine pn_iload_n (q := 67) dX6_finish_66 rfl rfl ?_
            refine pn_aload_n (q := 68) dX6_finish_67 rfl rfl rfl ?_
            refine pn_get (q := 71) fX6_51 dX6_finish_68 rfl rfl rfl ?_
            refine pn_get (q := 74) fX6_185 dX6_finish_71 rfl rfl rfl ?_
            refine pn_alen (q := 75) dX6_finish_74 rfl rfl (by decide) ?_
            first | refine pn_nge (q := 78) (tgt := 100) dX6_finish_75 (by decide) rfl (by omega) (by omega) (fun hc75 => ?_) (fun hc75 => ?_) | refine pn_icmp_ge (q := 78) (tgt := 100) dX6_finish_75 (by decide) rfl (fun hc75 => ?_) (fun hc75 => ?_)
            · omega
            · refine pn_aload_n (q := 79) dX6_finish_78 rfl rfl rfl ?_
              refine pn_get (q := 82) fX6_23 dX6_finish_79 rfl rfl rfl ?_
              refine pn_aload_n (q := 83) dX6_finish_82 rfl rfl rfl ?_
              refine pn_get (q := 86) fX6_51 dX6_finish_83 rfl rfl rfl ?_
              refine pn_get (q := 89) fX6_185 dX6_finish_86 rfl rfl rfl ?_
              refine pn_iload_n (q := 90) dX6_finish_89 rfl rfl ?_
              refine pn_lald1 (q := 91) dX6_finish_90 rfl rfl rfl (by omega) (by decide) ?_
              refine pn_upV0 (q := 94) (bc9 := 0) (bs9 := 0) (c_putIn adK d N.1 N.2.1 N.2.2.1 N.2.2.2.1 (N.2.2.2.2.1 + i) N.2.2.2.2.2.1 (apN N.2.2.2.2.2.2.1 N.2.2.2.2.1 ((goW (ctF C N s) W true (lfN N.2.2.2.2.2.2.1 N.2.1 N.2.2.2.2.1))).2.2.2.2.1 i) N.2.2.2.2.2.2.2.1 N.2.2.2.2.2.2.2.2 (((goW (ctF C N s) W true (lfN N.2.2.2.2.2.2.1 N.2.1 N.2.2.2.2.1))).2.2.2.2.1 i) (by omega)) lkX6_131 dX6_finish_91 rfl rfl (pnSel_of (I := [2, 3, 4, 5]) rfl rfl) (pnFree_none rfl) rfl rfl rfl (by omega) (by omega) (by omega) (Nat.le_of_ble_eq_true rfl) ?_
              refine pn_eq (h' := (hP b tp fp (fiN N ((goW (ctF C N s) W true (lfN N.2.2.2.2.2.2.1 N.2.1 N.2.2.2.2.1))).2.2.2.2.1 (i + 1)) (keA A N) Q (ctF C N s) (goW (ctF C N s) W true (lfN N.2.2.2.2.2.2.1 N.2.1 N.2.2.2.2.1)) Z ask rf)) (st' := _) rfl rfl ?_
              first | refine pn_iinc1 (q := 97) dX6_finish_94 rfl rfl (by decide) ?_ | refine pn_iinc (q := 97) (mm := 1) dX6_finish_94 rfl rfl (by decide) (by decide) ?_
              refine pn_goto (q := 55) dX6_finish_97 (by decide) ?_
              exact ih (i + 1) (by omega)
      refine pn_aload_n (q := 31) dX6_finish_30 rfl rfl rfl ?_
      refine pn_get (q := 34) fX6_51 dX6_finish_31 rfl rfl rfl ?_
      refine pn_get (q := 37) fX6_179 dX6_finish_34 rfl rfl rfl ?_
      first | refine pn_zne (q := 40) (tgt := 42) dX6_finish_37 (by decide) rfl (by omega) (fun hc37 => ?_) (fun hc37 => ?_) | refine pn_if_ne (q := 40) (tgt := 42) dX6_finish_37 (by decide) rfl (fun hc37 => ?_) (fun hc37 => ?_)
      · refine pn_aload_n (q := 43) dX6_finish_42 rfl rfl rfl ?_
        refine pn_get (q := 46) fX6_30 dX6_finish_43 rfl rfl rfl ?_
        refine pn_aload_n (q := 47) dX6_finish_46 rfl rfl rfl ?_
        refine pn_get (q := 50) fX6_23 dX6_finish_47 rfl rfl rfl ?_
        refine pn_upV0 (q := 53) (bc9 := 0) (bs9 := 0) (c_keep adK d A.1 A.2.1 A.2.2 N hA.1 hA.2) lkX6_94 dX6_finish_50 rfl rfl (hP_selA (C := ctF C N s) (W := (goW (ctF C N s) W true (lfN N.2.2.2.2.2.2.1 N.2.1 N.2.2.2.2.1)))) (pnFree_none rfl) rfl rfl rfl (by omega) (by omega) (by omega) (Nat.le_of_ble_eq_true rfl) ?_
        refine pn_eq (h' := _) (st' := _) (hP_backA (C := ctF C N s) (W := (goW (ctF C N s) W true (lfN N.2.2.2.2.2.2.1 N.2.1 N.2.2.2.2.1))) (keA A N).1 (keA A N).2.1 (keA A N).2.2 N) rfl ?_
        refine pn_iconst (q := 54) (v := nI 0) dX6_finish_53 rfl (by decide) ?_
        refine pn_istore_n (q := 55) dX6_finish_54 rfl (by decide) ?_
        exact loop ((goW (ctF C N s) W true (lfN N.2.2.2.2.2.2.1 N.2.1 N.2.2.2.2.1))).2.2.2.1 0 (by omega)
      · omega
  refine pn_aload_n (q := 1) dX6_finish_0 rfl rfl rfl ?_
  refine pn_get (q := 4) fX6_44 dX6_finish_1 rfl rfl rfl ?_
  refine pn_aload_n (q := 5) dX6_finish_4 rfl rfl rfl ?_
  refine pn_get (q := 8) fX6_23 dX6_finish_5 rfl rfl rfl ?_
  refine pn_ePV0 (q := 11) (bc9 := 0) (bs9 := 0) (CF) lkX6_148 dX6_finish_8 rfl rfl (pnSel_of (I := [49, 50, 51, 52, 2, 3, 4, 5]) rfl rfl) (hP_free rfl rfl (hP_oF hq) rfl) rfl rfl rfl (by omega) (by omega) (by omega) (Nat.le_of_ble_eq_true rfl) (fun s hs => ?_)
  refine pn_eq (h' := (hP b tp fp N A Q (ctF C N s) W Z ask rf)) (st' := _) rfl rfl ?_
  refine pn_aload_n (q := 12) dX6_finish_11 rfl rfl rfl ?_
  refine pn_get (q := 15) fX6_51 dX6_finish_12 rfl rfl rfl ?_
  refine pn_aload_n (q := 16) dX6_finish_15 rfl rfl rfl ?_
  refine pn_get (q := 19) fX6_44 dX6_finish_16 rfl rfl rfl ?_
  refine pn_aload_n (q := 20) dX6_finish_19 rfl rfl rfl ?_
  refine pn_get (q := 23) fX6_23 dX6_finish_20 rfl rfl rfl ?_
  refine pn_roV1 (q := 26) (c_leftLines adK d N.1 N.2.1 N.2.2.1 N.2.2.2.1 N.2.2.2.2.1 N.2.2.2.2.2.1 N.2.2.2.2.2.2.1 N.2.2.2.2.2.2.2.1 N.2.2.2.2.2.2.2.2 hpc) lkX6_104 dX6_finish_23 rfl rfl (pnSel_of (I := [2, 3, 4, 5]) rfl rfl) (pnFree_none rfl) rfl rfl rfl (by omega) (Nat.le_of_ble_eq_true rfl) rfl ?_
  refine pn_iconst (q := 27) (v := nB true) dX6_finish_26 rfl (by decide) ?_
  refine pn_upV0 (q := 30) (bc9 := 0) (bs9 := 0) (c_go adK d (ctF C N s) W true (lfN N.2.2.2.2.2.2.1 N.2.1 N.2.2.2.2.1) hs hW hb) lkX6_175 dX6_finish_27 rfl rfl (pnSel_of (I := [53, 54, 55, 49, 50, 51, 52]) rfl rfl) (hP_free rfl rfl (hP_oW hq) rfl) rfl rfl rfl (by omega) (by omega) (by omega) (Nat.le_of_ble_eq_true rfl) ?_
  refine pn_eq (h' := (hP b tp fp N A Q (ctF C N s) (goW (ctF C N s) W true (lfN N.2.2.2.2.2.2.1 N.2.1 N.2.2.2.2.1)) Z ask rf)) (st' := _) rfl rfl ?_
  exact key s hs
