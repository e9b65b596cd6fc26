/-! exchanges, refused -/
set_option maxRecDepth 100000 in
theorem m_exchangesXa (adK : Nat → Nat) (d : Nat) (Y : MN) (P : Nat → MN) (a : G0) (b : G1) (c : G3) (e : G4) (f : G5) (g : G6) (h : G7) (x y : Int32)  (hpc : Y.2.2.2.2.1 ≤ 60) (hx : hasN Y.2.2.2.2.1 x = false ∨ hasN Y.2.2.2.2.1 y = false) : pnCt mX7_exchanges adK (d + 22) 0 0 [.ref 0, .int x, .int y] (hM Y P a b c e f g h) (pnIs (.inl (some (.int (nI 0)))) (hM Y P (bdA (0, a.2) 1 0) b c e f g h)) := by
  refine pnCt_of (by decide) kX7_exchanges (Nat.le_of_ble_eq_true rfl) rfl hM_cl (pnCS_b rfl) ?_
  have Cx := m_isThere adK d Y P (0, a.2) b c e f g h x hpc
  have Cy := m_isThere adK d Y P (0, a.2) b c e f g h y hpc
  have k27 : pnWP mX7_exchanges adK (d + 22) (pnIs (.inl (some (.int (nI 0)))) (hM Y P (bdA (0, a.2) 1 0) b c e f g h)) 0 0 (hM Y P (0, a.2) b c e f g h) (pnArgs [.ref 0, .int x, .int y]) [.int (nB true), .ref 0] 27 := by
    refine pn_iconst (q := 28) (v := nI 1) dX7_exchanges_27 rfl (by decide) ?_
    refine pn_iconst (q := 29) (v := nI 0) dX7_exchanges_28 rfl (by decide) ?_
    refine pn_idV (q := 32) (bc9 := 0) (bs9 := 0) (m_badT adK d Y P (0, a.2) b c e f g h 1 0 rfl (by omega) (by omega) (by omega)) lkX7_206 dX7_exchanges_29 rfl rfl (hM_cl) (hM_cl) (Nat.le_of_ble_eq_true rfl) rfl rfl rfl rfl rfl rfl (by omega) (by omega) (by omega) (Nat.le_of_ble_eq_true rfl) ?_
    refine pn_bne (q := 35) (tgt := 54) dX7_exchanges_32 (by decide) rfl (fun hc32 => ?_) (fun hc32 => ?_)
    · refine pn_iconst (q := 55) (v := nI 0) dX7_exchanges_54 rfl (by decide) ?_
      refine pn_iret dX7_exchanges_55 rfl ?_
      exact ⟨rfl, rfl⟩
    · cases hc32
  cases hx1 : hasN Y.2.2.2.2.1 x with
  | false =>
    rw [hx1] at Cx
    refine pn_aload_n (q := 1) dX7_exchanges_0 rfl rfl rfl ?_
    refine pn_iconst (q := 2) (v := nI 0) dX7_exchanges_1 rfl (by decide) ?_
    (refine pn_put (q := 5) fX7_63 dX7_exchanges_2 rfl rfl (Nat.le_of_ble_eq_true rfl) (pnF_int _) ?_)
    refine pn_eq (h' := (hM Y P (0, a.2) b c e f g h)) (st' := _) rfl rfl ?_
    refine pn_aload_n (q := 6) dX7_exchanges_5 rfl rfl rfl ?_
    refine pn_aload_n (q := 7) dX7_exchanges_6 rfl rfl rfl ?_
    refine pn_iload_n (q := 8) dX7_exchanges_7 rfl rfl ?_
    refine pn_idV (q := 11) (bc9 := 0) (bs9 := 0) (Cx) lkX7_275 dX7_exchanges_8 rfl rfl (hM_cl) (hM_cl) (Nat.le_of_ble_eq_true rfl) rfl rfl rfl rfl rfl rfl (by omega) (by omega) (by omega) (Nat.le_of_ble_eq_true rfl) ?_
    refine pn_beq (q := 14) (tgt := 22) dX7_exchanges_11 (by decide) rfl (fun hc11 => ?_) (fun hc11 => ?_)
    · refine pn_iconst (q := 23) (v := nB true) dX7_exchanges_22 rfl (by decide) ?_
      refine pn_goto (q := 27) dX7_exchanges_23 (by decide) ?_
      exact k27
    · cases hc11
  | true =>
    rw [hx1] at Cx
    have hy1 : hasN Y.2.2.2.2.1 y = false := by rcases hx with q | q; rw [hx1] at q; cases q; exact q
    rw [hy1] at Cy
    refine pn_aload_n (q := 1) dX7_exchanges_0 rfl rfl rfl ?_
    refine pn_iconst (q := 2) (v := nI 0) dX7_exchanges_1 rfl (by decide) ?_
    (refine pn_put (q := 5) fX7_63 dX7_exchanges_2 rfl rfl (Nat.le_of_ble_eq_true rfl) (pnF_int _) ?_)
    refine pn_eq (h' := (hM Y P (0, a.2) b c e f g h)) (st' := _) rfl rfl ?_
    refine pn_aload_n (q := 6) dX7_exchanges_5 rfl rfl rfl ?_
    refine pn_aload_n (q := 7) dX7_exchanges_6 rfl rfl rfl ?_
    refine pn_iload_n (q := 8) dX7_exchanges_7 rfl rfl ?_
    refine pn_idV (q := 11) (bc9 := 0) (bs9 := 0) (Cx) lkX7_275 dX7_exchanges_8 rfl rfl (hM_cl) (hM_cl) (Nat.le_of_ble_eq_true rfl) rfl rfl rfl rfl rfl rfl (by omega) (by omega) (by omega) (Nat.le_of_ble_eq_true rfl) ?_
    refine pn_beq (q := 14) (tgt := 22) dX7_exchanges_11 (by decide) rfl (fun hc11 => ?_) (fun hc11 => ?_)
    · cases hc11
    · refine pn_aload_n (q := 15) dX7_exchanges_14 rfl rfl rfl ?_
      refine pn_iload_n (q := 16) dX7_exchanges_15 rfl rfl ?_
      refine pn_idV (q := 19) (bc9 := 0) (bs9 := 0) (Cy) lkX7_275 dX7_exchanges_16 rfl rfl (hM_cl) (hM_cl) (Nat.le_of_ble_eq_true rfl) rfl rfl rfl rfl rfl rfl (by omega) (by omega) (by omega) (Nat.le_of_ble_eq_true rfl) ?_
      refine pn_bne (q := 22) (tgt := 26) dX7_exchanges_19 (by decide) rfl (fun hc19 => ?_) (fun hc19 => ?_)
      · cases hc19
      · refine pn_iconst (q := 23) (v := nB true) dX7_exchanges_22 rfl (by decide) ?_
        refine pn_goto (q := 27) dX7_exchanges_23 (by decide) ?_
        exact k27
set_option maxRecDepth 100000 in
theorem m_exchangesXb (adK : Nat → Nat) (d : Nat) (Y : MN) (P : Nat → MN) (a : G0) (b : G1) (c : G3) (e : G4) (f : G5) (g : G6) (h : G7) (p : Nat)  (hpc : Y.2.2.2.2.1 ≤ 60) (hp : p < Y.2.2.2.2.1) : pnCt mX7_exchanges adK (d + 22) 0 0 [.ref 0, .int (nI p), .int (nI p)] (hM Y P a b c e f g h) (pnIs (.inl (some (.int (nI 0)))) (hM Y P (bdA (0, a.2) 2 1) b c e f g h)) := by
  refine pnCt_of (by decide) kX7_exchanges (Nat.le_of_ble_eq_true rfl) rfl hM_cl (pnCS_b rfl) ?_
  have Cx := m_isThere adK d Y P (0, a.2) b c e f g h (nI p) hpc
  rw [hasN_in hp (by omega)] at Cx
  refine pn_aload_n (q := 1) dX7_exchanges_0 rfl rfl rfl ?_
  refine pn_iconst (q := 2) (v := nI 0) dX7_exchanges_1 rfl (by decide) ?_
  (refine pn_put (q := 5) fX7_63 dX7_exchanges_2 rfl rfl (Nat.le_of_ble_eq_true rfl) (pnF_int _) ?_)
  refine pn_eq (h' := (hM Y P (0, a.2) b c e f g h)) (st' := _) rfl rfl ?_
  refine pn_aload_n (q := 6) dX7_exchanges_5 rfl rfl rfl ?_
  refine pn_aload_n (q := 7) dX7_exchanges_6 rfl rfl rfl ?_
  refine pn_iload_n (q := 8) dX7_exchanges_7 rfl rfl ?_
  refine pn_idV (q := 11) (bc9 := 0) (bs9 := 0) (Cx) lkX7_275 dX7_exchanges_8 rfl rfl (hM_cl) (hM_cl) (Nat.le_of_ble_eq_true rfl) rfl rfl rfl rfl rfl rfl (by omega) (by omega) (by omega) (Nat.le_of_ble_eq_true rfl) ?_
  refine pn_beq (q := 14) (tgt := 22) dX7_exchanges_11 (by decide) rfl (fun hc11 => ?_) (fun hc11 => ?_)
  · cases hc11
  · refine pn_aload_n (q := 15) dX7_exchanges_14 rfl rfl rfl ?_
    refine pn_iload_n (q := 16) dX7_exchanges_15 rfl rfl ?_
    refine pn_idV (q := 19) (bc9 := 0) (bs9 := 0) (Cx) lkX7_275 dX7_exchanges_16 rfl rfl (hM_cl) (hM_cl) (Nat.le_of_ble_eq_true rfl) rfl rfl rfl rfl rfl rfl (by omega) (by omega) (by omega) (Nat.le_of_ble_eq_true rfl) ?_
    refine pn_bne (q := 22) (tgt := 26) dX7_exchanges_19 (by decide) rfl (fun hc19 => ?_) (fun hc19 => ?_)
    · refine pn_iconst (q := 27) (v := nB false) dX7_exchanges_26 rfl (by decide) ?_
      refine pn_iconst (q := 28) (v := nI 1) dX7_exchanges_27 rfl (by decide) ?_
      refine pn_iconst (q := 29) (v := nI 0) dX7_exchanges_28 rfl (by decide) ?_
      refine pn_idV (q := 32) (bc9 := 0) (bs9 := 0) (m_badF adK d Y P (0, a.2) b c e f g h 1 0 rfl) lkX7_206 dX7_exchanges_29 rfl rfl (hM_cl) (hM_cl) (Nat.le_of_ble_eq_true rfl) rfl rfl rfl rfl rfl rfl (by omega) (by omega) (by omega) (Nat.le_of_ble_eq_true rfl) ?_
      refine pn_bne (q := 35) (tgt := 54) dX7_exchanges_32 (by decide) rfl (fun hc32 => ?_) (fun hc32 => ?_)
      · cases hc32
      · refine pn_aload_n (q := 36) dX7_exchanges_35 rfl rfl rfl ?_
        refine pn_iload_n (q := 37) dX7_exchanges_36 rfl rfl ?_
        refine pn_iload_n (q := 38) dX7_exchanges_37 rfl rfl ?_
        first | refine pn_nne (q := 41) (tgt := 45) dX7_exchanges_38 (by decide) rfl (by omega) (by omega) (fun hc38 => ?_) (fun hc38 => ?_) | refine pn_icmp_ne (q := 41) (tgt := 45) dX7_exchanges_38 (by decide) rfl (fun hc38 => ?_) (fun hc38 => ?_)
        · omega
        · refine pn_iconst (q := 42) (v := nB true) dX7_exchanges_41 rfl (by decide) ?_
          refine pn_goto (q := 46) dX7_exchanges_42 (by decide) ?_
          refine pn_iconst (q := 47) (v := nI 2) dX7_exchanges_46 rfl (by decide) ?_
          refine pn_iconst (q := 48) (v := nI 1) dX7_exchanges_47 rfl (by decide) ?_
          refine pn_idV (q := 51) (bc9 := 0) (bs9 := 0) (m_badT adK d Y P (0, a.2) b c e f g h 2 1 rfl (by omega) (by omega) (by omega)) lkX7_206 dX7_exchanges_48 rfl rfl (hM_cl) (hM_cl) (Nat.le_of_ble_eq_true rfl) rfl rfl rfl rfl rfl rfl (by omega) (by omega) (by omega) (Nat.le_of_ble_eq_true rfl) ?_
          refine pn_beq (q := 54) (tgt := 56) dX7_exchanges_51 (by decide) rfl (fun hc51 => ?_) (fun hc51 => ?_)
          · cases hc51
          · refine pn_iconst (q := 55) (v := nI 0) dX7_exchanges_54 rfl (by decide) ?_
            refine pn_iret dX7_exchanges_55 rfl ?_
            exact ⟨rfl, rfl⟩
    · cases hc19
set_option maxRecDepth 100000 in
theorem m_exchangesH {Q : pnR → List pnE → Prop} {bc bs : Nat} (adK : Nat → Nat) (d : Nat) (Y : MN) (P : Nat → MN) (a : G0) (b : G1) (c : G3) (e : G4) (f : G5) (g : G6) (h : G7) (p q : Nat)  (hpc : Y.2.2.2.2.1 ≤ 60) (hp : p < Y.2.2.2.2.1) (hq : q < Y.2.2.2.2.1) (hpq : p ≠ q) (kk : pnWP mX7_exchanges adK (d + 22) Q bc bs (hM Y P (0, a.2) b c e f g h) (pnArgs [.ref 0, .int (nI p), .int (nI q)]) [] 56) : pnWP mX7_exchanges adK (d + 22) Q bc bs (hM Y P a b c e f g h) (pnArgs [.ref 0, .int (nI p), .int (nI q)]) [] 0 := by
  have Cx := m_isThere adK d Y P (0, a.2) b c e f g h (nI p) hpc
  have Cy := m_isThere adK d Y P (0, a.2) b c e f g h (nI q) hpc
  rw [hasN_in hp (by omega)] at Cx
  rw [hasN_in hq (by omega)] at Cy
  refine pn_aload_n (q := 1) dX7_exchanges_0 rfl rfl rfl ?_
  refine pn_iconst (q := 2) (v := nI 0) dX7_exchanges_1 rfl (by decide) ?_
  (refine pn_put (q := 5) fX7_63 dX7_exchanges_2 rfl rfl (Nat.le_of_ble_eq_true rfl) (pnF_int _) ?_)
  refine pn_eq (h' := (hM Y P (0, a.2) b c e f g h)) (st' := _) rfl rfl ?_
  refine pn_aload_n (q := 6) dX7_exchanges_5 rfl rfl rfl ?_
  refine pn_aload_n (q := 7) dX7_exchanges_6 rfl rfl rfl ?_
  refine pn_iload_n (q := 8) dX7_exchanges_7 rfl rfl ?_
  refine pn_idV (q := 11) (bc9 := bc) (bs9 := bs) (Cx) lkX7_275 dX7_exchanges_8 rfl rfl (hM_cl) (hM_cl) (Nat.le_of_ble_eq_true rfl) rfl rfl rfl rfl rfl rfl (by omega) (by omega) (by omega) (Nat.le_of_ble_eq_true rfl) ?_
  refine pn_beq (q := 14) (tgt := 22) dX7_exchanges_11 (by decide) rfl (fun hc11 => ?_) (fun hc11 => ?_)
  · cases hc11
  · refine pn_aload_n (q := 15) dX7_exchanges_14 rfl rfl rfl ?_
    refine pn_iload_n (q := 16) dX7_exchanges_15 rfl rfl ?_
    refine pn_idV (q := 19) (bc9 := bc) (bs9 := bs) (Cy) lkX7_275 dX7_exchanges_16 rfl rfl (hM_cl) (hM_cl) (Nat.le_of_ble_eq_true rfl) rfl rfl rfl rfl rfl rfl (by omega) (by omega) (by omega) (Nat.le_of_ble_eq_true rfl) ?_
    refine pn_bne (q := 22) (tgt := 26) dX7_exchanges_19 (by decide) rfl (fun hc19 => ?_) (fun hc19 => ?_)
    · refine pn_iconst (q := 27) (v := nB false) dX7_exchanges_26 rfl (by decide) ?_
      refine pn_iconst (q := 28) (v := nI 1) dX7_exchanges_27 rfl (by decide) ?_
      refine pn_iconst (q := 29) (v := nI 0) dX7_exchanges_28 rfl (by decide) ?_
      refine pn_idV (q := 32) (bc9 := bc) (bs9 := bs) (m_badF adK d Y P (0, a.2) b c e f g h 1 0 rfl) lkX7_206 dX7_exchanges_29 rfl rfl (hM_cl) (hM_cl) (Nat.le_of_ble_eq_true rfl) rfl rfl rfl rfl rfl rfl (by omega) (by omega) (by omega) (Nat.le_of_ble_eq_true rfl) ?_
      refine pn_bne (q := 35) (tgt := 54) dX7_exchanges_32 (by decide) rfl (fun hc32 => ?_) (fun hc32 => ?_)
      · cases hc32
      · refine pn_aload_n (q := 36) dX7_exchanges_35 rfl rfl rfl ?_
        refine pn_iload_n (q := 37) dX7_exchanges_36 rfl rfl ?_
        refine pn_iload_n (q := 38) dX7_exchanges_37 rfl rfl ?_
        first | refine pn_nne (q := 41) (tgt := 45) dX7_exchanges_38 (by decide) rfl (by omega) (by omega) (fun hc38 => ?_) (fun hc38 => ?_) | refine pn_icmp_ne (q := 41) (tgt := 45) dX7_exchanges_38 (by decide) rfl (fun hc38 => ?_) (fun hc38 => ?_)
        · refine pn_iconst (q := 46) (v := nB false) dX7_exchanges_45 rfl (by decide) ?_
          refine pn_iconst (q := 47) (v := nI 2) dX7_exchanges_46 rfl (by decide) ?_
          refine pn_iconst (q := 48) (v := nI 1) dX7_exchanges_47 rfl (by decide) ?_
          refine pn_idV (q := 51) (bc9 := bc) (bs9 := bs) (m_badF adK d Y P (0, a.2) b c e f g h 2 1 rfl) lkX7_206 dX7_exchanges_48 rfl rfl (hM_cl) (hM_cl) (Nat.le_of_ble_eq_true rfl) rfl rfl rfl rfl rfl rfl (by omega) (by omega) (by omega) (Nat.le_of_ble_eq_true rfl) ?_
          refine pn_beq (q := 54) (tgt := 56) dX7_exchanges_51 (by decide) rfl (fun hc51 => ?_) (fun hc51 => ?_)
          · exact kk
          · cases hc51
        · omega
    · cases hc19
set_option maxRecDepth 100000 in
theorem m_exchangeXa (adK : Nat → Nat) (d : Nat) (Y : MN) (P : Nat → MN) (a : G0) (b : G1) (c : G3) (e : G4) (f : G5) (g : G6) (h : G7) (x y : Int32) (u : Int32) (hpc : Y.2.2.2.2.1 ≤ 60) (hx : hasN Y.2.2.2.2.1 x = false ∨ hasN Y.2.2.2.2.1 y = false) : pnCt mX7_exchange adK (d + 22) 0 0 [.ref 0, .int x, .int y, .int u] (hM Y P a b c e f g h) (pnIs (.inl (some (.int (nI 0)))) (hM Y P (bdA (0, a.2) 1 0) b c e f g h)) := by
  refine pnCt_of (by decide) kX7_exchange (Nat.le_of_ble_eq_true rfl) rfl hM_cl (pnCS_b rfl) ?_
  have Cx := m_isThere adK d Y P (0, a.2) b c e f g h x hpc
  have Cy := m_isThere adK d Y P (0, a.2) b c e f g h y hpc
  have k27 : pnWP mX7_exchange adK (d + 22) (pnIs (.inl (some (.int (nI 0)))) (hM Y P (bdA (0, a.2) 1 0) b c e f g h)) 0 0 (hM Y P (0, a.2) b c e f g h) (pnArgs [.ref 0, .int x, .int y, .int u]) [.int (nB true), .ref 0] 27 := by
    refine pn_iconst (q := 28) (v := nI 1) dX7_exchange_27 rfl (by decide) ?_
    refine pn_iconst (q := 29) (v := nI 0) dX7_exchange_28 rfl (by decide) ?_
    refine pn_idV (q := 32) (bc9 := 0) (bs9 := 0) (m_badT adK d Y P (0, a.2) b c e f g h 1 0 rfl (by omega) (by omega) (by omega)) lkX7_206 dX7_exchange_29 rfl rfl (hM_cl) (hM_cl) (Nat.le_of_ble_eq_true rfl) rfl rfl rfl rfl rfl rfl (by omega) (by omega) (by omega) (Nat.le_of_ble_eq_true rfl) ?_
    refine pn_bne (q := 35) (tgt := 54) dX7_exchange_32 (by decide) rfl (fun hc32 => ?_) (fun hc32 => ?_)
    · refine pn_iconst (q := 55) (v := nI 0) dX7_exchange_54 rfl (by decide) ?_
      refine pn_iret dX7_exchange_55 rfl ?_
      exact ⟨rfl, rfl⟩
    · cases hc32
  cases hx1 : hasN Y.2.2.2.2.1 x with
  | false =>
    rw [hx1] at Cx
    refine pn_aload_n (q := 1) dX7_exchange_0 rfl rfl rfl ?_
    refine pn_iconst (q := 2) (v := nI 0) dX7_exchange_1 rfl (by decide) ?_
    (refine pn_put (q := 5) fX7_63 dX7_exchange_2 rfl rfl (Nat.le_of_ble_eq_true rfl) (pnF_int _) ?_)
    refine pn_eq (h' := (hM Y P (0, a.2) b c e f g h)) (st' := _) rfl rfl ?_
    refine pn_aload_n (q := 6) dX7_exchange_5 rfl rfl rfl ?_
    refine pn_aload_n (q := 7) dX7_exchange_6 rfl rfl rfl ?_
    refine pn_iload_n (q := 8) dX7_exchange_7 rfl rfl ?_
    refine pn_idV (q := 11) (bc9 := 0) (bs9 := 0) (Cx) lkX7_275 dX7_exchange_8 rfl rfl (hM_cl) (hM_cl) (Nat.le_of_ble_eq_true rfl) rfl rfl rfl rfl rfl rfl (by omega) (by omega) (by omega) (Nat.le_of_ble_eq_true rfl) ?_
    refine pn_beq (q := 14) (tgt := 22) dX7_exchange_11 (by decide) rfl (fun hc11 => ?_) (fun hc11 => ?_)
    · refine pn_iconst (q := 23) (v := nB true) dX7_exchange_22 rfl (by decide) ?_
      refine pn_goto (q := 27) dX7_exchange_23 (by decide) ?_
      exact k27
    · cases hc11
  | true =>
    rw [hx1] at Cx
    have hy1 : hasN Y.2.2.2.2.1 y = false := by rcases hx with q | q; rw [hx1] at q; cases q; exact q
    rw [hy1] at Cy
    refine pn_aload_n (q := 1) dX7_exchange_0 rfl rfl rfl ?_
    refine pn_iconst (q := 2) (v := nI 0) dX7_exchange_1 rfl (by decide) ?_
    (refine pn_put (q := 5) fX7_63 dX7_exchange_2 rfl rfl (Nat.le_of_ble_eq_true rfl) (pnF_int _) ?_)
    refine pn_eq (h' := (hM Y P (0, a.2) b c e f g h)) (st' := _) rfl rfl ?_
    refine pn_aload_n (q := 6) dX7_exchange_5 rfl rfl rfl ?_
    refine pn_aload_n (q := 7) dX7_exchange_6 rfl rfl rfl ?_
    refine pn_iload_n (q := 8) dX7_exchange_7 rfl rfl ?_
    refine pn_idV (q := 11) (bc9 := 0) (bs9 := 0) (Cx) lkX7_275 dX7_exchange_8 rfl rfl (hM_cl) (hM_cl) (Nat.le_of_ble_eq_true rfl) rfl rfl rfl rfl rfl rfl (by omega) (by omega) (by omega) (Nat.le_of_ble_eq_true rfl) ?_
    refine pn_beq (q := 14) (tgt := 22) dX7_exchange_11 (by decide) rfl (fun hc11 => ?_) (fun hc11 => ?_)
    · cases hc11
    · refine pn_aload_n (q := 15) dX7_exchange_14 rfl rfl rfl ?_
      refine pn_iload_n (q := 16) dX7_exchange_15 rfl rfl ?_
      refine pn_idV (q := 19) (bc9 := 0) (bs9 := 0) (Cy) lkX7_275 dX7_exchange_16 rfl rfl (hM_cl) (hM_cl) (Nat.le_of_ble_eq_true rfl) rfl rfl rfl rfl rfl rfl (by omega) (by omega) (by omega) (Nat.le_of_ble_eq_true rfl) ?_
      refine pn_bne (q := 22) (tgt := 26) dX7_exchange_19 (by decide) rfl (fun hc19 => ?_) (fun hc19 => ?_)
      · cases hc19
      · refine pn_iconst (q := 23) (v := nB true) dX7_exchange_22 rfl (by decide) ?_
        refine pn_goto (q := 27) dX7_exchange_23 (by decide) ?_
        exact k27
set_option maxRecDepth 100000 in
theorem m_exchangeXb (adK : Nat → Nat) (d : Nat) (Y : MN) (P : Nat → MN) (a : G0) (b : G1) (c : G3) (e : G4) (f : G5) (g : G6) (h : G7) (p : Nat) (u : Int32) (hpc : Y.2.2.2.2.1 ≤ 60) (hp : p < Y.2.2.2.2.1) : pnCt mX7_exchange adK (d + 22) 0 0 [.ref 0, .int (nI p), .int (nI p), .int u] (hM Y P a b c e f g h) (pnIs (.inl (some (.int (nI 0)))) (hM Y P (bdA (0, a.2) 2 1) b c e f g h)) := by
  refine pnCt_of (by decide) kX7_exchange (Nat.le_of_ble_eq_true rfl) rfl hM_cl (pnCS_b rfl) ?_
  have Cx := m_isThere adK d Y P (0, a.2) b c e f g h (nI p) hpc
  rw [hasN_in hp (by omega)] at Cx
  refine pn_aload_n (q := 1) dX7_exchange_0 rfl rfl rfl ?_
  refine pn_iconst (q := 2) (v := nI 0) dX7_exchange_1 rfl (by decide) ?_
  (refine pn_put (q := 5) fX7_63 dX7_exchange_2 rfl rfl (Nat.le_of_ble_eq_true rfl) (pnF_int _) ?_)
  refine pn_eq (h' := (hM Y P (0, a.2) b c e f g h)) (st' := _) rfl rfl ?_
  refine pn_aload_n (q := 6) dX7_exchange_5 rfl rfl rfl ?_
  refine pn_aload_n (q := 7) dX7_exchange_6 rfl rfl rfl ?_
  refine pn_iload_n (q := 8) dX7_exchange_7 rfl rfl ?_
  refine pn_idV (q := 11) (bc9 := 0) (bs9 := 0) (Cx) lkX7_275 dX7_exchange_8 rfl rfl (hM_cl) (hM_cl) (Nat.le_of_ble_eq_true rfl) rfl rfl rfl rfl rfl rfl (by omega) (by omega) (by omega) (Nat.le_of_ble_eq_true rfl) ?_
  refine pn_beq (q := 14) (tgt := 22) dX7_exchange_11 (by decide) rfl (fun hc11 => ?_) (fun hc11 => ?_)
  · cases hc11
  · refine pn_aload_n (q := 15) dX7_exchange_14 rfl rfl rfl ?_
    refine pn_iload_n (q := 16) dX7_exchange_15 rfl rfl ?_
    refine pn_idV (q := 19) (bc9 := 0) (bs9 := 0) (Cx) lkX7_275 dX7_exchange_16 rfl rfl (hM_cl) (hM_cl) (Nat.le_of_ble_eq_true rfl) rfl rfl rfl rfl rfl rfl (by omega) (by omega) (by omega) (Nat.le_of_ble_eq_true rfl) ?_
    refine pn_bne (q := 22) (tgt := 26) dX7_exchange_19 (by decide) rfl (fun hc19 => ?_) (fun hc19 => ?_)
    · refine pn_iconst (q := 27) (v := nB false) dX7_exchange_26 rfl (by decide) ?_
      refine pn_iconst (q := 28) (v := nI 1) dX7_exchange_27 rfl (by decide) ?_
      refine pn_iconst (q := 29) (v := nI 0) dX7_exchange_28 rfl (by decide) ?_
      refine pn_idV (q := 32) (bc9 := 0) (bs9 := 0) (m_badF adK d Y P (0, a.2) b c e f g h 1 0 rfl) lkX7_206 dX7_exchange_29 rfl rfl (hM_cl) (hM_cl) (Nat.le_of_ble_eq_true rfl) rfl rfl rfl rfl rfl rfl (by omega) (by omega) (by omega) (Nat.le_of_ble_eq_true rfl) ?_
      refine pn_bne (q := 35) (tgt := 54) dX7_exchange_32 (by decide) rfl (fun hc32 => ?_) (fun hc32 => ?_)
      · cases hc32
      · refine pn_aload_n (q := 36) dX7_exchange_35 rfl rfl rfl ?_
        refine pn_iload_n (q := 37) dX7_exchange_36 rfl rfl ?_
        refine pn_iload_n (q := 38) dX7_exchange_37 rfl rfl ?_
        first | refine pn_nne (q := 41) (tgt := 45) dX7_exchange_38 (by decide) rfl (by omega) (by omega) (fun hc38 => ?_) (fun hc38 => ?_) | refine pn_icmp_ne (q := 41) (tgt := 45) dX7_exchange_38 (by decide) rfl (fun hc38 => ?_) (fun hc38 => ?_)
        · omega
        · refine pn_iconst (q := 42) (v := nB true) dX7_exchange_41 rfl (by decide) ?_
          refine pn_goto (q := 46) dX7_exchange_42 (by decide) ?_
          refine pn_iconst (q := 47) (v := nI 2) dX7_exchange_46 rfl (by decide) ?_
          refine pn_iconst (q := 48) (v := nI 1) dX7_exchange_47 rfl (by decide) ?_
          refine pn_idV (q := 51) (bc9 := 0) (bs9 := 0) (m_badT adK d Y P (0, a.2) b c e f g h 2 1 rfl (by omega) (by omega) (by omega)) lkX7_206 dX7_exchange_48 rfl rfl (hM_cl) (hM_cl) (Nat.le_of_ble_eq_true rfl) rfl rfl rfl rfl rfl rfl (by omega) (by omega) (by omega) (Nat.le_of_ble_eq_true rfl) ?_
          refine pn_beq (q := 54) (tgt := 56) dX7_exchange_51 (by decide) rfl (fun hc51 => ?_) (fun hc51 => ?_)
          · cases hc51
          · refine pn_iconst (q := 55) (v := nI 0) dX7_exchange_54 rfl (by decide) ?_
            refine pn_iret dX7_exchange_55 rfl ?_
            exact ⟨rfl, rfl⟩
    · cases hc19
set_option maxRecDepth 100000 in
theorem m_exchangeH {Q : pnR → List pnE → Prop} {bc bs : Nat} (adK : Nat → Nat) (d : Nat) (Y : MN) (P : Nat → MN) (a : G0) (b : G1) (c : G3) (e : G4) (f : G5) (g : G6) (h : G7) (p q : Nat) (u : Int32) (hpc : Y.2.2.2.2.1 ≤ 60) (hp : p < Y.2.2.2.2.1) (hq : q < Y.2.2.2.2.1) (hpq : p ≠ q) (kk : pnWP mX7_exchange adK (d + 22) Q bc bs (hM Y P (0, a.2) b c e f g h) (pnArgs [.ref 0, .int (nI p), .int (nI q), .int u]) [] 56) : pnWP mX7_exchange adK (d + 22) Q bc bs (hM Y P a b c e f g h) (pnArgs [.ref 0, .int (nI p), .int (nI q), .int u]) [] 0 := by
  have Cx := m_isThere adK d Y P (0, a.2) b c e f g h (nI p) hpc
  have Cy := m_isThere adK d Y P (0, a.2) b c e f g h (nI q) hpc
  rw [hasN_in hp (by omega)] at Cx
  rw [hasN_in hq (by omega)] at Cy
  refine pn_aload_n (q := 1) dX7_exchange_0 rfl rfl rfl ?_
  refine pn_iconst (q := 2) (v := nI 0) dX7_exchange_1 rfl (by decide) ?_
  (refine pn_put (q := 5) fX7_63 dX7_exchange_2 rfl rfl (Nat.le_of_ble_eq_true rfl) (pnF_int _) ?_)
  refine pn_eq (h' := (hM Y P (0, a.2) b c e f g h)) (st' := _) rfl rfl ?_
  refine pn_aload_n (q := 6) dX7_exchange_5 rfl rfl rfl ?_
  refine pn_aload_n (q := 7) dX7_exchange_6 rfl rfl rfl ?_
  refine pn_iload_n (q := 8) dX7_exchange_7 rfl rfl ?_
  refine pn_idV (q := 11) (bc9 := bc) (bs9 := bs) (Cx) lkX7_275 dX7_exchange_8 rfl rfl (hM_cl) (hM_cl) (Nat.le_of_ble_eq_true rfl) rfl rfl rfl rfl rfl rfl (by omega) (by omega) (by omega) (Nat.le_of_ble_eq_true rfl) ?_
  refine pn_beq (q := 14) (tgt := 22) dX7_exchange_11 (by decide) rfl (fun hc11 => ?_) (fun hc11 => ?_)
  · cases hc11
  · refine pn_aload_n (q := 15) dX7_exchange_14 rfl rfl rfl ?_
    refine pn_iload_n (q := 16) dX7_exchange_15 rfl rfl ?_
    refine pn_idV (q := 19) (bc9 := bc) (bs9 := bs) (Cy) lkX7_275 dX7_exchange_16 rfl rfl (hM_cl) (hM_cl) (Nat.le_of_ble_eq_true rfl) rfl rfl rfl rfl rfl rfl (by omega) (by omega) (by omega) (Nat.le_of_ble_eq_true rfl) ?_
    refine pn_bne (q := 22) (tgt := 26) dX7_exchange_19 (by decide) rfl (fun hc19 => ?_) (fun hc19 => ?_)
    · refine pn_iconst (q := 27) (v := nB false) dX7_exchange_26 rfl (by decide) ?_
      refine pn_iconst (q := 28) (v := nI 1) dX7_exchange_27 rfl (by decide) ?_
      refine pn_iconst (q := 29) (v := nI 0) dX7_exchange_28 rfl (by decide) ?_
      refine pn_idV (q := 32) (bc9 := bc) (bs9 := bs) (m_badF adK d Y P (0, a.2) b c e f g h 1 0 rfl) lkX7_206 dX7_exchange_29 rfl rfl (hM_cl) (hM_cl) (Nat.le_of_ble_eq_true rfl) rfl rfl rfl rfl rfl rfl (by omega) (by omega) (by omega) (Nat.le_of_ble_eq_true rfl) ?_
      refine pn_bne (q := 35) (tgt := 54) dX7_exchange_32 (by decide) rfl (fun hc32 => ?_) (fun hc32 => ?_)
      · cases hc32
      · refine pn_aload_n (q := 36) dX7_exchange_35 rfl rfl rfl ?_
        refine pn_iload_n (q := 37) dX7_exchange_36 rfl rfl ?_
        refine pn_iload_n (q := 38) dX7_exchange_37 rfl rfl ?_
        first | refine pn_nne (q := 41) (tgt := 45) dX7_exchange_38 (by decide) rfl (by omega) (by omega) (fun hc38 => ?_) (fun hc38 => ?_) | refine pn_icmp_ne (q := 41) (tgt := 45) dX7_exchange_38 (by decide) rfl (fun hc38 => ?_) (fun hc38 => ?_)
        · refine pn_iconst (q := 46) (v := nB false) dX7_exchange_45 rfl (by decide) ?_
          refine pn_iconst (q := 47) (v := nI 2) dX7_exchange_46 rfl (by decide) ?_
          refine pn_iconst (q := 48) (v := nI 1) dX7_exchange_47 rfl (by decide) ?_
          refine pn_idV (q := 51) (bc9 := bc) (bs9 := bs) (m_badF adK d Y P (0, a.2) b c e f g h 2 1 rfl) lkX7_206 dX7_exchange_48 rfl rfl (hM_cl) (hM_cl) (Nat.le_of_ble_eq_true rfl) rfl rfl rfl rfl rfl rfl (by omega) (by omega) (by omega) (Nat.le_of_ble_eq_true rfl) ?_
          refine pn_beq (q := 54) (tgt := 56) dX7_exchange_51 (by decide) rfl (fun hc51 => ?_) (fun hc51 => ?_)
          · exact kk
          · cases hc51
        · omega
    · cases hc19
set_option maxRecDepth 100000 in
theorem m_exchanges (adK : Nat → Nat) (d : Nat) (Y : MN) (P : Nat → MN) (a : G0) (b : G1) (c : G3) (e : G4) (f : G5) (g : G6) (h : G7) (hp9 : lyP Y c e) (hO : lyO (lyG Y c e)) (p q : Nat) (hv : ¬ (Y.2.2.2.2.2.2.1 p ||| Y.2.2.2.2.2.2.1 q) = lN 0) (hl : llN (Y.2.2.2.2.2.2.1 p ||| Y.2.2.2.2.2.2.1 q) + 1 < 57) (hl2 : ∀ s : Int64, ¬ (Y.2.2.2.2.2.2.1 p ||| Y.2.2.2.2.2.2.1 q) &&& s = lN 0 → llN ((Y.2.2.2.2.2.2.1 p ||| Y.2.2.2.2.2.2.1 q) &&& s) + 1 < 57) (hpc : Y.2.2.2.2.1 ≤ 60) (hp : p < Y.2.2.2.2.1) (hq : q < Y.2.2.2.2.1) (hpq : p ≠ q) (w : Int32) (hw : w = -1) : pnCt mX7_exchanges adK (d + 22) (lyM Y c e) (lyN Y c e) [.ref 0, .int (nI p), .int (nI q)] (hM Y P a b c e f g h) (pnIs (.inl (some (.int (nI (exK (lyG Y c e) (Y.2.2.2.2.2.2.1 p) (Y.2.2.2.2.2.2.1 q) (Y.2.2.2.2.2.2.1 p ||| Y.2.2.2.2.2.2.1 q) w ((lyG Y c e).2.2.2.2.1 (llN (Y.2.2.2.2.2.2.1 p ||| Y.2.2.2.2.2.2.1 q) + 1) - (lyG Y c e).2.2.2.2.1 (llN (Y.2.2.2.2.2.2.1 p ||| Y.2.2.2.2.2.2.1 q))) ((lyG Y c e).2.2.2.2.1 (llN (Y.2.2.2.2.2.2.1 p ||| Y.2.2.2.2.2.2.1 q))) 0 f).1)))) (hM Y P (0, a.2) b (lyC Y c e) (lyG Y c e) (exK (lyG Y c e) (Y.2.2.2.2.2.2.1 p) (Y.2.2.2.2.2.2.1 q) (Y.2.2.2.2.2.2.1 p ||| Y.2.2.2.2.2.2.1 q) w ((lyG Y c e).2.2.2.2.1 (llN (Y.2.2.2.2.2.2.1 p ||| Y.2.2.2.2.2.2.1 q) + 1) - (lyG Y c e).2.2.2.2.1 (llN (Y.2.2.2.2.2.2.1 p ||| Y.2.2.2.2.2.2.1 q))) ((lyG Y c e).2.2.2.2.1 (llN (Y.2.2.2.2.2.2.1 p ||| Y.2.2.2.2.2.2.1 q))) 0 f).2 g h)) := by
  refine pnCt_of (by decide) kX7_exchanges (Nat.le_of_ble_eq_true rfl) rfl hM_cl (pnCS_b rfl) ?_
  refine m_exchangesH adK d Y P a b c e f g h p q hpc hp hq hpq ?_
  subst hw
  have CE := m_exchangesOf adK d Y P (0, a.2) b c e f g h hp9 hO p q (-1) (by omega) (by omega) hv hl hl2
  refine pn_aload_n (q := 57) dX7_exchanges_56 rfl rfl rfl ?_
  refine pn_iload_n (q := 58) dX7_exchanges_57 rfl rfl ?_
  refine pn_iload_n (q := 59) dX7_exchanges_58 rfl rfl ?_
  refine pn_iconst (q := 60) (v := (-1)) dX7_exchanges_59 rfl (by decide) ?_
  refine pn_idV (q := 63) (bc9 := 0) (bs9 := 0) (CE) lkX7_288 dX7_exchanges_60 rfl rfl (hM_cl) (hM_cl) (Nat.le_of_ble_eq_true rfl) rfl rfl rfl rfl rfl rfl (by omega) (by omega) (by omega) (Nat.le_of_ble_eq_true rfl) ?_
  refine pn_iret dX7_exchanges_63 rfl ?_
  exact ⟨rfl, rfl⟩
