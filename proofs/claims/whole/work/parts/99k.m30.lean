/-! exchanges, refused -/
set_option maxRecDepth 100000 in
theorem m_exchangesXa (adK : Nat → Nat) (d : Nat) (Y : MN) (P : Nat → MN) (a : G0) (b : G1) (c : G3) (e : G4) (f : G5) (g : G6) (h : G7) (x y : Int32)  (hpc : Y.2.2.2.2.1 ≤ 60) (hx : hasN Y.2.2.2.2.1 x = false ∨ hasN Y.2.2.2.2.1 y = false) : pnCt mX7_exchanges adK (d + 22) 0 0 [.ref 0, .int x, .int y] (hM Y P a b c e f g h) (pnIs (.inl (some (.int (nI 0)))) (hM Y P (bdA (0, a.2) 1 0) b c e f g h)) := by
  refine pnCt_of (by decide) kX7_exchanges (Nat.le_of_ble_eq_true rfl) rfl hM_cl (pnCS_b rfl) ?_
  have Cx := m_isThere adK d Y P (0, a.2) b c e f g h x hpc
  have Cy := m_isThere adK d Y P (0, a.2) b c e f g h y hpc
  have k27 : pnWP mX7_exchanges adK (d + 22) (pnIs (.inl (some (.int (nI 0)))) (hM Y P (bdA (0, a.2) 1 0) b c e f g h)) 0 0 (hM Y P (0, a.2) b c e f g h) (pnArgs [.ref 0, .int x, .int y]) [.int (nB true), .ref 0] 27 := by
    refine pn_iconst (q := 28) (v := nI 1) dX7_exchanges_27 rfl (by decide) ?_
    refine pn_iconst (q := 29) (v := nI 0) dX7_exchanges_28 rfl (by decide) ?_
    refine pn_idV (q := 32) (bc9 := 0) (bs9 := 0) (m_badT adK d Y P (0, a.2) b c e f g h 1 0 rfl (by omega) (by omega) (by omega)) lkX7_206 dX7_exchanges_29 rfl rfl (hM_cl) (hM_cl) (Nat.le_of_ble_eq_true rfl) rfl rfl rfl rfl rfl rfl (by omega) (by omega) (by omega) (Nat.le_of_ble_eq_true rfl) ?_
    refine pn_bne (q := 35) (tgt := 54) dX7_exchanges_32 (by decide) rfl (fun hc32 => ?_) (fun hc32 => ?_)
    · refine pn_iconst (q := 55) (v := nI 0) dX7_exchanges_54 rfl (by decide) ?_
      refine pn_iret dX7_exchanges_55 rfl ?_
      exact ⟨rfl, rfl⟩
    · cases hc32
  cases hx1 : hasN Y.2.2.2.2.1 x with
  | false =>
    rw [hx1] at Cx
    refine pn_aload_n (q := 1) dX7_exchanges_0 rfl rfl rfl ?_
    refine pn_iconst (q := 2) (v := nI 0) dX7_exchanges_1 rfl (by decide) ?_
    (refine pn_put (q := 5) fX7_63 dX7_exchanges_2 rfl rfl (Nat.le_of_ble_eq_true rfl) (pnF_int _) ?_)
    refine pn_eq (h' := (hM Y P (0, a.2) b c e f g h)) (st' := _) rfl rfl ?_
    refine pn_aload_n (q := 6) dX7_exchanges_5 rfl rfl rfl ?_
    refine pn_aload_n (q := 7) dX7_exchanges_6 rfl rfl rfl ?_
    refine pn_iload_n (q := 8) dX7_exchanges_7 rfl rfl ?_
    refine pn_idV (q := 11) (bc9 := 0) (bs9 := 0) (Cx) lkX7_275 dX7_exchanges_8 rfl rfl (hM_cl) (hM_cl) (Nat.le_of_ble_eq_true rfl) rfl rfl rfl rfl rfl rfl (by omega) (by omega) (by omega) (Nat.le_of_ble_eq_true rfl) ?_
    refine pn_beq (q := 14) (tgt := 22) dX7_exchanges_11 (by decide) rfl (fun hc11 => ?_) (fun hc11 => ?_)
    · refine pn_iconst (q := 23) (v := nB true) dX7_exchanges_22 rfl (by decide) ?_
      refine pn_goto (q := 27) dX7_exchanges_23 (by decide) ?_
      exact k27
    · cases hc11
  | true =>
    rw [hx1] at Cx
    have hy1 : hasN Y.2.2.2.2.1 y = false := by rcases hx with q | q; rw [hx1] at q; cases q; exact q
    rw [hy1] at Cy
    refine pn_aload_n (q := 1) dX7_exchanges_0 rfl rfl rfl ?_
    refine pn_iconst (q := 2) (v := nI 0) dX7_exchanges_1 rfl (by decide) ?_
    (refine pn_put (q := 5) fX7_63 dX7_exchanges_2 rfl rfl (Nat.le_of_ble_eq_true rfl) (pnF_int _) ?_)
    refine pn_eq (h' := (hM Y P (0, a.2) b c e f g h)) (st' := _) rfl rfl ?_
    refine pn_aload_n (q := 6) dX7_exchanges_5 rfl rfl rfl ?_
    refine pn_aload_n (q := 7) dX7_exchanges_6 rfl rfl rfl ?_
    refine pn_iload_n (q := 8) dX7_exchanges_7 rfl rfl ?_
    refine pn_idV (q := 11) (bc9 := 0) (bs9 := 0) (Cx) lkX7_275 dX7_exchanges_8 rfl rfl (hM_cl) (hM_cl) (Nat.le_of_ble_eq_true rfl) rfl rfl rfl rfl rfl rfl (by omega) (by omega) (by omega) (Nat.le_of_ble_eq_true rfl) ?_
    refine pn_beq (q := 14) (tgt := 22) dX7_exchanges_11 (by decide) rfl (fun hc11 => ?_) (fun hc11 => ?_)
    · cases hc11
    · refine pn_aload_n (q := 15) dX7_exchanges_14 rfl rfl rfl ?_
      refine pn_iload_n (q := 16) dX7_exchanges_15 rfl rfl ?_
      refine pn_idV (q := 19) (bc9 := 0) (bs9 := 0) (Cy) lkX7_275 dX7_exchanges_16 rfl rfl (hM_cl) (hM_cl) (Nat.le_of_ble_eq_true rfl) rfl rfl rfl rfl rfl rfl (by omega) (by omega) (by omega) (Nat.le_of_ble_eq_true rfl) ?_
      refine pn_bne (q := 22) (tgt := 26) dX7_exchanges_19 (by decide) rfl (fun hc19 => ?_) (fun hc19 => ?_)
      · cases hc19
      · refine pn_iconst (q := 23) (v := nB true) dX7_exchanges_22 rfl (by decide) ?_
        refine pn_goto (q := 27) dX7_exchanges_23 (by decide) ?_
        exact k27
set_option maxRecDepth 100000 in
theorem m_exchangesXb (adK : Nat → Nat) (d : Nat) (Y : MN) (P : Nat → MN) (a : G0) (b : G1) (c : G3) (e : G4) (f : G5) (g : G6) (h : G7) (p : Nat)  (hpc : Y.2.2.2.2.1 ≤ 60) (hp : p < Y.2.2.2.2.1) : pnCt mX7_exchanges adK (d + 22) 0 0 [.ref 0, .int (nI p), .int (nI p)] (hM Y P a b c e f g h) (pnIs (.inl (some (.int (nI 0)))) (hM Y P (bdA (0, a.2) 2 1) b c e f g h)) := by
  refine pnCt_of (by decide) kX7_exchanges (Nat.le_of_ble_eq_true rfl) rfl hM_cl (pnCS_b rfl) ?_
  have Cx := m_isThere adK d Y P (0, a.2) b c e f g h (nI p) hpc
  rw [hasN_in hp (by omega)] at Cx
  refine pn_aload_n (q := 1) dX7_exchanges_0 rfl rfl rfl ?_
  refine pn_iconst (q := 2) (v := nI 0) dX7_exchanges_1 rfl (by decide) ?_
  (refine pn_put (q := 5) fX7_63 dX7_exchanges_2 rfl rfl (Nat.le_of_ble_eq_true rfl) (pnF_int _) ?_)
  refine pn_eq (h' := (hM Y P (0, a.2) b c e f g h)) (st' := _) rfl rfl ?_
  refine pn_aload_n (q := 6) dX7_exchanges_5 rfl rfl rfl ?_
  refine pn_aload_n (q := 7) dX7_exchanges_6 rfl rfl rfl ?_
  refine pn_iload_n (q := 8) dX7_exchanges_7 rfl rfl ?_
  refine pn_idV (q := 11) (bc9 := 0) (bs9 := 0) (Cx) lkX7_275 dX7_exchanges_8 rfl rfl (hM_cl) (hM_cl) (Nat.le_of_ble_eq_true rfl) rfl rfl rfl rfl rfl rfl (by omega) (by omega) (by omega) (Nat.le_of_ble_eq_true rfl) ?_
  refine pn_beq (q := 14) (tgt := 22) dX7_exchanges_11 (by decide) rfl (fun hc11 => ?_) (fun hc11 => ?_)
  · cases hc11
  · refine pn_aload_n (q := 15) dX7_exchanges_14 rfl rfl rfl ?_
    refine pn_iload_n (q := 16) dX7_exchanges_15 rfl rfl ?_
    refine pn_idV (q := 19) (bc9 := 0) (bs9 := 0) (Cx) lkX7_275 dX7_exchanges_16 rfl rfl (hM_cl) (hM_cl) (Nat.le_of_ble_eq_true rfl) rfl rfl rfl rfl rfl rfl (by omega) (by omega) (by omega) (Nat.le_of_ble_eq_true rfl) ?_
    refine pn_bne (q := 22) (tgt := 26) dX7_exchanges_19 (by decide) rfl (fun hc19 => ?_) (fun hc19 => ?_)
    · refine pn_iconst (q := 27) (v := nB false) dX7_exchanges_26 rfl (by decide) ?_
      refine pn_iconst (q := 28) (v := nI 1) dX7_exchanges_27 rfl (by decide) ?_
      refine pn_iconst (q := 29) (v := nI 0) dX7_exchanges_28 rfl (by decide) ?_
      refine pn_idV (q := 32) (bc9 := 0) (bs9 := 0) (m_badF adK d Y P (0, a.2) b c e f g h 1 0 rfl) lkX7_206 dX7_exchanges_29 rfl rfl (hM_cl) (hM_cl) (Nat.le_of_ble_eq_true rfl) rfl rfl rfl rfl rfl rfl (by omega) (by omega) (by omega) (Nat.le_of_ble_eq_true rfl) ?_
      refine pn_bne (q := 35) (tgt := 54) dX7_exchanges_32 (by decide) rfl (fun hc32 => ?_) (fun hc32 => ?_)
      · cases hc32
      · refine pn_aload_n (q := 36) dX7_exchanges_35 rfl rfl rfl ?_
        refine pn_iload_n (q := 37) dX7_exchanges_36 rfl rfl ?_
        refine pn_iload_n (q := 38) dX7_exchanges_37 rfl rfl ?_
        first | refine pn_nne (q := 41) (tgt := 45) dX7_exchanges_38 (by decide) rfl (by omega) (by omega) (fun hc38 => ?_) (fun hc38 => ?_) | refine pn_icmp_ne (q := 41) (tgt := 45) dX7_exchanges_38 (by decide) rfl (fun hc38 => ?_) (fun hc38 => ?_)
        · omega
        · refine pn_iconst (q := 42) (v := nB true) dX7_exchanges_41 rfl (by decide) ?_
          refine pn_goto (q := 46) dX7_exchanges_42 (by decide) ?_
          refine pn_iconst (q := 47) (v := nI 2) dX7_exchanges_46 rfl (by decide) ?_
          refine pn_iconst (q := 48) (v := nI 1) dX7_exchanges_47 rfl (by decide) ?_
          refine pn_idV (q := 51) (bc9 := 0) (bs9 := 0) (m_badT adK d Y P (0, a.2) b c e f g h 2 1 rfl (by omega) (by omega) (by omega)) lkX7_206 dX7_exchanges_48 rfl rfl (hM_cl) (hM_cl) (Nat.le_of_ble_eq_true rfl) rfl rfl rfl rfl rfl rfl (by omega) (by omega) (by omega) (Nat.le_of_ble_eq_true rfl) ?_
          refine pn_beq (q := 54) (tgt := 56) dX7_exchanges_51 (by decide) rfl (fun hc51 => ?_) (fun hc51 => ?_)
          · cases hc51
          · refine pn_iconst (q := 55) (v := nI 0) dX7_exchanges_54 rfl (by decide) ?_
            refine pn_iret dX7_exchanges_55 rfl ?_
            exact ⟨rfl, rfl⟩
    · cases hc19
set_option maxRecDepth 100000 in
theorem m_exchangesH {Q : pnR → List pnE → Prop} {bc bs : Nat} (adK : Nat → Nat) (d : Nat) (Y : MN) (P : Nat → MN) (a : G0) (b : G1) (c : G3) (e : G4) (f : G5) (g : G6) (h : G7) (p q : Nat)  (hpc : Y.2.2.2.2.1 ≤ 60) (hp : p < Y.2.2.2.2.1) (hq : q < Y.2.2.2.2.1) (hpq : p ≠ q) (kk : pnWP mX7_exchanges adK (d + 22) Q bc bs (hM Y P (0, a.2) b c e f g h) (pnArgs [.ref 0, .int (nI p), .int (nI q)]) [] 56) : pnWP mX7_exchanges adK (d + 22) Q bc bs (hM Y P a b c e f g h) (pnArgs [.ref 0, .int (nI p), .int (nI q)]) [] 0 := by
  have Cx := m_isThere adK d Y P (0, a.2) b c e f g h (nI p) hpc
  have Cy := m_isThere adK d Y P (0, a.2) b c e f g h (nI q) hpc
  rw [hasN_in hp (by omega)] at Cx
  rw [hasN_in hq (by omega)] at Cy
  refine pn_aload_n (q := 1) dX7_exchanges_0 rfl rfl rfl ?_
  refine pn_iconst (q := 2) (v := nI 0) dX7_exchanges_1 rfl (by decide) ?_
  (refine pn_put (q := 5) fX7_63 dX7_exchanges_2 rfl rfl (Nat.le_of_ble_eq_true rfl) (pnF_int _) ?_)
  refine pn_eq (h' := (hM Y P (0, a.2) b c e f g h)) (st' := _) rfl rfl ?_
  refine pn_aload_n (q := 6) dX7_exchanges_5 rfl rfl rfl ?_
  refine pn_aload_n (q := 7) dX7_exchanges_6 rfl rfl rfl ?_
  refine pn_iload_n (q := 8) dX7_exchanges_7 rfl rfl ?_
  refine pn_idV (q := 11) (bc9 := bc) (bs9 := bs) (Cx) lkX7_275 dX7_exchanges_8 rfl rfl (hM_cl) (hM_cl) (Nat.le_of_ble_eq_true rfl) rfl rfl rfl rfl rfl rfl (by omega) (by omega) (by omega) (Nat.le_of_ble_eq_true rfl) ?_
  refine pn_beq (q := 14) (tgt := 22) dX7_exchanges_11 (by decide) rfl (fun hc11 => ?_) (fun hc11 => ?_)
  · cases hc11
  · refine pn_aload_n (q := 15) dX7_exchanges_14 rfl rfl rfl ?_
    refine pn_iload_n (q := 16) dX7_exchanges_15 rfl rfl ?_
    refine pn_idV (q := 19) (bc9 := bc) (bs9 := bs) (Cy) lkX7_275 dX7_exchanges_16 rfl rfl (hM_cl) (hM_cl) (Nat.le_of_ble_eq_true rfl) rfl rfl rfl rfl rfl rfl (by omega) (by omega) (by omega) (Nat.le_of_ble_eq_true rfl) ?_
    refine pn_bne (q := 22) (tgt := 26) dX7_exchanges_19 (by decide) rfl (fun hc19 => ?_) (fun hc19 => ?_)
    · refine pn_iconst (q := 27) (v := nB false) dX7_exchanges_26 rfl (by decide) ?_
      refine pn_iconst (q := 28) (v := nI 1) dX7_exchanges_27 rfl (by decide) ?_
      refine pn_iconst (q := 29) (v := nI 0) dX7_exchanges_28 rfl (by decide) ?_
      refine pn_idV (q := 32) (bc9 := bc) (bs9 := bs) (m_badF adK d Y P (0, a.2) b c e f g h 1 0 rfl) lkX7_206 dX7_exchanges_29 rfl rfl (hM_cl) (hM_cl) (Nat.le_of_ble_eq_true rfl) rfl rfl rfl rfl rfl rfl (by omega) (by omega) (by omega) (Nat.le_of_ble_eq_true rfl) ?_
      refine pn_bne (q := 35) (tgt := 54) dX7_exchanges_32 (by decide) rfl (fun hc32 => ?_) (fun hc32 => ?_)
      · cases hc32
      · refine pn_aload_n (q := 36) dX7_exchanges_35 rfl rfl rfl ?_
        refine pn_iload_n (q := 37) dX7_exchanges_36 rfl rfl ?_
        refine pn_iload_n (q := 38) dX7_exchanges_37 rfl rfl ?_
        first | refine pn_nne (q := 41) (tgt := 45) dX7_exchanges_38 (by decide) rfl (by omega) (by omega) (fun hc38 => ?_) (fun hc38 => ?_) | refine pn_icmp_ne (q := 41) (tgt := 45) dX7_exchanges_38 (by decide) rfl (fun hc38 => ?_) (fun hc38 => ?_)
        · refine pn_iconst (q := 46) (v := nB false) dX7_exchanges_45 rfl (by decide) ?_
          refine pn_iconst (q := 47) (v := nI 2) dX7_exchanges_46 rfl (by decide) ?_
          refine pn_iconst (q := 48) (v := nI 1) dX7_exchanges_47 rfl (by decide) ?_
          refine pn_idV (q := 51) (bc9 := bc) (bs9 := bs) (m_badF adK d Y P (0, a.2) b c e f g h 2 1 rfl) lkX7_206 dX7_exchanges_48 rfl rfl (hM_cl) (hM_cl) (Nat.le_of_ble_eq_true rfl) rfl rfl rfl rfl rfl rfl (by omega) (by omega) (by omega) (Nat.le_of_ble_eq_true rfl) ?_
          refine pn_beq (q := 54) (tgt := 56) dX7_exchanges_51 (by decide) rfl (fun hc51 => ?_) (fun hc51 => ?_)
          · exact kk
          · cases hc51
        · omega
    · cases hc19
set_option maxRecDepth 100000 in
theorem m_exchangeXa (adK : Nat → Nat) (d : Nat) (Y : MN) (P : Nat → MN) (a : G0) (b : G1) (c : G3) (e : G4) (f : G5) (g : G6) (h : G7) (x y : Int32) (u : Int32) (hpc : Y.2.2.2.2.1 ≤ 60) (hx : hasN Y.2.2.2.2.1 x = false ∨ hasN Y.2.2.2.2.1 y = false) : pnCt mX7_exchange adK (d + 22) 0 0 [.ref 0, .int x, .int y, .int u] (hM Y P a b c e f g h) (pnIs (.inl (some (.int (nI 0)))) (hM Y P (bdA (0, a.2) 1 0) b c e f g h)) := by
  refine pnCt_of (by decide) kX7_exchange (Nat.le_of_ble_eq_true rfl) rfl hM_cl (pnCS_b rfl) ?_
  have Cx := m_isThere adK d Y P (0, a.2) b c e f g h x hpc
  have Cy := m_isThere adK d Y P (0, a.2) b c e f g h y hpc
  have k27 : pnWP mX7_exchange adK (d + 22) (pnIs (.inl (some (.int (nI 0)))) (hM Y P (bdA (0, a.2) 1 0) b c e f g h)) 0 0 (hM Y P (0, a.2) b c e f g h) (pnArgs [.ref 0, .int x, .int y, .int u]) [.int (nB true), .ref 0] 27 := by
    refine pn_iconst (q := 28) (v := nI 1) dX7_exchange_27 rfl (by decide) ?_
    refine pn_iconst (q := 29) (v := nI 0) dX7_exchange_28 rfl (by decide) ?_
    refine pn_idV (q := 32) (bc9 := 0) (bs9 := 0) (m_badT adK d Y P (0, a.2) b c e f g h 1 0 rfl (by omega) (by omega) (by omega)) lkX7_206 dX7_exchange_29 rfl rfl (hM_cl) (hM_cl) (Nat.le_of_ble_eq_true rfl) rfl rfl rfl rfl rfl rfl (by omega) (by omega) (by omega) (Nat.le_of_ble_eq_true rfl) ?_
    refine pn_bne (q := 35) (tgt := 54) dX7_exchange_32 (by decide) rfl (fun hc32 => ?_) (fun hc32 => ?_)
    · refine pn_iconst (q := 55) (v := nI 0) dX7_exchange_54 rfl (by decide) ?_
      refine pn_iret dX7_exchange_55 rfl ?_
      exact ⟨rfl, rfl⟩
    · cases hc32
  cases hx1 : hasN Y.2.2.2.2.1 x with
  | false =>
    rw [hx1] at Cx
    refine pn_aload_n (q := 1) dX7_exchange_0 rfl rfl rfl ?_
    refine pn_iconst (q := 2) (v := nI 0) dX7_exchange_1 rfl (by decide) ?_
    (refine pn_put (q := 5) fX7_63 dX7_exchange_2 rfl rfl (Nat.le_of_ble_eq_true rfl) (pnF_int _) ?_)
    refine pn_eq (h' := (hM Y P (0, a.2) b c e f g h)) (st' := _) rfl rfl ?_
    refine pn_aload_n (q := 6) dX7_exchange_5 rfl rfl rfl ?_
    refine pn_aload_n (q := 7) dX7_exchange_6 rfl rfl rfl ?_
    refine pn_iload_n (q := 8) dX7_exchange_7 rfl rfl ?_
    refine pn_idV (q := 11) (bc9 := 0) (bs9 := 0) (Cx) lkX7_275 dX7_exchange_8 rfl rfl (hM_cl) (hM_cl) (Nat.le_of_ble_eq_true rfl) rfl rfl rfl rfl rfl rfl (by omega) (by omega) (by omega) (Nat.le_of_ble_eq_true rfl) ?_
    refine pn_beq (q := 14) (tgt := 22) dX7_exchange_11 (by decide) rfl (fun hc11 => ?_) (fun hc11 => ?_)
    · refine pn_iconst (q := 23) (v := nB true) dX7_exchange_22 rfl (by decide) ?_
      refine pn_goto (q := 27) dX7_exchange_23 (by decide) ?_
      exact k27
    · cases hc11
  | true =>
    rw [hx1] at Cx
    have hy1 : hasN Y.2.2.2.2.1 y = false := by rcases hx with q | q; rw [hx1] at q; cases q; exact q
    rw [hy1] at Cy
    refine pn_aload_n (q := 1) dX7_exchange_0 rfl rfl rfl ?_
    refine pn_iconst (q := 2) (v := nI 0) dX7_exchange_1 rfl (by decide) ?_
    (refine pn_put (q := 5) fX7_63 dX7_exchange_2 rfl rfl (Nat.le_of_ble_eq_true rfl) (pnF_int _) ?_)
    refine pn_eq (h' := (hM Y P (0, a.2) b c e f g h)) (st' := _) rfl rfl ?_
    refine pn_aload_n (q := 6) dX7_exchange_5 rfl rfl rfl ?_
    refine pn_aload_n (q := 7) dX7_exchange_6 rfl rfl rfl ?_
    refine pn_iload_n (q := 8) dX7_exchange_7 rfl rfl ?_
    refine pn_idV (q := 11) (bc9 := 0) (bs9 := 0) (Cx) lkX7_275 dX7_exchange_8 rfl rfl (hM_cl) (hM_cl) (Nat.le_of_ble_eq_true rfl) rfl rfl rfl rfl rfl rfl (by omega) (by omega) (by omega) (Nat.le_of_ble_eq_true rfl) ?_
    refine pn_beq (q := 14) (tgt := 22) dX7_exchange_11 (by decide) rfl (fun hc11 => ?_) (fun hc11 => ?_)
    · cases hc11
    · refine pn_aload_n (q := 15) dX7_exchange_14 rfl rfl rfl ?_
      refine pn_iload_n (q := 16) dX7_exchange_15 rfl rfl ?_
      refine pn_idV (q := 19) (bc9 := 0) (bs9 := 0) (Cy) lkX7_275 dX7_exchange_16 rfl rfl (hM_cl) (hM_cl) (Nat.le_of_ble_eq_true rfl) rfl rfl rfl rfl rfl rfl (by omega) (by omega) (by omega) (Nat.le_of_ble_eq_true rfl) ?_
      refine pn_bne (q := 22) (tgt := 26) dX7_exchange_19 (by decide) rfl (fun hc19 => ?_) (fun hc19 => ?_)
      · cases hc19
      · refine pn_iconst (q := 23) (v := nB true) dX7_exchange_22 rfl (by decide) ?_
        refine pn_goto (q := 27) dX7_exchange_23 (by decide) ?_
        exact k27
set_option maxRecDepth 100000 in
theorem m_exchangeXb (adK : Nat → Nat) (d : Nat) (Y : MN) (P : Nat → MN) (a : G0) (b : G1) (c : G3) (e : G4) (f : G5) (g : G6) (h : G7) (p : Nat) (u : Int32) (hpc : Y.2.2.2.2.1 ≤ 60) (hp : p < Y.2.2.2.2.1) : pnCt mX7_exchange adK (d + 22) 0 0 [.ref 0, .int (nI p), .int (nI p), .int u] (hM Y P a b c e f g h) (pnIs (.inl (some (.int (nI 0)))) (hM Y P (bdA (0, a.2) 2 1) b c e f g h)) := by
  refine pnCt_of (by decide) kX7_exchange (Nat.le_of_ble_eq_true rfl) rfl hM_cl (pnCS_b rfl) ?_
  have Cx := m_isThere adK d Y P (0, a.2) b c e f g h (nI p) hpc
  rw [hasN_in hp (by omega)] at Cx
  refine pn_aload_n (q := 1) dX7_exchange_0 rfl rfl rfl ?_
  refine pn_iconst (q := 2) (v := nI 0) dX7_exchange_1 rfl (by decide) ?_
  (refine pn_put (q := 5) fX7_63 dX7_exchange_2 rfl rfl (Nat.le_of_ble_eq_true rfl) (pnF_int _) ?_)
  refine pn_eq (h' := (hM Y P (0, a.2) b c e f g h)) (st' := _) rfl rfl ?_
  refine pn_aload_n (q := 6) dX7_exchange_5 rfl rfl rfl ?_
  refine pn_aload_n (q := 7) dX7_exchange_6 rfl rfl rfl ?_
  refine pn_iload_n (q := 8) dX7_exchange_7 rfl rfl ?_
  refine pn_idV (q := 11) (bc9 := 0) (bs9 := 0) (Cx) lkX7_275 dX7_exchange_8 rfl rfl (hM_cl) (hM_cl) (Nat.le_of_ble_eq_true rfl) rfl rfl rfl rfl rfl rfl (by omega) (by omega) (by omega) (Nat.le_of_ble_eq_true rfl) ?_
  refine pn_beq (q := 14) (tgt := 22) dX7_exchange_11 (by decide) rfl (fun hc11 => ?_) (fun hc11 => ?_)
  · cases hc11
  · refine pn_aload_n (q := 15) dX7_exchange_14 rfl rfl rfl ?_
    refine pn_iload_n (q := 16) dX7_exchange_15 rfl rfl ?_
    refine pn_idV (q := 19) (bc9 := 0) (bs9 := 0) (Cx) lkX7_275 dX7_exchange_16 rfl rfl (hM_cl) (hM_cl) (Nat.le_of_ble_eq_true rfl) rfl rfl rfl rfl rfl rfl (by omega) (by omega) (by omega) (Nat.le_of_ble_eq_true rfl) ?_
    refine pn_bne (q := 22) (tgt := 26) dX7_exchange_19 (by decide) rfl (fun hc19 => ?_) (fun hc19 => ?_)
    · refine pn_iconst (q := 27) (v := nB false) dX7_exchange_26 rfl (by decide) ?_
      refine pn_iconst (q := 28) (v := nI 1) dX7_exchange_27 rfl (by decide) ?_
      refine pn_iconst (q := 29) (v := nI 0) dX7_exchange_28 rfl (by decide) ?_
      refine pn_idV (q := 32) (bc9 := 0) (bs9 := 0) (m_badF adK d Y P (0, a.2) b c e f g h 1 0 rfl) lkX7_206 dX7_exchange_29 rfl rfl (hM_cl) (hM_cl) (Nat.le_of_ble_eq_true rfl) rfl rfl rfl rfl rfl rfl (by omega) (by omega) (by omega) (Nat.le_of_ble_eq_true rfl) ?_
      refine pn_bne (q := 35) (tgt := 54) dX7_exchange_32 (by decide) rfl (fun hc32 => ?_) (fun hc32 => ?_)
      · cases hc32
      · refine pn_aload_n (q := 36) dX7_exchange_35 rfl rfl rfl ?_
        refine pn_iload_n (q := 37) dX7_exchange_36 rfl rfl ?_
        refine pn_iload_n (q := 38) dX7_exchange_37 rfl rfl ?_
        first | refine pn_nne (q := 41) (tgt := 45) dX7_exchange_38 (by decide) rfl (by omega) (by omega) (fun hc38 => ?_) (fun hc38 => ?_) | refine pn_icmp_ne (q := 41) (tgt := 45) dX7_exchange_38 (by decide) rfl (fun hc38 => ?_) (fun hc38 => ?_)
        · omega
        · refine pn_iconst (q := 42) (v := nB true) dX7_exchange_41 rfl (by decide) ?_
          refine pn_goto (q := 46) dX7_exchange_42 (by decide) ?_
          refine pn_iconst (q := 47) (v := nI 2) dX7_exchange_46 rfl (by decide) ?_
          refine pn_iconst (q := 48) (v := nI 1) dX7_exchange_47 rfl (by decide) ?_
          refine pn_idV (q := 51) (bc9 := 0) (bs9 := 0) (m_badT adK d Y P (0, a.2) b c e f g h 2 1 rfl (by omega) (by omega) (by omega)) lkX7_206 dX7_exchange_48 rfl rfl (hM_cl) (hM_cl) (Nat.le_of_ble_eq_true rfl) rfl rfl rfl rfl rfl rfl (by omega) (by omega) (by omega) (Nat.le_of_ble_eq_true rfl) ?_
          refine pn_beq (q := 54) (tgt := 56) dX7_exchange_51 (by decide) rfl (fun hc51 => ?_) (fun hc51 => ?_)
          · cases hc51
          · refine pn_iconst (q := 55) (v := nI 0) dX7_exchange_54 rfl (by decide) ?_
            refine pn_iret dX7_exchange_55 rfl ?_
            exact ⟨rfl, rfl⟩
    · cases hc19
set_option maxRecDepth 100000 in
theorem m_exchangeH {Q : pnR → List pnE → Prop} {bc bs : Nat} (adK : Nat → Nat) (d : Nat) (Y : MN) (P : Nat → MN) (a : G0) (b : G1) (c : G3) (e : G4) (f : G5) (g : G6) (h : G7) (p q : Nat) (u : Int32) (hpc : Y.2.2.2.2.1 ≤ 60) (hp : p < Y.2.2.2.2.1) (hq : q < Y.2.2.2.2.1) (hpq : p ≠ q) (kk : pnWP mX7_exchange adK (d + 22) Q bc bs (hM Y P (0, a.2) b c e f g h) (pnArgs [.ref 0, .int (nI p), .int (nI q), .int u]) [] 56) : pnWP mX7_exchange adK (d + 22) Q bc bs (hM Y P a b c e f g h) (pnArgs [.ref 0, .int (nI p), .int (nI q), .int u]) [] 0 := by
  have Cx := m_isThere adK d Y P (0, a.2) b c e f g h (nI p) hpc
  have Cy := m_isThere adK d Y P (0, a.2) b c e f g h (nI q) hpc
  rw [hasN_in hp (by omega)] at Cx
  rw [hasN_in hq (by omega)] at Cy
  refine pn_aload_n (q := 1) dX7_exchange_0 rfl rfl rfl ?_
  refine pn_iconst (q := 2) (v := nI 0) dX7_exchange_1 rfl (by decide) ?_
  (refine pn_put (q := 5) fX7_63 dX7_exchange_2 rfl rfl (Nat.le_of_ble_eq_true rfl) (pnF_int _) ?_)
  refine pn_eq (h' := (hM Y P (0, a.2) b c e f g h)) (st' := _) rfl rfl ?_
  refine pn_aload_n (q := 6) dX7_exchange_5 rfl rfl rfl ?_
  refine pn_aload_n (q := 7) dX7_exchange_6 rfl rfl rfl ?_
  refine pn_iload_n (q := 8) dX7_exchange_7 rfl rfl ?_
  refine pn_idV (q := 11) (bc9 := bc) (bs9 := bs) (Cx) lkX7_275 dX7_exchange_8 rfl rfl (hM_cl) (hM_cl) (Nat.le_of_ble_eq_true rfl) rfl rfl rfl rfl rfl rfl (by omega) (by omega) (by omega) (Nat.le_of_ble_eq_true rfl) ?_
  refine pn_beq (q := 14) (tgt := 22) dX7_exchange_11 (by decide) rfl (fun hc11 => ?_) (fun hc11 => ?_)
  · cases hc11
  · refine pn_aload_n (q := 15) dX7_exchange_14 rfl rfl rfl ?_
    refine pn_iload_n (q := 16) dX7_exchange_15 rfl rfl ?_
    refine pn_idV (q := 19) (bc9 := bc) (bs9 := bs) (Cy) lkX7_275 dX7_exchange_16 rfl rfl (hM_cl) (hM_cl) (Nat.le_of_ble_eq_true rfl) rfl rfl rfl rfl rfl rfl (by omega) (by omega) (by omega) (Nat.le_of_ble_eq_true rfl) ?_
    refine pn_bne (q := 22) (tgt := 26) dX7_exchange_19 (by decide) rfl (fun hc19 => ?_) (fun hc19 => ?_)
    · refine pn_iconst (q := 27) (v := nB false) dX7_exchange_26 rfl (by decide) ?_
      refine pn_iconst (q := 28) (v := nI 1) dX7_exchange_27 rfl (by decide) ?_
      refine pn_iconst (q := 29) (v := nI 0) dX7_exchange_28 rfl (by decide) ?_
      refine pn_idV (q := 32) (bc9 := bc) (bs9 := bs) (m_badF adK d Y P (0, a.2) b c e f g h 1 0 rfl) lkX7_206 dX7_exchange_29 rfl rfl (hM_cl) (hM_cl) (Nat.le_of_ble_eq_true rfl) rfl rfl rfl rfl rfl rfl (by omega) (by omega) (by omega) (Nat.le_of_ble_eq_true rfl) ?_
      refine pn_bne (q := 35) (tgt := 54) dX7_exchange_32 (by decide) rfl (fun hc32 => ?_) (fun hc32 => ?_)
      · cases hc32
      · refine pn_aload_n (q := 36) dX7_exchange_35 rfl rfl rfl ?_
        refine pn_iload_n (q := 37) dX7_exchange_36 rfl rfl ?_
        refine pn_iload_n (q := 38) dX7_exchange_37 rfl rfl ?_
        first | refine pn_nne (q := 41) (tgt := 45) dX7_exchange_38 (by decide) rfl (by omega) (by omega) (fun hc38 => ?_) (fun hc38 => ?_) | refine pn_icmp_ne (q := 41) (tgt := 45) dX7_exchange_38 (by decide) rfl (fun hc38 => ?_) (fun hc38 => ?_)
        · refine pn_iconst (q := 46) (v := nB false) dX7_exchange_45 rfl (by decide) ?_
          refine pn_iconst (q := 47) (v := nI 2) dX7_exchange_46 rfl (by decide) ?_
          refine pn_iconst (q := 48) (v := nI 1) dX7_exchange_47 rfl (by decide) ?_
          refine pn_idV (q := 51) (bc9 := bc) (bs9 := bs) (m_badF adK d Y P (0, a.2) b c e f g h 2 1 rfl) lkX7_206 dX7_exchange_48 rfl rfl (hM_cl) (hM_cl) (Nat.le_of_ble_eq_true rfl) rfl rfl rfl rfl rfl rfl (by omega) (by omega) (by omega) (Nat.le_of_ble_eq_true rfl) ?_
          refine pn_beq (q := 54) (tgt := 56) dX7_exchange_51 (by decide) rfl (fun hc51 => ?_) (fun hc51 => ?_)
          · exact kk
          · cases hc51
        · omega
    · cases hc19
set_option maxRecDepth 100000 in
theorem m_exchanges (adK : Nat → Nat) (d : Nat) (Y : MN) (P : Nat → MN) (a : G0) (b : G1) (c : G3) (e : G4) (f : G5) (g : G6) (h : G7) (hp9 : lyP Y c e) (hO : lyO (lyG Y c e)) (p q : Nat) (hv : ¬ (Y.2.2.2.2.2.2.1 p ||| Y.2.2.2.2.2.2.1 q) = lN 0) (hl : llN (Y.2.2.2.2.2.2.1 p ||| Y.2.2.2.2.2.2.1 q) + 1 < 57) (hl2 : ∀ s : Int64, ¬ (Y.2.2.2.2.2.2.1 p ||| Y.2.2.2.2.2.2.1 q) &&& s = lN 0 → llN ((Y.2.2.2.2.2.2.1 p ||| Y.2.2.2.2.2.2.1 q) &&& s) + 1 < 57) (hpc : Y.2.2.2.2.1 ≤ 60) (hp : p < Y.2.2.2.2.1) (hq : q < Y.2.2.2.2.1) (hpq : p ≠ q) (w : Int32) (hw : w = -1) : pnCt mX7_exchanges adK (d + 22) (lyM Y c e) (lyN Y c e) [.ref 0, .int (nI p), .int (nI q)] (hM Y P a b c e f g h) (pnIs (.inl (some (.int (nI (exK (lyG Y c e) (Y.2.2.2.2.2.2.1 p) (Y.2.2.2.2.2.2.1 q) (Y.2.2.2.2.2.2.1 p ||| Y.2.2.2.2.2.2.1 q) w ((lyG Y c e).2.2.2.2.1 (llN (Y.2.2.2.2.2.2.1 p ||| Y.2.2.2.2.2.2.1 q) + 1) - (lyG Y c e).2.2.2.2.1 (llN (Y.2.2.2.2.2.2.1 p ||| Y.2.2.2.2.2.2.1 q))) ((lyG Y c e).2.2.2.2.1 (llN (Y.2.2.2.2.2.2.1 p ||| Y.2.2.2.2.2.2.1 q))) 0 f).1)))) (hM Y P (0, a.2) b (lyC Y c e) (lyG Y c e) (exK (lyG Y c e) (Y.2.2.2.2.2.2.1 p) (Y.2.2.2.2.2.2.1 q) (Y.2.2.2.2.2.2.1 p ||| Y.2.2.2.2.2.2.1 q) w ((lyG Y c e).2.2.2.2.1 (llN (Y.2.2.2.2.2.2.1 p ||| Y.2.2.2.2.2.2.1 q) + 1) - (lyG Y c e).2.2.2.2.1 (llN (Y.2.2.2.2.2.2.1 p ||| Y.2.2.2.2.2.2.1 q))) ((lyG Y c e).2.2.2.2.1 (llN (Y.2.2.2.2.2.2.1 p ||| Y.2.2.2.2.2.2.1 q))) 0 f).2 g h)) := by
  refine pnCt_of (by decide) kX7_exchanges (Nat.le_of_ble_eq_true rfl) rfl hM_cl (pnCS_b rfl) ?_
  refine m_exchangesH adK d Y P a b c e f g h p q hpc hp hq hpq ?_
  subst hw
  have CE := m_exchangesOf adK d Y P (0, a.2) b c e f g h hp9 hO p q (-1) (by omega) (by omega) hv hl hl2
  refine pn_aload_n (q := 57) dX7_exchanges_56 rfl rfl rfl ?_
  refine pn_iload_n (q := 58) dX7_exchanges_57 rfl rfl ?_
  refine pn_iload_n (q := 59) dX7_exchanges_58 rfl rfl ?_
  refine pn_iconst (q := 60) (v := (-1)) dX7_exchanges_59 rfl (by decide) ?_
  refine pn_idV (q := 63) (bc9 := 0) (bs9 := 0) (CE) lkX7_288 dX7_exchanges_60 rfl rfl (hM_cl) (hM_cl) (Nat.le_of_ble_eq_true rfl) rfl rfl rfl rfl rfl rfl (by omega) (by omega) (by omega) (Nat.le_of_ble_eq_true rfl) ?_
  refine pn_iret dX7_exchanges_63 rfl ?_
  exact ⟨rfl, rfl⟩
theorem inL_sub2 {n : Nat} (hn : n ≤ 60000) {x : Int32} : inL x.toInt64 (lN 0) ((nI n - nI 1).toInt64) = hasN n x := by
  unfold inL hasN
  have e0 : (lN 0).toInt = 0 := by decide
  have e1 : (nI n - nI 1).toInt = (n : Int) - 1 := by
    rw [pk_sub_toInt (by omega) (by omega)]
    omega
  apply decide_eq_decide.mpr
  rw [Int64.le_iff_toInt_le, Int64.le_iff_toInt_le, Int32.toInt_toInt64, Int32.toInt_toInt64, e0, e1]
  omega
theorem lyQ_G (Y : MN) (c : G3) (e : G4) : lyQ Y (lyG Y c e) = true := by
  unfold lyG
  cases hq : lyQ Y e with
  | true => rw [if_pos rfl]; exact hq
  | false =>
    rw [if_neg Bool.false_ne_true]
    exact decide_eq_true ⟨rfl, rfl, rfl⟩
set_option maxRecDepth 100000 in
theorem m_exchangeXc (adK : Nat → Nat) (d : Nat) (Y : MN) (P : Nat → MN) (a : G0) (b : G1) (c : G3) (e : G4) (f : G5) (g : G6) (h : G7) (hp9 : lyP Y c e) (hO : lyO (lyG Y c e)) (p q : Nat) (hv : ¬ (Y.2.2.2.2.2.2.1 p ||| Y.2.2.2.2.2.2.1 q) = lN 0) (hl : llN (Y.2.2.2.2.2.2.1 p ||| Y.2.2.2.2.2.2.1 q) + 1 < 57) (hl2 : ∀ s : Int64, ¬ (Y.2.2.2.2.2.2.1 p ||| Y.2.2.2.2.2.2.1 q) &&& s = lN 0 → llN ((Y.2.2.2.2.2.2.1 p ||| Y.2.2.2.2.2.2.1 q) &&& s) + 1 < 57) (hpc : Y.2.2.2.2.1 ≤ 60) (hp : p < Y.2.2.2.2.1) (hq : q < Y.2.2.2.2.1) (hpq : p ≠ q) (w : Int32) (hn : (exK (lyG Y c e) (Y.2.2.2.2.2.2.1 p) (Y.2.2.2.2.2.2.1 q) (Y.2.2.2.2.2.2.1 p ||| Y.2.2.2.2.2.2.1 q) w ((lyG Y c e).2.2.2.2.1 (llN (Y.2.2.2.2.2.2.1 p ||| Y.2.2.2.2.2.2.1 q) + 1) - (lyG Y c e).2.2.2.2.1 (llN (Y.2.2.2.2.2.2.1 p ||| Y.2.2.2.2.2.2.1 q))) ((lyG Y c e).2.2.2.2.1 (llN (Y.2.2.2.2.2.2.1 p ||| Y.2.2.2.2.2.2.1 q))) 0 f).1 ≤ 60000) (hw : hasN (exK (lyG Y c e) (Y.2.2.2.2.2.2.1 p) (Y.2.2.2.2.2.2.1 q) (Y.2.2.2.2.2.2.1 p ||| Y.2.2.2.2.2.2.1 q) w ((lyG Y c e).2.2.2.2.1 (llN (Y.2.2.2.2.2.2.1 p ||| Y.2.2.2.2.2.2.1 q) + 1) - (lyG Y c e).2.2.2.2.1 (llN (Y.2.2.2.2.2.2.1 p ||| Y.2.2.2.2.2.2.1 q))) ((lyG Y c e).2.2.2.2.1 (llN (Y.2.2.2.2.2.2.1 p ||| Y.2.2.2.2.2.2.1 q))) 0 f).1 w = false) : pnCt mX7_exchange adK (d + 22) (lyM Y c e) (lyN Y c e) [.ref 0, .int (nI p), .int (nI q), .int w] (hM Y P a b c e f g h) (pnIs (.inl (some (.int (nI 0)))) (hM Y P (bdA (0, a.2) 1 0) b (lyC Y c e) (lyG Y c e) (exK (lyG Y c e) (Y.2.2.2.2.2.2.1 p) (Y.2.2.2.2.2.2.1 q) (Y.2.2.2.2.2.2.1 p ||| Y.2.2.2.2.2.2.1 q) w ((lyG Y c e).2.2.2.2.1 (llN (Y.2.2.2.2.2.2.1 p ||| Y.2.2.2.2.2.2.1 q) + 1) - (lyG Y c e).2.2.2.2.1 (llN (Y.2.2.2.2.2.2.1 p ||| Y.2.2.2.2.2.2.1 q))) ((lyG Y c e).2.2.2.2.1 (llN (Y.2.2.2.2.2.2.1 p ||| Y.2.2.2.2.2.2.1 q))) 0 f).2 g h)) := by
  refine pnCt_of (by decide) kX7_exchange (Nat.le_of_ble_eq_true rfl) rfl hM_cl (pnCS_b rfl) ?_
  refine m_exchangeH adK d Y P a b c e f g h p q w hpc hp hq hpq ?_
  have CE := m_exchangesOf adK d Y P (0, a.2) b c e f g h hp9 hO p q w (by omega) (by omega) hv hl hl2
  generalize (exK (lyG Y c e) (Y.2.2.2.2.2.2.1 p) (Y.2.2.2.2.2.2.1 q) (Y.2.2.2.2.2.2.1 p ||| Y.2.2.2.2.2.2.1 q) w ((lyG Y c e).2.2.2.2.1 (llN (Y.2.2.2.2.2.2.1 p ||| Y.2.2.2.2.2.2.1 q) + 1) - (lyG Y c e).2.2.2.2.1 (llN (Y.2.2.2.2.2.2.1 p ||| Y.2.2.2.2.2.2.1 q))) ((lyG Y c e).2.2.2.2.1 (llN (Y.2.2.2.2.2.2.1 p ||| Y.2.2.2.2.2.2.1 q))) 0 f) = R at *
  have C0 := m_in adK d w.toInt64 (lN 0) ((nI R.1 - nI 1).toInt64)
  rw [inL_sub2 hn, hw] at C0
  refine pn_aload_n (q := 57) dX7_exchange_56 rfl rfl rfl ?_
  refine pn_iload_n (q := 58) dX7_exchange_57 rfl rfl ?_
  refine pn_iload_n (q := 59) dX7_exchange_58 rfl rfl ?_
  refine pn_iload_n (q := 60) dX7_exchange_59 rfl rfl ?_
  refine pn_idV (q := 63) (bc9 := 0) (bs9 := 0) (CE) lkX7_288 dX7_exchange_60 rfl rfl (hM_cl) (hM_cl) (Nat.le_of_ble_eq_true rfl) rfl rfl rfl rfl rfl rfl (by omega) (by omega) (by omega) (Nat.le_of_ble_eq_true rfl) ?_
  refine pn_istore (q := 65) dX7_exchange_63 rfl (by decide) ?_
  refine pn_aload_n (q := 66) dX7_exchange_65 rfl rfl rfl ?_
  refine pn_iload_n (q := 67) dX7_exchange_66 rfl rfl ?_
  refine pn_i2l (q := 68) dX7_exchange_67 rfl ?_
  refine pn_lconst (q := 69) (v := lN 0) dX7_exchange_68 rfl (by decide) ?_
  refine pn_iload (q := 71) dX7_exchange_69 rfl rfl ?_
  refine pn_iconst (q := 72) (v := nI 1) dX7_exchange_71 rfl (by decide) ?_
  refine pn_isub (q := 73) dX7_exchange_72 rfl ?_
  refine pn_i2l (q := 74) dX7_exchange_73 rfl ?_
  refine pn_roS1 (q := 77) (C0) lkX7_92 dX7_exchange_74 rfl rfl (pnSel_of (I := []) rfl rfl) (pnFree_none rfl) rfl (by omega) (Nat.le_of_ble_eq_true rfl) rfl ?_
  refine pn_bne (q := 80) (tgt := 84) dX7_exchange_77 (by decide) rfl (fun hc77 => ?_) (fun hc77 => ?_)
  · cases hc77
  · refine pn_iconst (q := 81) (v := nB true) dX7_exchange_80 rfl (by decide) ?_
    refine pn_goto (q := 85) dX7_exchange_81 (by decide) ?_
    refine pn_iconst (q := 86) (v := nI 1) dX7_exchange_85 rfl (by decide) ?_
    refine pn_iconst (q := 87) (v := nI 0) dX7_exchange_86 rfl (by decide) ?_
    refine pn_idV (q := 90) (bc9 := 0) (bs9 := 0) (m_badT adK d Y P (0, a.2) b (lyC Y c e) (lyG Y c e) R.2 g h 1 0 rfl (by omega) (by omega) (by omega)) lkX7_206 dX7_exchange_87 rfl rfl (hM_cl) (hM_cl) (Nat.le_of_ble_eq_true rfl) rfl rfl rfl rfl rfl rfl (by omega) (by omega) (by omega) (Nat.le_of_ble_eq_true rfl) ?_
    refine pn_beq (q := 93) (tgt := 95) dX7_exchange_90 (by decide) rfl (fun hc90 => ?_) (fun hc90 => ?_)
    · cases hc90
    · refine pn_iconst (q := 94) (v := nI 0) dX7_exchange_93 rfl (by decide) ?_
      refine pn_iret dX7_exchange_94 rfl ?_
      exact ⟨rfl, rfl⟩
set_option maxRecDepth 100000 in
theorem m_exchange (adK : Nat → Nat) (d : Nat) (Y : MN) (P : Nat → MN) (a : G0) (b : G1) (c : G3) (e : G4) (f : G5) (g : G6) (h : G7) (hp9 : lyP Y c e) (hO : lyO (lyG Y c e)) (p q : Nat) (hv : ¬ (Y.2.2.2.2.2.2.1 p ||| Y.2.2.2.2.2.2.1 q) = lN 0) (hl : llN (Y.2.2.2.2.2.2.1 p ||| Y.2.2.2.2.2.2.1 q) + 1 < 57) (hl2 : ∀ s : Int64, ¬ (Y.2.2.2.2.2.2.1 p ||| Y.2.2.2.2.2.2.1 q) &&& s = lN 0 → llN ((Y.2.2.2.2.2.2.1 p ||| Y.2.2.2.2.2.2.1 q) &&& s) + 1 < 57) (hpc : Y.2.2.2.2.1 ≤ 60) (hp : p < Y.2.2.2.2.1) (hq : q < Y.2.2.2.2.1) (hpq : p ≠ q) (w : Int32) (hn : (exK (lyG Y c e) (Y.2.2.2.2.2.2.1 p) (Y.2.2.2.2.2.2.1 q) (Y.2.2.2.2.2.2.1 p ||| Y.2.2.2.2.2.2.1 q) w ((lyG Y c e).2.2.2.2.1 (llN (Y.2.2.2.2.2.2.1 p ||| Y.2.2.2.2.2.2.1 q) + 1) - (lyG Y c e).2.2.2.2.1 (llN (Y.2.2.2.2.2.2.1 p ||| Y.2.2.2.2.2.2.1 q))) ((lyG Y c e).2.2.2.2.1 (llN (Y.2.2.2.2.2.2.1 p ||| Y.2.2.2.2.2.2.1 q))) 0 f).1 ≤ 60000) (hw : hasN (exK (lyG Y c e) (Y.2.2.2.2.2.2.1 p) (Y.2.2.2.2.2.2.1 q) (Y.2.2.2.2.2.2.1 p ||| Y.2.2.2.2.2.2.1 q) w ((lyG Y c e).2.2.2.2.1 (llN (Y.2.2.2.2.2.2.1 p ||| Y.2.2.2.2.2.2.1 q) + 1) - (lyG Y c e).2.2.2.2.1 (llN (Y.2.2.2.2.2.2.1 p ||| Y.2.2.2.2.2.2.1 q))) ((lyG Y c e).2.2.2.2.1 (llN (Y.2.2.2.2.2.2.1 p ||| Y.2.2.2.2.2.2.1 q))) 0 f).1 w = true) (ha : a.2.2.2.2 ≤ 8) (hv2 : ¬ ((exK (lyG Y c e) (Y.2.2.2.2.2.2.1 p) (Y.2.2.2.2.2.2.1 q) (Y.2.2.2.2.2.2.1 p ||| Y.2.2.2.2.2.2.1 q) w ((lyG Y c e).2.2.2.2.1 (llN (Y.2.2.2.2.2.2.1 p ||| Y.2.2.2.2.2.2.1 q) + 1) - (lyG Y c e).2.2.2.2.1 (llN (Y.2.2.2.2.2.2.1 p ||| Y.2.2.2.2.2.2.1 q))) ((lyG Y c e).2.2.2.2.1 (llN (Y.2.2.2.2.2.2.1 p ||| Y.2.2.2.2.2.2.1 q))) 0 f).2.1 ||| (exK (lyG Y c e) (Y.2.2.2.2.2.2.1 p) (Y.2.2.2.2.2.2.1 q) (Y.2.2.2.2.2.2.1 p ||| Y.2.2.2.2.2.2.1 q) w ((lyG Y c e).2.2.2.2.1 (llN (Y.2.2.2.2.2.2.1 p ||| Y.2.2.2.2.2.2.1 q) + 1) - (lyG Y c e).2.2.2.2.1 (llN (Y.2.2.2.2.2.2.1 p ||| Y.2.2.2.2.2.2.1 q))) ((lyG Y c e).2.2.2.2.1 (llN (Y.2.2.2.2.2.2.1 p ||| Y.2.2.2.2.2.2.1 q))) 0 f).2.2) = lN 0) (hl3 : llN ((exK (lyG Y c e) (Y.2.2.2.2.2.2.1 p) (Y.2.2.2.2.2.2.1 q) (Y.2.2.2.2.2.2.1 p ||| Y.2.2.2.2.2.2.1 q) w ((lyG Y c e).2.2.2.2.1 (llN (Y.2.2.2.2.2.2.1 p ||| Y.2.2.2.2.2.2.1 q) + 1) - (lyG Y c e).2.2.2.2.1 (llN (Y.2.2.2.2.2.2.1 p ||| Y.2.2.2.2.2.2.1 q))) ((lyG Y c e).2.2.2.2.1 (llN (Y.2.2.2.2.2.2.1 p ||| Y.2.2.2.2.2.2.1 q))) 0 f).2.1 ||| (exK (lyG Y c e) (Y.2.2.2.2.2.2.1 p) (Y.2.2.2.2.2.2.1 q) (Y.2.2.2.2.2.2.1 p ||| Y.2.2.2.2.2.2.1 q) w ((lyG Y c e).2.2.2.2.1 (llN (Y.2.2.2.2.2.2.1 p ||| Y.2.2.2.2.2.2.1 q) + 1) - (lyG Y c e).2.2.2.2.1 (llN (Y.2.2.2.2.2.2.1 p ||| Y.2.2.2.2.2.2.1 q))) ((lyG Y c e).2.2.2.2.1 (llN (Y.2.2.2.2.2.2.1 p ||| Y.2.2.2.2.2.2.1 q))) 0 f).2.2) + 1 < 57) (hl4 : ∀ s : Int64, ¬ ((exK (lyG Y c e) (Y.2.2.2.2.2.2.1 p) (Y.2.2.2.2.2.2.1 q) (Y.2.2.2.2.2.2.1 p ||| Y.2.2.2.2.2.2.1 q) w ((lyG Y c e).2.2.2.2.1 (llN (Y.2.2.2.2.2.2.1 p ||| Y.2.2.2.2.2.2.1 q) + 1) - (lyG Y c e).2.2.2.2.1 (llN (Y.2.2.2.2.2.2.1 p ||| Y.2.2.2.2.2.2.1 q))) ((lyG Y c e).2.2.2.2.1 (llN (Y.2.2.2.2.2.2.1 p ||| Y.2.2.2.2.2.2.1 q))) 0 f).2.1 ||| (exK (lyG Y c e) (Y.2.2.2.2.2.2.1 p) (Y.2.2.2.2.2.2.1 q) (Y.2.2.2.2.2.2.1 p ||| Y.2.2.2.2.2.2.1 q) w ((lyG Y c e).2.2.2.2.1 (llN (Y.2.2.2.2.2.2.1 p ||| Y.2.2.2.2.2.2.1 q) + 1) - (lyG Y c e).2.2.2.2.1 (llN (Y.2.2.2.2.2.2.1 p ||| Y.2.2.2.2.2.2.1 q))) ((lyG Y c e).2.2.2.2.1 (llN (Y.2.2.2.2.2.2.1 p ||| Y.2.2.2.2.2.2.1 q))) 0 f).2.2) &&& s = lN 0 → llN (((exK (lyG Y c e) (Y.2.2.2.2.2.2.1 p) (Y.2.2.2.2.2.2.1 q) (Y.2.2.2.2.2.2.1 p ||| Y.2.2.2.2.2.2.1 q) w ((lyG Y c e).2.2.2.2.1 (llN (Y.2.2.2.2.2.2.1 p ||| Y.2.2.2.2.2.2.1 q) + 1) - (lyG Y c e).2.2.2.2.1 (llN (Y.2.2.2.2.2.2.1 p ||| Y.2.2.2.2.2.2.1 q))) ((lyG Y c e).2.2.2.2.1 (llN (Y.2.2.2.2.2.2.1 p ||| Y.2.2.2.2.2.2.1 q))) 0 f).2.1 ||| (exK (lyG Y c e) (Y.2.2.2.2.2.2.1 p) (Y.2.2.2.2.2.2.1 q) (Y.2.2.2.2.2.2.1 p ||| Y.2.2.2.2.2.2.1 q) w ((lyG Y c e).2.2.2.2.1 (llN (Y.2.2.2.2.2.2.1 p ||| Y.2.2.2.2.2.2.1 q) + 1) - (lyG Y c e).2.2.2.2.1 (llN (Y.2.2.2.2.2.2.1 p ||| Y.2.2.2.2.2.2.1 q))) ((lyG Y c e).2.2.2.2.1 (llN (Y.2.2.2.2.2.2.1 p ||| Y.2.2.2.2.2.2.1 q))) 0 f).2.2) &&& s) + 1 < 57) : pnCt mX7_exchange adK (d + 22) (lyM Y c e) (lyN Y c e) [.ref 0, .int (nI p), .int (nI q), .int w] (hM Y P a b c e f g h) (pnIs (.inl (some (.int (nI (exK (lyG Y c e) (exK (lyG Y c e) (Y.2.2.2.2.2.2.1 p) (Y.2.2.2.2.2.2.1 q) (Y.2.2.2.2.2.2.1 p ||| Y.2.2.2.2.2.2.1 q) w ((lyG Y c e).2.2.2.2.1 (llN (Y.2.2.2.2.2.2.1 p ||| Y.2.2.2.2.2.2.1 q) + 1) - (lyG Y c e).2.2.2.2.1 (llN (Y.2.2.2.2.2.2.1 p ||| Y.2.2.2.2.2.2.1 q))) ((lyG Y c e).2.2.2.2.1 (llN (Y.2.2.2.2.2.2.1 p ||| Y.2.2.2.2.2.2.1 q))) 0 f).2.1 (exK (lyG Y c e) (Y.2.2.2.2.2.2.1 p) (Y.2.2.2.2.2.2.1 q) (Y.2.2.2.2.2.2.1 p ||| Y.2.2.2.2.2.2.1 q) w ((lyG Y c e).2.2.2.2.1 (llN (Y.2.2.2.2.2.2.1 p ||| Y.2.2.2.2.2.2.1 q) + 1) - (lyG Y c e).2.2.2.2.1 (llN (Y.2.2.2.2.2.2.1 p ||| Y.2.2.2.2.2.2.1 q))) ((lyG Y c e).2.2.2.2.1 (llN (Y.2.2.2.2.2.2.1 p ||| Y.2.2.2.2.2.2.1 q))) 0 f).2.2 ((exK (lyG Y c e) (Y.2.2.2.2.2.2.1 p) (Y.2.2.2.2.2.2.1 q) (Y.2.2.2.2.2.2.1 p ||| Y.2.2.2.2.2.2.1 q) w ((lyG Y c e).2.2.2.2.1 (llN (Y.2.2.2.2.2.2.1 p ||| Y.2.2.2.2.2.2.1 q) + 1) - (lyG Y c e).2.2.2.2.1 (llN (Y.2.2.2.2.2.2.1 p ||| Y.2.2.2.2.2.2.1 q))) ((lyG Y c e).2.2.2.2.1 (llN (Y.2.2.2.2.2.2.1 p ||| Y.2.2.2.2.2.2.1 q))) 0 f).2.1 ||| (exK (lyG Y c e) (Y.2.2.2.2.2.2.1 p) (Y.2.2.2.2.2.2.1 q) (Y.2.2.2.2.2.2.1 p ||| Y.2.2.2.2.2.2.1 q) w ((lyG Y c e).2.2.2.2.1 (llN (Y.2.2.2.2.2.2.1 p ||| Y.2.2.2.2.2.2.1 q) + 1) - (lyG Y c e).2.2.2.2.1 (llN (Y.2.2.2.2.2.2.1 p ||| Y.2.2.2.2.2.2.1 q))) ((lyG Y c e).2.2.2.2.1 (llN (Y.2.2.2.2.2.2.1 p ||| Y.2.2.2.2.2.2.1 q))) 0 f).2.2) (-1) ((lyG Y c e).2.2.2.2.1 (llN ((exK (lyG Y c e) (Y.2.2.2.2.2.2.1 p) (Y.2.2.2.2.2.2.1 q) (Y.2.2.2.2.2.2.1 p ||| Y.2.2.2.2.2.2.1 q) w ((lyG Y c e).2.2.2.2.1 (llN (Y.2.2.2.2.2.2.1 p ||| Y.2.2.2.2.2.2.1 q) + 1) - (lyG Y c e).2.2.2.2.1 (llN (Y.2.2.2.2.2.2.1 p ||| Y.2.2.2.2.2.2.1 q))) ((lyG Y c e).2.2.2.2.1 (llN (Y.2.2.2.2.2.2.1 p ||| Y.2.2.2.2.2.2.1 q))) 0 f).2.1 ||| (exK (lyG Y c e) (Y.2.2.2.2.2.2.1 p) (Y.2.2.2.2.2.2.1 q) (Y.2.2.2.2.2.2.1 p ||| Y.2.2.2.2.2.2.1 q) w ((lyG Y c e).2.2.2.2.1 (llN (Y.2.2.2.2.2.2.1 p ||| Y.2.2.2.2.2.2.1 q) + 1) - (lyG Y c e).2.2.2.2.1 (llN (Y.2.2.2.2.2.2.1 p ||| Y.2.2.2.2.2.2.1 q))) ((lyG Y c e).2.2.2.2.1 (llN (Y.2.2.2.2.2.2.1 p ||| Y.2.2.2.2.2.2.1 q))) 0 f).2.2) + 1) - (lyG Y c e).2.2.2.2.1 (llN ((exK (lyG Y c e) (Y.2.2.2.2.2.2.1 p) (Y.2.2.2.2.2.2.1 q) (Y.2.2.2.2.2.2.1 p ||| Y.2.2.2.2.2.2.1 q) w ((lyG Y c e).2.2.2.2.1 (llN (Y.2.2.2.2.2.2.1 p ||| Y.2.2.2.2.2.2.1 q) + 1) - (lyG Y c e).2.2.2.2.1 (llN (Y.2.2.2.2.2.2.1 p ||| Y.2.2.2.2.2.2.1 q))) ((lyG Y c e).2.2.2.2.1 (llN (Y.2.2.2.2.2.2.1 p ||| Y.2.2.2.2.2.2.1 q))) 0 f).2.1 ||| (exK (lyG Y c e) (Y.2.2.2.2.2.2.1 p) (Y.2.2.2.2.2.2.1 q) (Y.2.2.2.2.2.2.1 p ||| Y.2.2.2.2.2.2.1 q) w ((lyG Y c e).2.2.2.2.1 (llN (Y.2.2.2.2.2.2.1 p ||| Y.2.2.2.2.2.2.1 q) + 1) - (lyG Y c e).2.2.2.2.1 (llN (Y.2.2.2.2.2.2.1 p ||| Y.2.2.2.2.2.2.1 q))) ((lyG Y c e).2.2.2.2.1 (llN (Y.2.2.2.2.2.2.1 p ||| Y.2.2.2.2.2.2.1 q))) 0 f).2.2))) ((lyG Y c e).2.2.2.2.1 (llN ((exK (lyG Y c e) (Y.2.2.2.2.2.2.1 p) (Y.2.2.2.2.2.2.1 q) (Y.2.2.2.2.2.2.1 p ||| Y.2.2.2.2.2.2.1 q) w ((lyG Y c e).2.2.2.2.1 (llN (Y.2.2.2.2.2.2.1 p ||| Y.2.2.2.2.2.2.1 q) + 1) - (lyG Y c e).2.2.2.2.1 (llN (Y.2.2.2.2.2.2.1 p ||| Y.2.2.2.2.2.2.1 q))) ((lyG Y c e).2.2.2.2.1 (llN (Y.2.2.2.2.2.2.1 p ||| Y.2.2.2.2.2.2.1 q))) 0 f).2.1 ||| (exK (lyG Y c e) (Y.2.2.2.2.2.2.1 p) (Y.2.2.2.2.2.2.1 q) (Y.2.2.2.2.2.2.1 p ||| Y.2.2.2.2.2.2.1 q) w ((lyG Y c e).2.2.2.2.1 (llN (Y.2.2.2.2.2.2.1 p ||| Y.2.2.2.2.2.2.1 q) + 1) - (lyG Y c e).2.2.2.2.1 (llN (Y.2.2.2.2.2.2.1 p ||| Y.2.2.2.2.2.2.1 q))) ((lyG Y c e).2.2.2.2.1 (llN (Y.2.2.2.2.2.2.1 p ||| Y.2.2.2.2.2.2.1 q))) 0 f).2.2))) 0 (exK (lyG Y c e) (Y.2.2.2.2.2.2.1 p) (Y.2.2.2.2.2.2.1 q) (Y.2.2.2.2.2.2.1 p ||| Y.2.2.2.2.2.2.1 q) w ((lyG Y c e).2.2.2.2.1 (llN (Y.2.2.2.2.2.2.1 p ||| Y.2.2.2.2.2.2.1 q) + 1) - (lyG Y c e).2.2.2.2.1 (llN (Y.2.2.2.2.2.2.1 p ||| Y.2.2.2.2.2.2.1 q))) ((lyG Y c e).2.2.2.2.1 (llN (Y.2.2.2.2.2.2.1 p ||| Y.2.2.2.2.2.2.1 q))) 0 f).2).1)))) (hM (yP Y Y.2.2.2.2.1 (vp_updL (vp_updL Y.2.2.2.2.2.2.1 p (exK (lyG Y c e) (Y.2.2.2.2.2.2.1 p) (Y.2.2.2.2.2.2.1 q) (Y.2.2.2.2.2.2.1 p ||| Y.2.2.2.2.2.2.1 q) w ((lyG Y c e).2.2.2.2.1 (llN (Y.2.2.2.2.2.2.1 p ||| Y.2.2.2.2.2.2.1 q) + 1) - (lyG Y c e).2.2.2.2.1 (llN (Y.2.2.2.2.2.2.1 p ||| Y.2.2.2.2.2.2.1 q))) ((lyG Y c e).2.2.2.2.1 (llN (Y.2.2.2.2.2.2.1 p ||| Y.2.2.2.2.2.2.1 q))) 0 f).2.1) q (exK (lyG Y c e) (Y.2.2.2.2.2.2.1 p) (Y.2.2.2.2.2.2.1 q) (Y.2.2.2.2.2.2.1 p ||| Y.2.2.2.2.2.2.1 q) w ((lyG Y c e).2.2.2.2.1 (llN (Y.2.2.2.2.2.2.1 p ||| Y.2.2.2.2.2.2.1 q) + 1) - (lyG Y c e).2.2.2.2.1 (llN (Y.2.2.2.2.2.2.1 p ||| Y.2.2.2.2.2.2.1 q))) ((lyG Y c e).2.2.2.2.1 (llN (Y.2.2.2.2.2.2.1 p ||| Y.2.2.2.2.2.2.1 q))) 0 f).2.2)) (keP P Y a.2.2.2.2) (keB ((0, a.2) : G0)) b (lyC Y c e) (lyG Y c e) (exK (lyG Y c e) (exK (lyG Y c e) (Y.2.2.2.2.2.2.1 p) (Y.2.2.2.2.2.2.1 q) (Y.2.2.2.2.2.2.1 p ||| Y.2.2.2.2.2.2.1 q) w ((lyG Y c e).2.2.2.2.1 (llN (Y.2.2.2.2.2.2.1 p ||| Y.2.2.2.2.2.2.1 q) + 1) - (lyG Y c e).2.2.2.2.1 (llN (Y.2.2.2.2.2.2.1 p ||| Y.2.2.2.2.2.2.1 q))) ((lyG Y c e).2.2.2.2.1 (llN (Y.2.2.2.2.2.2.1 p ||| Y.2.2.2.2.2.2.1 q))) 0 f).2.1 (exK (lyG Y c e) (Y.2.2.2.2.2.2.1 p) (Y.2.2.2.2.2.2.1 q) (Y.2.2.2.2.2.2.1 p ||| Y.2.2.2.2.2.2.1 q) w ((lyG Y c e).2.2.2.2.1 (llN (Y.2.2.2.2.2.2.1 p ||| Y.2.2.2.2.2.2.1 q) + 1) - (lyG Y c e).2.2.2.2.1 (llN (Y.2.2.2.2.2.2.1 p ||| Y.2.2.2.2.2.2.1 q))) ((lyG Y c e).2.2.2.2.1 (llN (Y.2.2.2.2.2.2.1 p ||| Y.2.2.2.2.2.2.1 q))) 0 f).2.2 ((exK (lyG Y c e) (Y.2.2.2.2.2.2.1 p) (Y.2.2.2.2.2.2.1 q) (Y.2.2.2.2.2.2.1 p ||| Y.2.2.2.2.2.2.1 q) w ((lyG Y c e).2.2.2.2.1 (llN (Y.2.2.2.2.2.2.1 p ||| Y.2.2.2.2.2.2.1 q) + 1) - (lyG Y c e).2.2.2.2.1 (llN (Y.2.2.2.2.2.2.1 p ||| Y.2.2.2.2.2.2.1 q))) ((lyG Y c e).2.2.2.2.1 (llN (Y.2.2.2.2.2.2.1 p ||| Y.2.2.2.2.2.2.1 q))) 0 f).2.1 ||| (exK (lyG Y c e) (Y.2.2.2.2.2.2.1 p) (Y.2.2.2.2.2.2.1 q) (Y.2.2.2.2.2.2.1 p ||| Y.2.2.2.2.2.2.1 q) w ((lyG Y c e).2.2.2.2.1 (llN (Y.2.2.2.2.2.2.1 p ||| Y.2.2.2.2.2.2.1 q) + 1) - (lyG Y c e).2.2.2.2.1 (llN (Y.2.2.2.2.2.2.1 p ||| Y.2.2.2.2.2.2.1 q))) ((lyG Y c e).2.2.2.2.1 (llN (Y.2.2.2.2.2.2.1 p ||| Y.2.2.2.2.2.2.1 q))) 0 f).2.2) (-1) ((lyG Y c e).2.2.2.2.1 (llN ((exK (lyG Y c e) (Y.2.2.2.2.2.2.1 p) (Y.2.2.2.2.2.2.1 q) (Y.2.2.2.2.2.2.1 p ||| Y.2.2.2.2.2.2.1 q) w ((lyG Y c e).2.2.2.2.1 (llN (Y.2.2.2.2.2.2.1 p ||| Y.2.2.2.2.2.2.1 q) + 1) - (lyG Y c e).2.2.2.2.1 (llN (Y.2.2.2.2.2.2.1 p ||| Y.2.2.2.2.2.2.1 q))) ((lyG Y c e).2.2.2.2.1 (llN (Y.2.2.2.2.2.2.1 p ||| Y.2.2.2.2.2.2.1 q))) 0 f).2.1 ||| (exK (lyG Y c e) (Y.2.2.2.2.2.2.1 p) (Y.2.2.2.2.2.2.1 q) (Y.2.2.2.2.2.2.1 p ||| Y.2.2.2.2.2.2.1 q) w ((lyG Y c e).2.2.2.2.1 (llN (Y.2.2.2.2.2.2.1 p ||| Y.2.2.2.2.2.2.1 q) + 1) - (lyG Y c e).2.2.2.2.1 (llN (Y.2.2.2.2.2.2.1 p ||| Y.2.2.2.2.2.2.1 q))) ((lyG Y c e).2.2.2.2.1 (llN (Y.2.2.2.2.2.2.1 p ||| Y.2.2.2.2.2.2.1 q))) 0 f).2.2) + 1) - (lyG Y c e).2.2.2.2.1 (llN ((exK (lyG Y c e) (Y.2.2.2.2.2.2.1 p) (Y.2.2.2.2.2.2.1 q) (Y.2.2.2.2.2.2.1 p ||| Y.2.2.2.2.2.2.1 q) w ((lyG Y c e).2.2.2.2.1 (llN (Y.2.2.2.2.2.2.1 p ||| Y.2.2.2.2.2.2.1 q) + 1) - (lyG Y c e).2.2.2.2.1 (llN (Y.2.2.2.2.2.2.1 p ||| Y.2.2.2.2.2.2.1 q))) ((lyG Y c e).2.2.2.2.1 (llN (Y.2.2.2.2.2.2.1 p ||| Y.2.2.2.2.2.2.1 q))) 0 f).2.1 ||| (exK (lyG Y c e) (Y.2.2.2.2.2.2.1 p) (Y.2.2.2.2.2.2.1 q) (Y.2.2.2.2.2.2.1 p ||| Y.2.2.2.2.2.2.1 q) w ((lyG Y c e).2.2.2.2.1 (llN (Y.2.2.2.2.2.2.1 p ||| Y.2.2.2.2.2.2.1 q) + 1) - (lyG Y c e).2.2.2.2.1 (llN (Y.2.2.2.2.2.2.1 p ||| Y.2.2.2.2.2.2.1 q))) ((lyG Y c e).2.2.2.2.1 (llN (Y.2.2.2.2.2.2.1 p ||| Y.2.2.2.2.2.2.1 q))) 0 f).2.2))) ((lyG Y c e).2.2.2.2.1 (llN ((exK (lyG Y c e) (Y.2.2.2.2.2.2.1 p) (Y.2.2.2.2.2.2.1 q) (Y.2.2.2.2.2.2.1 p ||| Y.2.2.2.2.2.2.1 q) w ((lyG Y c e).2.2.2.2.1 (llN (Y.2.2.2.2.2.2.1 p ||| Y.2.2.2.2.2.2.1 q) + 1) - (lyG Y c e).2.2.2.2.1 (llN (Y.2.2.2.2.2.2.1 p ||| Y.2.2.2.2.2.2.1 q))) ((lyG Y c e).2.2.2.2.1 (llN (Y.2.2.2.2.2.2.1 p ||| Y.2.2.2.2.2.2.1 q))) 0 f).2.1 ||| (exK (lyG Y c e) (Y.2.2.2.2.2.2.1 p) (Y.2.2.2.2.2.2.1 q) (Y.2.2.2.2.2.2.1 p ||| Y.2.2.2.2.2.2.1 q) w ((lyG Y c e).2.2.2.2.1 (llN (Y.2.2.2.2.2.2.1 p ||| Y.2.2.2.2.2.2.1 q) + 1) - (lyG Y c e).2.2.2.2.1 (llN (Y.2.2.2.2.2.2.1 p ||| Y.2.2.2.2.2.2.1 q))) ((lyG Y c e).2.2.2.2.1 (llN (Y.2.2.2.2.2.2.1 p ||| Y.2.2.2.2.2.2.1 q))) 0 f).2.2))) 0 (exK (lyG Y c e) (Y.2.2.2.2.2.2.1 p) (Y.2.2.2.2.2.2.1 q) (Y.2.2.2.2.2.2.1 p ||| Y.2.2.2.2.2.2.1 q) w ((lyG Y c e).2.2.2.2.1 (llN (Y.2.2.2.2.2.2.1 p ||| Y.2.2.2.2.2.2.1 q) + 1) - (lyG Y c e).2.2.2.2.1 (llN (Y.2.2.2.2.2.2.1 p ||| Y.2.2.2.2.2.2.1 q))) ((lyG Y c e).2.2.2.2.1 (llN (Y.2.2.2.2.2.2.1 p ||| Y.2.2.2.2.2.2.1 q))) 0 f).2).2 g h)) := by
  refine pnCt_of (by decide) kX7_exchange (Nat.le_of_ble_eq_true rfl) rfl hM_cl (pnCS_b rfl) ?_
  refine m_exchangeH adK d Y P a b c e f g h p q w hpc hp hq hpq ?_
  have CE := m_exchangesOf adK d Y P (0, a.2) b c e f g h hp9 hO p q w (by omega) (by omega) hv hl hl2
  have hQ := lyQ_G Y c e
  generalize (exK (lyG Y c e) (Y.2.2.2.2.2.2.1 p) (Y.2.2.2.2.2.2.1 q) (Y.2.2.2.2.2.2.1 p ||| Y.2.2.2.2.2.2.1 q) w ((lyG Y c e).2.2.2.2.1 (llN (Y.2.2.2.2.2.2.1 p ||| Y.2.2.2.2.2.2.1 q) + 1) - (lyG Y c e).2.2.2.2.1 (llN (Y.2.2.2.2.2.2.1 p ||| Y.2.2.2.2.2.2.1 q))) ((lyG Y c e).2.2.2.2.1 (llN (Y.2.2.2.2.2.2.1 p ||| Y.2.2.2.2.2.2.1 q))) 0 f) = R at *
  generalize (lyG Y c e) = e1 at *
  generalize (lyC Y c e) = c1 at *
  have C0 := m_in adK d w.toInt64 (lN 0) ((nI R.1 - nI 1).toInt64)
  rw [inL_sub2 hn, hw] at C0
  have CR := m_remembers adK d Y P (0, a.2) b c1 e1 R.2 g h ha
  obtain ⟨Z, hZ⟩ : ∃ Z : MN, Z = yP Y Y.2.2.2.2.1 (vp_updL (vp_updL Y.2.2.2.2.2.2.1 p R.2.1) q R.2.2) := ⟨_, rfl⟩
  have hQZ : lyQ Z e1 = true := by rw [hZ]; exact hQ
  have zp : Z.2.2.2.2.2.2.1 p = R.2.1 := by
    rw [hZ]
    show (if p = q then R.2.2 else if p = p then R.2.1 else _) = R.2.1
    rw [if_neg hpq, if_pos rfl]
  have zq : Z.2.2.2.2.2.2.1 q = R.2.2 := by
    rw [hZ]
    exact if_pos rfl
  have hG : lyG Z c1 e1 = e1 := if_pos hQZ
  have hC : lyC Z c1 e1 = c1 := if_pos hQZ
  have hM0 : lyM Z c1 e1 = 0 := if_pos hQZ
  have hN0 : lyN Z c1 e1 = 0 := if_pos hQZ
  have CE2 := m_exchangesOf adK d Z (keP P Y a.2.2.2.2) (keB ((0, a.2) : G0)) b c1 e1 R.2 g h (fun z => by rw [hQZ] at z; cases z) (by rw [hG]; exact hO) p q (-1) (by omega) (by omega) (by rw [zp, zq]; exact hv2) (by rw [zp, zq]; exact hl3) (by rw [zp, zq]; exact hl4)
  rw [hG, hC, hM0, hN0, zp, zq] at CE2
  rw [← hZ]
  have e1p : vp_updL (nowF Y) (30 + p) R.2.1 = nowF (yP Y Y.2.2.2.2.1 (vp_updL Y.2.2.2.2.2.2.1 p R.2.1)) := nowF_ps Y p R.2.1
  have e1q : vp_updL (nowF (yP Y Y.2.2.2.2.1 (vp_updL Y.2.2.2.2.2.2.1 p R.2.1))) (30 + q) R.2.2 = nowF Z := by rw [hZ]; exact nowF_ps _ q R.2.2
  refine pn_aload_n (q := 57) dX7_exchange_56 rfl rfl rfl ?_
  refine pn_iload_n (q := 58) dX7_exchange_57 rfl rfl ?_
  refine pn_iload_n (q := 59) dX7_exchange_58 rfl rfl ?_
  refine pn_iload_n (q := 60) dX7_exchange_59 rfl rfl ?_
  refine pn_idV (q := 63) (bc9 := 0) (bs9 := 0) (CE) lkX7_288 dX7_exchange_60 rfl rfl (hM_cl) (hM_cl) (Nat.le_of_ble_eq_true rfl) rfl rfl rfl rfl rfl rfl (by omega) (by omega) (by omega) (Nat.le_of_ble_eq_true rfl) ?_
  refine pn_istore (q := 65) dX7_exchange_63 rfl (by decide) ?_
  refine pn_aload_n (q := 66) dX7_exchange_65 rfl rfl rfl ?_
  refine pn_iload_n (q := 67) dX7_exchange_66 rfl rfl ?_
  refine pn_i2l (q := 68) dX7_exchange_67 rfl ?_
  refine pn_lconst (q := 69) (v := lN 0) dX7_exchange_68 rfl (by decide) ?_
  refine pn_iload (q := 71) dX7_exchange_69 rfl rfl ?_
  refine pn_iconst (q := 72) (v := nI 1) dX7_exchange_71 rfl (by decide) ?_
  refine pn_isub (q := 73) dX7_exchange_72 rfl ?_
  refine pn_i2l (q := 74) dX7_exchange_73 rfl ?_
  refine pn_roS1 (q := 77) (C0) lkX7_92 dX7_exchange_74 rfl rfl (pnSel_of (I := []) rfl rfl) (pnFree_none rfl) rfl (by omega) (Nat.le_of_ble_eq_true rfl) rfl ?_
  refine pn_bne (q := 80) (tgt := 84) dX7_exchange_77 (by decide) rfl (fun hc77 => ?_) (fun hc77 => ?_)
  · refine pn_iconst (q := 85) (v := nB false) dX7_exchange_84 rfl (by decide) ?_
    refine pn_iconst (q := 86) (v := nI 1) dX7_exchange_85 rfl (by decide) ?_
    refine pn_iconst (q := 87) (v := nI 0) dX7_exchange_86 rfl (by decide) ?_
    refine pn_idV (q := 90) (bc9 := 0) (bs9 := 0) (m_badF adK d Y P (0, a.2) b c1 e1 R.2 g h 1 0 rfl) lkX7_206 dX7_exchange_87 rfl rfl (hM_cl) (hM_cl) (Nat.le_of_ble_eq_true rfl) rfl rfl rfl rfl rfl rfl (by omega) (by omega) (by omega) (Nat.le_of_ble_eq_true rfl) ?_
    refine pn_beq (q := 93) (tgt := 95) dX7_exchange_90 (by decide) rfl (fun hc90 => ?_) (fun hc90 => ?_)
    · refine pn_aload_n (q := 96) dX7_exchange_95 rfl rfl rfl ?_
      refine pn_idV (q := 99) (bc9 := 0) (bs9 := 0) (CR) lkX7_218 dX7_exchange_96 rfl rfl (hM_cl) (hM_cl) (Nat.le_of_ble_eq_true rfl) rfl rfl rfl rfl rfl rfl (by omega) (by omega) (by omega) (Nat.le_of_ble_eq_true rfl) ?_
      refine pn_aload_n (q := 100) dX7_exchange_99 rfl rfl rfl ?_
      refine pn_get (q := 103) fX7_20 dX7_exchange_100 rfl rfl rfl ?_
      refine pn_bipush (q := 105) (v := nI 30) dX7_exchange_103 rfl (by decide) ?_
      refine pn_iload_n (q := 106) dX7_exchange_105 rfl rfl ?_
      first | with_reducible refine pn_iaddN (q := 107) dX7_exchange_106 rfl ?_ | refine pn_iadd (q := 107) dX7_exchange_106 rfl ?_
      refine pn_aload_n (q := 108) dX7_exchange_107 rfl rfl rfl ?_
      refine pn_get (q := 111) fX7_282 dX7_exchange_108 rfl rfl rfl ?_
      refine pn_last1 (q := 112) dX7_exchange_111 rfl rfl rfl (by omega) (by decide) ?_; refine pn_eq (h' := hM (yP Y Y.2.2.2.2.1 (vp_updL Y.2.2.2.2.2.2.1 p R.2.1)) (keP P Y a.2.2.2.2) (keB ((0, a.2) : G0)) b c1 e1 R.2 g h) (st' := _) (by rw [e1p]; rfl) rfl ?_
      refine pn_aload_n (q := 113) dX7_exchange_112 rfl rfl rfl ?_
      refine pn_get (q := 116) fX7_20 dX7_exchange_113 rfl rfl rfl ?_
      refine pn_bipush (q := 118) (v := nI 30) dX7_exchange_116 rfl (by decide) ?_
      refine pn_iload_n (q := 119) dX7_exchange_118 rfl rfl ?_
      first | with_reducible refine pn_iaddN (q := 120) dX7_exchange_119 rfl ?_ | refine pn_iadd (q := 120) dX7_exchange_119 rfl ?_
      refine pn_aload_n (q := 121) dX7_exchange_120 rfl rfl rfl ?_
      refine pn_get (q := 124) fX7_285 dX7_exchange_121 rfl rfl rfl ?_
      refine pn_last1 (q := 125) dX7_exchange_124 rfl rfl rfl (by omega) (by decide) ?_; refine pn_eq (h' := hM Z (keP P Y a.2.2.2.2) (keB ((0, a.2) : G0)) b c1 e1 R.2 g h) (st' := _) (by rw [e1q]; rfl) rfl ?_
      refine pn_aload_n (q := 126) dX7_exchange_125 rfl rfl rfl ?_
      refine pn_iload_n (q := 127) dX7_exchange_126 rfl rfl ?_
      refine pn_iload_n (q := 128) dX7_exchange_127 rfl rfl ?_
      refine pn_iconst (q := 129) (v := (-1)) dX7_exchange_128 rfl (by decide) ?_
      refine pn_idV (q := 132) (bc9 := 0) (bs9 := 0) (CE2) lkX7_288 dX7_exchange_129 rfl rfl (hM_cl) (hM_cl) (Nat.le_of_ble_eq_true rfl) rfl rfl rfl rfl rfl rfl (by omega) (by omega) (by omega) (Nat.le_of_ble_eq_true rfl) ?_
      refine pn_iret dX7_exchange_132 rfl ?_
      exact ⟨rfl, rfl⟩
    · cases hc90
  · cases hc77
