/-! parts and bases, as the reference reads them -/
abbrev bPl (b : G1) (pn : Nat → Int32) (pl : Nat → Nat) (pm : Nat) : G1 := (b.1, b.2.1, b.2.2.1, b.2.2.2.1, b.2.2.2.2.1, b.2.2.2.2.2.1, pn, pl, pm, b.2.2.2.2.2.2.2.2.2)
def pnM2 (F : Nat → Int32) (pm : Nat) (x : Nat → Int32) : Nat → Nat → Int32
  | 0 => F
  | i + 1 => upd (pnM2 F pm x i) (5 * pm + i) (x i)
def prA (r : G1 × G3) : G1 := bPl r.1 (pnM2 r.1.2.2.2.2.2.2.1 r.1.2.2.2.2.2.2.2.2.1 r.2.1 r.2.2) (updN r.1.2.2.2.2.2.2.2.1 r.1.2.2.2.2.2.2.2.2.1 r.2.2) (r.1.2.2.2.2.2.2.2.2.1 + 1)
def prM (n : Nat) (b : G1) (c : G3) : G1 × G3 := if (rnM (n - 1) 6 b (c.1, 0)).1.2.2.1 = 0 then (prA (rnM (n - 1) 6 b (c.1, 0)), (rnM (n - 1) 6 b (c.1, 0)).2) else rnM (n - 1) 6 b (c.1, 0)
set_option maxRecDepth 100000 in
theorem m_readsPart (adK : Nat → Nat) (d : Nat) (Y : MN) (P : Nat → MN) (a : G0) (b : G1) (c : G3) (e : G4) (f : G5) (g : G6) (h : G7) (n : Nat) (hT : b.2.2.2.2.2.1 0 = lN n) (hn : n ≤ 11) (hn1 : 1 ≤ n) (hb : rdOk b) (hf4 : b.2.2.1 ≤ 4) (hpm : b.2.2.2.2.2.2.2.2.1 < 300) : pnCt mX7_readsPart adK (d + 4) 0 0 [.ref 0] (hM Y P a b c e f g h) (pnIs (.inl none) (hM Y P a (prM n b c).1 (prM n b c).2 e f g h)) := by
  refine pnCt_of (by decide) kX7_readsPart (Nat.le_of_ble_eq_true rfl) rfl hM_cl (pnCS_b rfl) ?_
  have CR := m_readsNodes adK d Y P a b c e f g h (n - 1) (by omega) hb hf4
  obtain ⟨k1, k2, k3, k4, k5⟩ := rn_keep (most := n - 1) 6 b (c.1, 0) hb hf4 rfl (by show 0 ≤ 5; omega)
  unfold prM
  generalize rnM (n - 1) 6 b (c.1, 0) = r at *
  have CF := m_fine adK (d + 3) Y P a r.1 r.2 e f g h k4
  have epm : r.1.2.2.2.2.2.2.2.2.1 = b.2.2.2.2.2.2.2.2.1 := by rw [k2]
  by_cases hr : r.1.2.2.1 = 0
  · rw [decide_eq_true hr] at CF
    rw [if_pos hr]
    have loop : ∀ (z i : Nat), i + z = r.2.2 → pnWP mX7_readsPart adK (d + 4) (pnIs (.inl none) (hM Y P a (prA r) r.2 e f g h)) 0 0 (hM Y P a (bPl r.1 (pnM2 r.1.2.2.2.2.2.2.1 r.1.2.2.2.2.2.2.2.2.1 r.2.1 i) (updN r.1.2.2.2.2.2.2.2.1 r.1.2.2.2.2.2.2.2.2.1 r.2.2) r.1.2.2.2.2.2.2.2.2.1) r.2 e f g h) [some (.ref 0), some (.int (nI i))] [] 36 := by
      intro z
      induction z with
      | zero =>
        intro i hi
        have hii : i = r.2.2 := by omega
        subst hii
        refine pn_iload_n (q := 37) dX7_readsPart_36 rfl rfl ?_
        refine pn_aload_n (q := 38) dX7_readsPart_37 rfl rfl rfl ?_
        (refine pn_get (q := 41) fX7_85 dX7_readsPart_38 rfl rfl rfl ?_)
        refine pn_eq (h' := _) (st' := .int (nI r.2.2) :: _) rfl rfl ?_
        first | refine pn_nge (q := 44) (tgt := 69) dX7_readsPart_41 (by decide) rfl (by omega) (by omega) (fun hc41 => ?_) (fun hc41 => ?_) | refine pn_icmp_ge (q := 44) (tgt := 69) dX7_readsPart_41 (by decide) rfl (fun hc41 => ?_) (fun hc41 => ?_)
        · refine pn_aload_n (q := 70) dX7_readsPart_69 rfl rfl rfl ?_
          refine pn_dup (q := 71) dX7_readsPart_70 rfl rfl ?_
          (refine pn_get (q := 74) fX7_173 dX7_readsPart_71 rfl rfl rfl ?_)
          refine pn_eq (h' := _) (st' := .int (nI r.1.2.2.2.2.2.2.2.2.1) :: _) rfl rfl ?_
          refine pn_iconst (q := 75) (v := nI 1) dX7_readsPart_74 rfl (by decide) ?_
          first | with_reducible refine pn_iaddN (q := 76) dX7_readsPart_75 rfl ?_ | refine pn_iadd (q := 76) dX7_readsPart_75 rfl ?_
          refine pn_put (q := 79) fX7_173 dX7_readsPart_76 rfl rfl (Nat.le_of_ble_eq_true rfl) (pnF_int _) ?_
          refine pn_vret dX7_readsPart_79 rfl ?_
          exact ⟨rfl, rfl⟩
        · omega
      | succ z ih =>
        intro i hi
        refine pn_iload_n (q := 37) dX7_readsPart_36 rfl rfl ?_
        refine pn_aload_n (q := 38) dX7_readsPart_37 rfl rfl rfl ?_
        (refine pn_get (q := 41) fX7_85 dX7_readsPart_38 rfl rfl rfl ?_)
        refine pn_eq (h' := _) (st' := .int (nI r.2.2) :: _) rfl rfl ?_
        first | refine pn_nge (q := 44) (tgt := 69) dX7_readsPart_41 (by decide) rfl (by omega) (by omega) (fun hc41 => ?_) (fun hc41 => ?_) | refine pn_icmp_ge (q := 44) (tgt := 69) dX7_readsPart_41 (by decide) rfl (fun hc41 => ?_) (fun hc41 => ?_)
        · omega
        · refine pn_aload_n (q := 45) dX7_readsPart_44 rfl rfl rfl ?_
          refine pn_get (q := 48) fX7_35 dX7_readsPart_45 rfl rfl rfl ?_
          refine pn_iconst (q := 49) (v := nI 5) dX7_readsPart_48 rfl (by decide) ?_
          refine pn_aload_n (q := 50) dX7_readsPart_49 rfl rfl rfl ?_
          (refine pn_get (q := 53) fX7_173 dX7_readsPart_50 rfl rfl rfl ?_)
          refine pn_eq (h' := _) (st' := .int (nI r.1.2.2.2.2.2.2.2.2.1) :: _) rfl rfl ?_
          first | with_reducible refine pn_imulN (q := 54) dX7_readsPart_53 rfl ?_ | refine pn_imul (q := 54) dX7_readsPart_53 rfl ?_
          refine pn_iload_n (q := 55) dX7_readsPart_54 rfl rfl ?_
          first | with_reducible refine pn_iaddN (q := 56) dX7_readsPart_55 rfl ?_ | refine pn_iadd (q := 56) dX7_readsPart_55 rfl ?_
          refine pn_aload_n (q := 57) dX7_readsPart_56 rfl rfl rfl ?_
          refine pn_get (q := 60) fX7_32 dX7_readsPart_57 rfl rfl rfl ?_
          refine pn_iload_n (q := 61) dX7_readsPart_60 rfl rfl ?_
          refine pn_iald (q := 62) dX7_readsPart_61 rfl rfl rfl (by omega) (by first | decide | omega) ?_
          refine pn_iast (q := 63) dX7_readsPart_62 rfl rfl rfl (by omega) (by first | decide | omega) ?_
          first | refine pn_iinc1 (q := 66) dX7_readsPart_63 rfl rfl (by decide) ?_ | refine pn_iinc (q := 66) (mm := 1) dX7_readsPart_63 rfl rfl (by decide) (by decide) ?_
          refine pn_goto (q := 36) dX7_readsPart_66 (by decide) ?_
          exact ih (i + 1) (by omega)
    refine pn_aload_n (q := 1) dX7_readsPart_0 rfl rfl rfl ?_
    refine pn_aload_n (q := 2) dX7_readsPart_1 rfl rfl rfl ?_
    refine pn_get (q := 5) fX7_24 dX7_readsPart_2 rfl rfl rfl ?_
    refine pn_iconst (q := 6) (v := nI 0) dX7_readsPart_5 rfl (by decide) ?_
    refine pn_lald1 (q := 7) dX7_readsPart_6 rfl rfl rfl (by omega) (by decide) ?_; rw [hT]
    first | with_reducible refine pn_l2iN (q := 8) dX7_readsPart_7 rfl ?_ | refine pn_l2i (q := 8) dX7_readsPart_7 rfl ?_
    refine pn_iconst (q := 9) (v := nI 1) dX7_readsPart_8 rfl (by decide) ?_
    first | with_reducible refine pn_isubN (q := 10) dX7_readsPart_9 rfl (by omega) ?_ | refine pn_isub (q := 10) dX7_readsPart_9 rfl ?_
    refine pn_idV (q := 13) (bc9 := 0) (bs9 := 0) (CR) lkX7_169 dX7_readsPart_10 rfl rfl (hM_cl) (hM_cl) (Nat.le_of_ble_eq_true rfl) rfl rfl rfl rfl rfl rfl (by omega) (by omega) (by omega) (Nat.le_of_ble_eq_true rfl) ?_
    refine pn_aload_n (q := 14) dX7_readsPart_13 rfl rfl rfl ?_
    refine pn_idV (q := 17) (bc9 := 0) (bs9 := 0) (CF) lkX7_116 dX7_readsPart_14 rfl rfl (hM_cl) (hM_cl) (Nat.le_of_ble_eq_true rfl) rfl rfl rfl rfl rfl rfl (by omega) (by omega) (by omega) (Nat.le_of_ble_eq_true rfl) ?_
    refine pn_bne (q := 20) (tgt := 21) dX7_readsPart_17 (by decide) rfl (fun hc17 => ?_) (fun hc17 => ?_)
    · refine pn_aload_n (q := 22) dX7_readsPart_21 rfl rfl rfl ?_
      refine pn_get (q := 25) fX7_38 dX7_readsPart_22 rfl rfl rfl ?_
      refine pn_aload_n (q := 26) dX7_readsPart_25 rfl rfl rfl ?_
      refine pn_get (q := 29) fX7_173 dX7_readsPart_26 rfl rfl rfl ?_
      refine pn_aload_n (q := 30) dX7_readsPart_29 rfl rfl rfl ?_
      refine pn_get (q := 33) fX7_85 dX7_readsPart_30 rfl rfl rfl ?_
      refine pn_iast (q := 34) dX7_readsPart_33 rfl rfl rfl (by omega) (by decide) ?_; rw [updN_nI]
      refine pn_iconst (q := 35) (v := nI 0) dX7_readsPart_34 rfl (by decide) ?_
      refine pn_istore_n (q := 36) dX7_readsPart_35 rfl (by decide) ?_
      exact loop r.2.2 0 (by omega)
    · cases hc17
  · rw [decide_eq_false hr] at CF
    rw [if_neg hr]
    refine pn_aload_n (q := 1) dX7_readsPart_0 rfl rfl rfl ?_
    refine pn_aload_n (q := 2) dX7_readsPart_1 rfl rfl rfl ?_
    refine pn_get (q := 5) fX7_24 dX7_readsPart_2 rfl rfl rfl ?_
    refine pn_iconst (q := 6) (v := nI 0) dX7_readsPart_5 rfl (by decide) ?_
    refine pn_lald1 (q := 7) dX7_readsPart_6 rfl rfl rfl (by omega) (by decide) ?_; rw [hT]
    first | with_reducible refine pn_l2iN (q := 8) dX7_readsPart_7 rfl ?_ | refine pn_l2i (q := 8) dX7_readsPart_7 rfl ?_
    refine pn_iconst (q := 9) (v := nI 1) dX7_readsPart_8 rfl (by decide) ?_
    first | with_reducible refine pn_isubN (q := 10) dX7_readsPart_9 rfl (by omega) ?_ | refine pn_isub (q := 10) dX7_readsPart_9 rfl ?_
    refine pn_idV (q := 13) (bc9 := 0) (bs9 := 0) (CR) lkX7_169 dX7_readsPart_10 rfl rfl (hM_cl) (hM_cl) (Nat.le_of_ble_eq_true rfl) rfl rfl rfl rfl rfl rfl (by omega) (by omega) (by omega) (Nat.le_of_ble_eq_true rfl) ?_
    refine pn_aload_n (q := 14) dX7_readsPart_13 rfl rfl rfl ?_
    refine pn_idV (q := 17) (bc9 := 0) (bs9 := 0) (CF) lkX7_116 dX7_readsPart_14 rfl rfl (hM_cl) (hM_cl) (Nat.le_of_ble_eq_true rfl) rfl rfl rfl rfl rfl rfl (by omega) (by omega) (by omega) (Nat.le_of_ble_eq_true rfl) ?_
    refine pn_bne (q := 20) (tgt := 21) dX7_readsPart_17 (by decide) rfl (fun hc17 => ?_) (fun hc17 => ?_)
    · cases hc17
    · refine pn_vret dX7_readsPart_20 rfl ?_
      exact ⟨rfl, rfl⟩
def bsM2 (T : Nat → Int64) (q : Nat) (x : Nat → Int32) : Nat → Nat → Int64
  | 0 => T
  | i + 1 => vp_updL (bsM2 T q x i) (q + 1 + i) (x i).toInt64
theorem bsM2_4 {T : Nat → Int64} {q : Nat} {x : Nat → Int32} (hq : 4 ≤ q) : ∀ i, bsM2 T q x i 4 = T 4
  | 0 => rfl
  | i + 1 => by
    unfold bsM2 vp_updL
    rw [if_neg (by omega)]
    exact bsM2_4 hq i
def baA (bc : Nat) (r : G1 × G3) : G1 := bT r.1 (vp_updL (bsM2 (vp_updL r.1.2.2.2.2.2.1 (5 + 6 * bc) (lN r.2.2)) (5 + 6 * bc) r.2.1 r.2.2) 4 (lN (bc + 1)))
def baB (bc : Nat) (w : Int32) (b : G1) : G1 := if bc = 4 then bWr b 3 w else b
def baM (bc : Nat) (w : Int32) (b : G1) (c : G3) : G1 × G3 := if (rnM 30 6 (baB bc w b) (c.1, 0)).1.2.2.1 = 0 then (baA bc (rnM 30 6 (baB bc w b) (c.1, 0)), (rnM 30 6 (baB bc w b) (c.1, 0)).2) else rnM 30 6 (baB bc w b) (c.1, 0)
set_option maxRecDepth 100000 in
theorem m_readsBase (adK : Nat → Nat) (d : Nat) (Y : MN) (P : Nat → MN) (a : G0) (b : G1) (c : G3) (e : G4) (f : G5) (g : G6) (h : G7) (bc : Nat) (w : Int32) (hT : b.2.2.2.2.2.1 4 = lN bc) (hbc : bc ≤ 4) (hb : rdOk b) (hf : b.2.2.1 = 0) : pnCt mX7_readsBase adK (d + 4) 0 0 [.ref 0, .int w] (hM Y P a b c e f g h) (pnIs (.inl none) (hM Y P a (baM bc w b c).1 (baM bc w b c).2 e f g h)) := by
  refine pnCt_of (by decide) kX7_readsBase (Nat.le_of_ble_eq_true rfl) rfl hM_cl (pnCS_b rfl) ?_
  have hB : rdOk (baB bc w b) ∧ (baB bc w b).2.2.1 ≤ 4 ∧ (baB bc w b).2.2.2.2 = b.2.2.2.2 := by
    unfold baB
    by_cases q : bc = 4
    · rw [if_pos q]
      exact ⟨rdOk_wr hb, ft_wr (by omega) (by omega), (wr_keep _ _ _).2⟩
    · rw [if_neg q]
      exact ⟨hb, by omega, rfl⟩
  obtain ⟨hb2, hf2, hk2⟩ := hB
  have CR := m_readsNodes adK d Y P a (baB bc w b) c e f g h 30 (by omega) hb2 hf2
  obtain ⟨k1, k2, k3, k4, k5⟩ := rn_keep (most := 30) 6 (baB bc w b) (c.1, 0) hb2 hf2 rfl (by show 0 ≤ 5; omega)
  have hfl : bc = 4 → (rnM 30 6 (baB bc w b) (c.1, 0)).1.2.2.1 ≠ 0 := by
    intro q
    have e1 : baB bc w b = bWr b 3 w := if_pos q
    have q1 : (bWr b 3 w).2.2.1 ≠ 0 := ft_wr0 (by omega)
    rw [e1, show rnM 30 6 (bWr b 3 w) (c.1, 0) = (bWr b 3 w, (c.1, 0)) from if_neg q1]
    exact q1
  have key : pnWP mX7_readsBase adK (d + 4) (pnIs (.inl none) (hM Y P a (baM bc w b c).1 (baM bc w b c).2 e f g h)) 0 0 (hM Y P a (baB bc w b) c e f g h) [some (.ref 0), some (.int w)] [] 19 := by
    unfold baM
    generalize rnM 30 6 (baB bc w b) (c.1, 0) = r at *
    have CF := m_fine adK (d + 3) Y P a r.1 r.2 e f g h k4
    have eT : r.1.2.2.2.2.2.1 4 = lN bc := by rw [k2, hk2]; exact hT
    by_cases hr : r.1.2.2.1 = 0
    · rw [decide_eq_true hr] at CF
      rw [if_pos hr]
      have hb3 : bc < 4 := by
        rcases Nat.lt_or_ge bc 4 with q | q
        · exact q
        · exact absurd hr (hfl (by omega))
      have loop : ∀ (z i : Nat), i + z = r.2.2 → pnWP mX7_readsBase adK (d + 4) (pnIs (.inl none) (hM Y P a (baA bc r) r.2 e f g h)) 0 0 (hM Y P a (bT r.1 (bsM2 (vp_updL r.1.2.2.2.2.2.1 (5 + 6 * bc) (lN r.2.2)) (5 + 6 * bc) r.2.1 i)) r.2 e f g h) [some (.ref 0), some (.int w), some (.int (nI (5 + 6 * bc))), some (.int (nI i))] [] 59 := by
        intro z
        induction z with
        | zero =>
          intro i hi
          have hii : i = r.2.2 := by omega
          subst hii
          have e4 : bsM2 (vp_updL r.1.2.2.2.2.2.1 (5 + 6 * bc) (lN r.2.2)) (5 + 6 * bc) r.2.1 r.2.2 4 = lN bc := by
            rw [bsM2_4 (by omega)]
            unfold vp_updL
            rw [if_neg (by omega)]
            exact eT
          refine pn_iload_n (q := 60) dX7_readsBase_59 rfl rfl ?_
          refine pn_aload_n (q := 61) dX7_readsBase_60 rfl rfl rfl ?_
          (refine pn_get (q := 64) fX7_85 dX7_readsBase_61 rfl rfl rfl ?_)
          refine pn_eq (h' := _) (st' := .int (nI r.2.2) :: _) rfl rfl ?_
          first | refine pn_nge (q := 67) (tgt := 90) dX7_readsBase_64 (by decide) rfl (by omega) (by omega) (fun hc64 => ?_) (fun hc64 => ?_) | refine pn_icmp_ge (q := 67) (tgt := 90) dX7_readsBase_64 (by decide) rfl (fun hc64 => ?_) (fun hc64 => ?_)
          · refine pn_aload_n (q := 91) dX7_readsBase_90 rfl rfl rfl ?_
            refine pn_get (q := 94) fX7_24 dX7_readsBase_91 rfl rfl rfl ?_
            refine pn_iconst (q := 95) (v := nI 4) dX7_readsBase_94 rfl (by decide) ?_
            first | refine pn_dup2 (q := 96) dX7_readsBase_95 rfl rfl rfl ?_ | refine pn_dup2l (q := 96) dX7_readsBase_95 rfl ?_
            refine pn_lald1 (q := 97) dX7_readsBase_96 rfl rfl rfl (by omega) (by decide) ?_; rw [show (bT r.1 (bsM2 (vp_updL r.1.2.2.2.2.2.1 (5 + 6 * bc) (lN r.2.2)) (5 + 6 * bc) r.2.1 r.2.2)).2.2.2.2.2.1 4 = lN bc from e4]
            refine pn_lconst (q := 98) (v := lN 1) dX7_readsBase_97 rfl (by decide) ?_
            first | with_reducible refine pn_laddN (q := 99) dX7_readsBase_98 rfl ?_ | refine pn_ladd (q := 99) dX7_readsBase_98 rfl ?_
            first | refine pn_last1 (q := 100) dX7_readsBase_99 rfl rfl rfl (by omega) (by first | decide | omega) ?_ | refine pn_last5 (q := 100) dX7_readsBase_99 rfl rfl rfl (by omega) (by first | decide | omega) ?_
            refine pn_vret dX7_readsBase_100 rfl ?_
            exact ⟨rfl, rfl⟩
          · omega
        | succ z ih =>
          intro i hi
          refine pn_iload_n (q := 60) dX7_readsBase_59 rfl rfl ?_
          refine pn_aload_n (q := 61) dX7_readsBase_60 rfl rfl rfl ?_
          (refine pn_get (q := 64) fX7_85 dX7_readsBase_61 rfl rfl rfl ?_)
          refine pn_eq (h' := _) (st' := .int (nI r.2.2) :: _) rfl rfl ?_
          first | refine pn_nge (q := 67) (tgt := 90) dX7_readsBase_64 (by decide) rfl (by omega) (by omega) (fun hc64 => ?_) (fun hc64 => ?_) | refine pn_icmp_ge (q := 67) (tgt := 90) dX7_readsBase_64 (by decide) rfl (fun hc64 => ?_) (fun hc64 => ?_)
          · omega
          · refine pn_aload_n (q := 68) dX7_readsBase_67 rfl rfl rfl ?_
            refine pn_get (q := 71) fX7_24 dX7_readsBase_68 rfl rfl rfl ?_
            refine pn_iload_n (q := 72) dX7_readsBase_71 rfl rfl ?_
            refine pn_iconst (q := 73) (v := nI 1) dX7_readsBase_72 rfl (by decide) ?_
            first | with_reducible refine pn_iaddN (q := 74) dX7_readsBase_73 rfl ?_ | refine pn_iadd (q := 74) dX7_readsBase_73 rfl ?_
            refine pn_iload_n (q := 75) dX7_readsBase_74 rfl rfl ?_
            first | with_reducible refine pn_iaddN (q := 76) dX7_readsBase_75 rfl ?_ | refine pn_iadd (q := 76) dX7_readsBase_75 rfl ?_
            refine pn_aload_n (q := 77) dX7_readsBase_76 rfl rfl rfl ?_
            refine pn_get (q := 80) fX7_32 dX7_readsBase_77 rfl rfl rfl ?_
            refine pn_iload_n (q := 81) dX7_readsBase_80 rfl rfl ?_
            refine pn_iald (q := 82) dX7_readsBase_81 rfl rfl rfl (by omega) (by first | decide | omega) ?_
            refine pn_i2l (q := 83) dX7_readsBase_82 rfl ?_
            first | refine pn_last1 (q := 84) dX7_readsBase_83 rfl rfl rfl (by omega) (by first | decide | omega) ?_ | refine pn_last5 (q := 84) dX7_readsBase_83 rfl rfl rfl (by omega) (by first | decide | omega) ?_
            first | refine pn_iinc1 (q := 87) dX7_readsBase_84 rfl rfl (by decide) ?_ | refine pn_iinc (q := 87) (mm := 1) dX7_readsBase_84 rfl rfl (by decide) (by decide) ?_
            refine pn_goto (q := 59) dX7_readsBase_87 (by decide) ?_
            exact ih (i + 1) (by omega)
      refine pn_aload_n (q := 20) dX7_readsBase_19 rfl rfl rfl ?_
      refine pn_bipush (q := 22) (v := nI 30) dX7_readsBase_20 rfl (by decide) ?_
      refine pn_idV (q := 25) (bc9 := 0) (bs9 := 0) (CR) lkX7_169 dX7_readsBase_22 rfl rfl (hM_cl) (hM_cl) (Nat.le_of_ble_eq_true rfl) rfl rfl rfl rfl rfl rfl (by omega) (by omega) (by omega) (Nat.le_of_ble_eq_true rfl) ?_
      refine pn_aload_n (q := 26) dX7_readsBase_25 rfl rfl rfl ?_
      refine pn_idV (q := 29) (bc9 := 0) (bs9 := 0) (CF) lkX7_116 dX7_readsBase_26 rfl rfl (hM_cl) (hM_cl) (Nat.le_of_ble_eq_true rfl) rfl rfl rfl rfl rfl rfl (by omega) (by omega) (by omega) (Nat.le_of_ble_eq_true rfl) ?_
      refine pn_bne (q := 32) (tgt := 33) dX7_readsBase_29 (by decide) rfl (fun hc29 => ?_) (fun hc29 => ?_)
      · refine pn_iconst (q := 34) (v := nI 5) dX7_readsBase_33 rfl (by decide) ?_
        refine pn_bipush (q := 36) (v := nI 6) dX7_readsBase_34 rfl (by decide) ?_
        refine pn_aload_n (q := 37) dX7_readsBase_36 rfl rfl rfl ?_
        refine pn_get (q := 40) fX7_24 dX7_readsBase_37 rfl rfl rfl ?_
        refine pn_iconst (q := 41) (v := nI 4) dX7_readsBase_40 rfl (by decide) ?_
        refine pn_lald1 (q := 42) dX7_readsBase_41 rfl rfl rfl (by omega) (by decide) ?_; rw [eT]
        first | with_reducible refine pn_l2iN (q := 43) dX7_readsBase_42 rfl ?_ | refine pn_l2i (q := 43) dX7_readsBase_42 rfl ?_
        first | with_reducible refine pn_imulN (q := 44) dX7_readsBase_43 rfl ?_ | refine pn_imul (q := 44) dX7_readsBase_43 rfl ?_
        first | with_reducible refine pn_iaddN (q := 45) dX7_readsBase_44 rfl ?_ | refine pn_iadd (q := 45) dX7_readsBase_44 rfl ?_
        refine pn_istore_n (q := 46) dX7_readsBase_45 rfl (by decide) ?_
        refine pn_aload_n (q := 47) dX7_readsBase_46 rfl rfl rfl ?_
        refine pn_get (q := 50) fX7_24 dX7_readsBase_47 rfl rfl rfl ?_
        refine pn_iload_n (q := 51) dX7_readsBase_50 rfl rfl ?_
        refine pn_aload_n (q := 52) dX7_readsBase_51 rfl rfl rfl ?_
        refine pn_get (q := 55) fX7_85 dX7_readsBase_52 rfl rfl rfl ?_
        first | with_reducible refine pn_i2lN (q := 56) dX7_readsBase_55 rfl (by omega) ?_ | refine pn_i2l (q := 56) dX7_readsBase_55 rfl ?_
        first | refine pn_last1 (q := 57) dX7_readsBase_56 rfl rfl rfl (by omega) (by first | decide | omega) ?_ | refine pn_last5 (q := 57) dX7_readsBase_56 rfl rfl rfl (by omega) (by first | decide | omega) ?_
        refine pn_iconst (q := 58) (v := nI 0) dX7_readsBase_57 rfl (by decide) ?_
        refine pn_istore_n (q := 59) dX7_readsBase_58 rfl (by decide) ?_
        exact loop r.2.2 0 (by omega)
      · cases hc29
    · rw [decide_eq_false hr] at CF
      rw [if_neg hr]
      refine pn_aload_n (q := 20) dX7_readsBase_19 rfl rfl rfl ?_
      refine pn_bipush (q := 22) (v := nI 30) dX7_readsBase_20 rfl (by decide) ?_
      refine pn_idV (q := 25) (bc9 := 0) (bs9 := 0) (CR) lkX7_169 dX7_readsBase_22 rfl rfl (hM_cl) (hM_cl) (Nat.le_of_ble_eq_true rfl) rfl rfl rfl rfl rfl rfl (by omega) (by omega) (by omega) (Nat.le_of_ble_eq_true rfl) ?_
      refine pn_aload_n (q := 26) dX7_readsBase_25 rfl rfl rfl ?_
      refine pn_idV (q := 29) (bc9 := 0) (bs9 := 0) (CF) lkX7_116 dX7_readsBase_26 rfl rfl (hM_cl) (hM_cl) (Nat.le_of_ble_eq_true rfl) rfl rfl rfl rfl rfl rfl (by omega) (by omega) (by omega) (Nat.le_of_ble_eq_true rfl) ?_
      refine pn_bne (q := 32) (tgt := 33) dX7_readsBase_29 (by decide) rfl (fun hc29 => ?_) (fun hc29 => ?_)
      · cases hc29
      · refine pn_vret dX7_readsBase_32 rfl ?_
        exact ⟨rfl, rfl⟩
  by_cases q : bc = 4
  · rw [show baB bc w b = bWr b 3 w from if_pos q] at key
    refine pn_aload_n (q := 1) dX7_readsBase_0 rfl rfl rfl ?_
    refine pn_get (q := 4) fX7_24 dX7_readsBase_1 rfl rfl rfl ?_
    refine pn_iconst (q := 5) (v := nI 4) dX7_readsBase_4 rfl (by decide) ?_
    refine pn_lald1 (q := 6) dX7_readsBase_5 rfl rfl rfl (by omega) (by decide) ?_; rw [hT]
    refine pn_ldc2 (q := 9) pw_1273 dX7_readsBase_6 rfl ?_; refine pn_eq (h' := _) (st' := .long (lN 4) :: _) rfl rfl ?_
    refine pn_lne (q1 := 10) (q := 13) (tgt := 19) dX7_readsBase_9 rfl dX7_readsBase_10 (by decide) rfl (fun hc9 => ?_) (fun hc9 => ?_)
    · (rw [q] at hc9; exact (hc9 rfl).elim)
    · refine pn_aload_n (q := 14) dX7_readsBase_13 rfl rfl rfl ?_
      refine pn_iconst (q := 15) (v := nI 3) dX7_readsBase_14 rfl (by decide) ?_
      refine pn_iload_n (q := 16) dX7_readsBase_15 rfl rfl ?_
      refine pn_idV (q := 19) (bc9 := 0) (bs9 := 0) (m_wrong adK (d + 3) Y P a b c e f g h 3 w (by omega)) lkX7_137 dX7_readsBase_16 rfl rfl (hM_cl) (hM_cl) (Nat.le_of_ble_eq_true rfl) rfl rfl rfl rfl rfl rfl (by omega) (by omega) (by omega) (Nat.le_of_ble_eq_true rfl) ?_
      exact key
  · rw [show baB bc w b = b from if_neg q] at key
    refine pn_aload_n (q := 1) dX7_readsBase_0 rfl rfl rfl ?_
    refine pn_get (q := 4) fX7_24 dX7_readsBase_1 rfl rfl rfl ?_
    refine pn_iconst (q := 5) (v := nI 4) dX7_readsBase_4 rfl (by decide) ?_
    refine pn_lald1 (q := 6) dX7_readsBase_5 rfl rfl rfl (by omega) (by decide) ?_; rw [hT]
    refine pn_ldc2 (q := 9) pw_1273 dX7_readsBase_6 rfl ?_; refine pn_eq (h' := _) (st' := .long (lN 4) :: _) rfl rfl ?_
    refine pn_lne (q1 := 10) (q := 13) (tgt := 19) dX7_readsBase_9 rfl dX7_readsBase_10 (by decide) rfl (fun hc9 => ?_) (fun hc9 => ?_)
    · exact key
    · (rw [lN_eqI (by omega) (by omega)] at hc9; exact (q hc9).elim)
