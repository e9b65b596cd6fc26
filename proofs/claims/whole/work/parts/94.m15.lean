/-! ===== reading, as the reference does it ===== -/
def byM (b : G1) (k : Nat) : Int32 := if k < b.1 then b.2.2.2.2.1 k else -1
abbrev bAt (b : G1) (x : Nat) : G1 := (b.1, x, b.2.2)
abbrev bWr (b : G1) (w : Nat) (p : Int32) : G1 := if b.2.2.1 = 0 then (b.1, b.2.1, w, p, b.2.2.2.2) else b
def rdOk (b : G1) : Prop := b.1 ≤ 300 ∧ b.2.1 ≤ b.1
set_option maxRecDepth 100000 in
theorem m_byteAt (adK : Nat → Nat) (d : Nat) (Y : MN) (P : Nat → MN) (a : G0) (b : G1) (c : G3) (e : G4) (f : G5) (g : G6) (h : G7) (k : Nat) (hk : k ≤ 1000) (hb : b.1 ≤ 300) : pnCt mX7_byteAt adK d 0 0 [.ref 0, .int (nI k)] (hM Y P a b c e f g h) (pnIs (.inl (some (.int (byM b k)))) (hM Y P a b c e f g h)) := by
  refine pnCt_of (by decide) kX7_byteAt (Nat.le_of_ble_eq_true rfl) rfl hM_cl (pnCS_b rfl) ?_
  refine pn_iload_n (q := 1) dX7_byteAt_0 rfl rfl ?_
  refine pn_aload_n (q := 2) dX7_byteAt_1 rfl rfl rfl ?_
  refine pn_get (q := 5) fX7_100 dX7_byteAt_2 rfl rfl rfl ?_
  first | refine pn_nlt (q := 8) (tgt := 12) dX7_byteAt_5 (by decide) rfl (by omega) (by omega) (fun hc5 => ?_) (fun hc5 => ?_) | refine pn_icmp_lt (q := 8) (tgt := 12) dX7_byteAt_5 (by decide) rfl (fun hc5 => ?_) (fun hc5 => ?_)
  · refine pn_aload_n (q := 13) dX7_byteAt_12 rfl rfl rfl ?_
    refine pn_get (q := 16) fX7_17 dX7_byteAt_13 rfl rfl rfl ?_
    refine pn_iload_n (q := 17) dX7_byteAt_16 rfl rfl ?_
    refine pn_iald (q := 18) dX7_byteAt_17 rfl rfl rfl (by omega) (by first | decide | omega) ?_
    refine pn_iret dX7_byteAt_18 rfl ?_
    exact ⟨by unfold byM; first | rw [if_neg (by omega)] | rw [if_pos (by omega)], rfl⟩
  · refine pn_iconst (q := 9) (v := (-1)) dX7_byteAt_8 rfl (by decide) ?_
    refine pn_goto (q := 18) dX7_byteAt_9 (by decide) ?_
    refine pn_iret dX7_byteAt_18 rfl ?_
    exact ⟨by unfold byM; first | rw [if_neg (by omega)] | rw [if_pos (by omega)], rfl⟩
abbrev heB (b : G1) : G1 := bAt b (tkS b.1 b.2.2.2.2.1 b.2.1)
theorem byM_sp {b : G1} {p : Nat} (h : byM b p = nI 32) : p < b.1 ∧ b.2.2.2.2.1 p = nI 32 := by
  unfold byM at h
  split at h
  · exact ⟨by assumption, h⟩
  · exact absurd h (by decide)
set_option maxRecDepth 100000 in
theorem m_here (adK : Nat → Nat) (d : Nat) (Y : MN) (P : Nat → MN) (a : G0) (b : G1) (c : G3) (e : G4) (f : G5) (g : G6) (h : G7) (hb : rdOk b) : pnCt mX7_here adK (d + 1) 0 0 [.ref 0] (hM Y P a b c e f g h) (pnIs (.inl (some (.int (byM b (tkS b.1 b.2.2.2.2.1 b.2.1))))) (hM Y P a (heB b) c e f g h)) := by
  refine pnCt_of (by decide) kX7_here (Nat.le_of_ble_eq_true rfl) rfl hM_cl (pnCS_b rfl) ?_
  obtain ⟨hb3, hb1⟩ := hb
  have loop : ∀ (z p : Nat), p + z = b.1 → skS b.2.2.2.2.1 z p = tkS b.1 b.2.2.2.2.1 b.2.1 → pnWP mX7_here adK (d + 1) (pnIs (.inl (some (.int (byM b (tkS b.1 b.2.2.2.2.1 b.2.1))))) (hM Y P a (heB b) c e f g h)) 0 0 (hM Y P a (bAt b p) c e f g h) [some (.ref 0)] [] 0 := by
    intro z
    induction z with
    | zero =>
      intro p hp e9
      have e8 : p = tkS b.1 b.2.2.2.2.1 b.2.1 := e9
      have CB := m_byteAt adK d Y P a (bAt b p) c e f g h p (by omega) hb3
      have CB2 : pnCt mX7_byteAt adK d 0 0 [.ref 0, .int (nI p)] (hM Y P a (bAt b p) c e f g h) (pnIs (.inl (some (.int (byM b p)))) (hM Y P a (bAt b p) c e f g h)) := CB
      refine pn_aload_n (q := 1) dX7_here_0 rfl rfl rfl ?_
      refine pn_aload_n (q := 2) dX7_here_1 rfl rfl rfl ?_
      (refine pn_get (q := 5) fX7_103 dX7_here_2 rfl rfl rfl ?_)
      refine pn_eq (h' := _) (st' := .int (nI p) :: _) rfl rfl ?_
      refine pn_idV (q := 8) (bc9 := 0) (bs9 := 0) (CB2) lkX7_106 dX7_here_5 rfl rfl (hM_cl) (hM_cl) (Nat.le_of_ble_eq_true rfl) rfl rfl rfl rfl rfl rfl (by omega) (by omega) (by omega) (Nat.le_of_ble_eq_true rfl) ?_
      refine pn_bipush (q := 10) (v := nI 32) dX7_here_8 rfl (by decide) ?_
      refine pn_icmp_ne (q := 13) (tgt := 26) dX7_here_10 (by decide) rfl (fun hc10 => ?_) (fun hc10 => ?_)
      · refine pn_aload_n (q := 27) dX7_here_26 rfl rfl rfl ?_
        refine pn_aload_n (q := 28) dX7_here_27 rfl rfl rfl ?_
        (refine pn_get (q := 31) fX7_103 dX7_here_28 rfl rfl rfl ?_)
        refine pn_eq (h' := _) (st' := .int (nI p) :: _) rfl rfl ?_
        refine pn_idV (q := 34) (bc9 := 0) (bs9 := 0) (CB2) lkX7_106 dX7_here_31 rfl rfl (hM_cl) (hM_cl) (Nat.le_of_ble_eq_true rfl) rfl rfl rfl rfl rfl rfl (by omega) (by omega) (by omega) (Nat.le_of_ble_eq_true rfl) ?_
        refine pn_iret dX7_here_34 rfl ?_
        exact ⟨by rw [e8], by rw [e8]⟩
      · exact absurd (byM_sp hc10).1 (by omega)
    | succ z ih =>
      intro p hp e9
      have CB2 : pnCt mX7_byteAt adK d 0 0 [.ref 0, .int (nI p)] (hM Y P a (bAt b p) c e f g h) (pnIs (.inl (some (.int (byM b p)))) (hM Y P a (bAt b p) c e f g h)) := m_byteAt adK d Y P a (bAt b p) c e f g h p (by omega) hb3
      have e7 : skS b.2.2.2.2.1 (z + 1) p = if b.2.2.2.2.1 p = nI 32 then skS b.2.2.2.2.1 z (p + 1) else p := rfl
      refine pn_aload_n (q := 1) dX7_here_0 rfl rfl rfl ?_
      refine pn_aload_n (q := 2) dX7_here_1 rfl rfl rfl ?_
      (refine pn_get (q := 5) fX7_103 dX7_here_2 rfl rfl rfl ?_)
      refine pn_eq (h' := _) (st' := .int (nI p) :: _) rfl rfl ?_
      refine pn_idV (q := 8) (bc9 := 0) (bs9 := 0) (CB2) lkX7_106 dX7_here_5 rfl rfl (hM_cl) (hM_cl) (Nat.le_of_ble_eq_true rfl) rfl rfl rfl rfl rfl rfl (by omega) (by omega) (by omega) (Nat.le_of_ble_eq_true rfl) ?_
      refine pn_bipush (q := 10) (v := nI 32) dX7_here_8 rfl (by decide) ?_
      refine pn_icmp_ne (q := 13) (tgt := 26) dX7_here_10 (by decide) rfl (fun hc10 => ?_) (fun hc10 => ?_)
      · refine pn_aload_n (q := 27) dX7_here_26 rfl rfl rfl ?_
        refine pn_aload_n (q := 28) dX7_here_27 rfl rfl rfl ?_
        (refine pn_get (q := 31) fX7_103 dX7_here_28 rfl rfl rfl ?_)
        refine pn_eq (h' := _) (st' := .int (nI p) :: _) rfl rfl ?_
        refine pn_idV (q := 34) (bc9 := 0) (bs9 := 0) (CB2) lkX7_106 dX7_here_31 rfl rfl (hM_cl) (hM_cl) (Nat.le_of_ble_eq_true rfl) rfl rfl rfl rfl rfl rfl (by omega) (by omega) (by omega) (Nat.le_of_ble_eq_true rfl) ?_
        refine pn_iret dX7_here_34 rfl ?_
        (have e8 : p = tkS b.1 b.2.2.2.2.1 b.2.1 := by rw [← e9, e7, if_neg (fun q => hc10 (by unfold byM; rw [if_pos (by omega)]; exact q))]); exact ⟨by rw [e8], by rw [e8]⟩
      · refine pn_aload_n (q := 14) dX7_here_13 rfl rfl rfl ?_
        refine pn_dup (q := 15) dX7_here_14 rfl rfl ?_
        (refine pn_get (q := 18) fX7_103 dX7_here_15 rfl rfl rfl ?_)
        refine pn_eq (h' := _) (st' := .int (nI p) :: _) rfl rfl ?_
        refine pn_iconst (q := 19) (v := nI 1) dX7_here_18 rfl (by decide) ?_
        first | with_reducible refine pn_iaddN (q := 20) dX7_here_19 rfl ?_ | refine pn_iadd (q := 20) dX7_here_19 rfl ?_
        refine pn_put (q := 23) fX7_103 dX7_here_20 rfl rfl (Nat.le_of_ble_eq_true rfl) (pnF_int _) ?_
        refine pn_goto (q := 0) dX7_here_23 (by decide) ?_
        exact ih (p + 1) (by omega) (by rw [← e9, e7, if_pos (byM_sp hc10).2])
  exact loop (b.1 - b.2.1) b.2.1 (by omega) rfl
set_option maxRecDepth 100000 in
theorem m_fine (adK : Nat → Nat) (d : Nat) (Y : MN) (P : Nat → MN) (a : G0) (b : G1) (c : G3) (e : G4) (f : G5) (g : G6) (h : G7) (hf : b.2.2.1 ≤ 4) : pnCt mX7_fine adK d 0 0 [.ref 0] (hM Y P a b c e f g h) (pnIs (.inl (some (.int (nB (decide (b.2.2.1 = 0)))))) (hM Y P a b c e f g h)) := by
  refine pnCt_of (by decide) kX7_fine (Nat.le_of_ble_eq_true rfl) rfl hM_cl (pnCS_b rfl) ?_
  refine pn_aload_n (q := 1) dX7_fine_0 rfl rfl rfl ?_
  refine pn_get (q := 4) fX7_110 dX7_fine_1 rfl rfl rfl ?_
  first | refine pn_zne (q := 7) (tgt := 11) dX7_fine_4 (by decide) rfl (by omega) (fun hc4 => ?_) (fun hc4 => ?_) | refine pn_if_ne (q := 7) (tgt := 11) dX7_fine_4 (by decide) rfl (fun hc4 => ?_) (fun hc4 => ?_)
  · refine pn_iconst (q := 12) (v := nI 0) dX7_fine_11 rfl (by decide) ?_
    refine pn_tret (b := decide (b.2.2.1 = 0)) _ ?_ dX7_fine_12 rfl ?_
    · first | (rw [decide_eq_true hc4]; rfl) | (rw [decide_eq_false hc4]; rfl)
    · exact ⟨rfl, rfl⟩
  · refine pn_iconst (q := 8) (v := nI 1) dX7_fine_7 rfl (by decide) ?_
    refine pn_goto (q := 12) dX7_fine_8 (by decide) ?_
    refine pn_tret (b := decide (b.2.2.1 = 0)) _ ?_ dX7_fine_12 rfl ?_
    · first | (rw [decide_eq_true hc4]; rfl) | (rw [decide_eq_false hc4]; rfl)
    · exact ⟨rfl, rfl⟩
set_option maxRecDepth 100000 in
theorem m_wrong (adK : Nat → Nat) (d : Nat) (Y : MN) (P : Nat → MN) (a : G0) (b : G1) (c : G3) (e : G4) (f : G5) (g : G6) (h : G7) (w : Nat) (p : Int32) (hf : b.2.2.1 ≤ 4) : pnCt mX7_wrong adK d 0 0 [.ref 0, .int (nI w), .int p] (hM Y P a b c e f g h) (pnIs (.inl none) (hM Y P a (bWr b w p) c e f g h)) := by
  refine pnCt_of (by decide) kX7_wrong (Nat.le_of_ble_eq_true rfl) rfl hM_cl (pnCS_b rfl) ?_
  refine pn_aload_n (q := 1) dX7_wrong_0 rfl rfl rfl ?_
  refine pn_get (q := 4) fX7_110 dX7_wrong_1 rfl rfl rfl ?_
  first | refine pn_zne (q := 7) (tgt := 17) dX7_wrong_4 (by decide) rfl (by omega) (fun hc4 => ?_) (fun hc4 => ?_) | refine pn_if_ne (q := 7) (tgt := 17) dX7_wrong_4 (by decide) rfl (fun hc4 => ?_) (fun hc4 => ?_)
  · refine pn_vret dX7_wrong_17 rfl ?_
    first | (rw [show bWr b w p = b from if_neg hc4]; exact ⟨rfl, rfl⟩) | (rw [show bWr b w p = (b.1, b.2.1, w, p, b.2.2.2.2) from if_pos hc4]; exact ⟨rfl, rfl⟩)
  · refine pn_aload_n (q := 8) dX7_wrong_7 rfl rfl rfl ?_
    refine pn_iload_n (q := 9) dX7_wrong_8 rfl rfl ?_
    refine pn_put (q := 12) fX7_110 dX7_wrong_9 rfl rfl (Nat.le_of_ble_eq_true rfl) (pnF_int _) ?_
    refine pn_aload_n (q := 13) dX7_wrong_12 rfl rfl rfl ?_
    refine pn_iload_n (q := 14) dX7_wrong_13 rfl rfl ?_
    refine pn_put (q := 17) fX7_113 dX7_wrong_14 rfl rfl (Nat.le_of_ble_eq_true rfl) (pnF_int _) ?_
    refine pn_vret dX7_wrong_17 rfl ?_
    first | (rw [show bWr b w p = b from if_neg hc4]; exact ⟨rfl, rfl⟩) | (rw [show bWr b w p = (b.1, b.2.1, w, p, b.2.2.2.2) from if_pos hc4]; exact ⟨rfl, rfl⟩)
def tkP (b : G1) : Nat := tkS b.1 b.2.2.2.2.1 b.2.1
theorem tkP_le {b : G1} (hb : rdOk b) : b.2.1 ≤ tkP b ∧ tkP b ≤ b.1 := by
  unfold tkP tkS
  have := skS_le b.2.2.2.2.1 (b.1 - b.2.1) b.2.1
  have := hb.2
  omega
def takB (b : G1) (w : List Char) : Bool := wdM (byM b) (tkP b) w && !ltB (byM b (tkP b + w.length))
def takM (b : G1) (w : List Char) : G1 := if takB b w = true then bAt b (tkP b + w.length) else bAt b (tkP b)
theorem inL_lt (x : Int32) : inL x.toInt64 (lN 97) (lN 122) = ltB x := by
  rw [inL_nat (by omega) (by omega)]
  unfold ltB
  apply decide_eq_decide.mpr
  rw [Int32.lt_iff_toInt_lt, Int32.lt_iff_toInt_lt, show (nI 97).toInt = 97 by decide, show (nI 122).toInt = 122 by decide]
  omega
set_option maxRecDepth 100000 in
theorem m_takes (adK : Nat → Nat) (d : Nat) (Y : MN) (P : Nat → MN) (a : G0) (b : G1) (c : G3) (e : G4) (f : G5) (g : G6) (h : G7) (j : Nat) (x : String × Nat × String) (hj : pnStr[j]? = some x) (hx : x.2.2.length ≤ 100) (hch : ∀ i, i < x.2.2.length → (x.2.2.toList.getD i 'a').toNat < 128) (hb : rdOk b) (hf : b.2.2.1 = 0) : pnCt mX7_takes adK (d + 4) 0 0 [.ref 0, .retAddr (adK j)] (hM Y P a b c e f g h) (pnIs (.inl (some (.int (nB (takB b x.2.2.toList))))) (hM Y P a (takM b x.2.2.toList) c e f g h)) := by
  refine pnCt_of (by decide) kX7_takes (Nat.le_of_ble_eq_true rfl) rfl hM_cl (pnCS_b rfl) ?_
  have hlw : x.2.2.toList.length = x.2.2.length := String.length_toList
  have hp9 := tkP_le hb
  have hb3 := hb.1
  have CF := m_fine adK d Y P a b c e f g h (by omega)
  rw [decide_eq_true hf] at CF
  have CB : ∀ k, k ≤ 100 → pnCt mX7_byteAt adK d 0 0 [.ref 0, .int (nI (tkP b + k))] (hM Y P a (heB b) c e f g h) (pnIs (.inl (some (.int (byM b (tkP b + k))))) (hM Y P a (heB b) c e f g h)) := fun k hk => m_byteAt adK d Y P a (heB b) c e f g h (tkP b + k) (by omega) hb3
  have loop : ∀ (t : List Char) (i : Nat), x.2.2.toList.drop i = t → wdM (byM b) (tkP b + i) t = wdM (byM b) (tkP b) x.2.2.toList → i ≤ x.2.2.length → pnWP mX7_takes adK (d + 4) (pnIs (.inl (some (.int (nB (takB b x.2.2.toList))))) (hM Y P a (takM b x.2.2.toList) c e f g h)) 0 0 (hM Y P a (heB b) c e f g h) [some (.ref 0), some (.retAddr (adK j)), some (.int (nI i))] [] 16 := by
    intro t
    induction t with
    | nil =>
      intro i e1 e2 hi
      have h1 : x.2.2.toList.length ≤ i := by
        rcases Nat.lt_or_ge i x.2.2.toList.length with h | h
        · rw [List.drop_eq_getElem_cons h] at e1; cases e1
        · exact h
      have hi2 : i = x.2.2.length := by omega
      subst hi2
      have e3 : wdM (byM b) (tkP b) x.2.2.toList = true := e2.symm
      have C0 := m_in adK d (byM b (tkP b + x.2.2.length)).toInt64 (lN 97) (lN 122)
      rw [inL_lt] at C0
      have CBi := CB x.2.2.length hx
      have et : takB b x.2.2.toList = !ltB (byM b (tkP b + x.2.2.length)) := by unfold takB; rw [e3, hlw]; rfl
      cases hl : ltB (byM b (tkP b + x.2.2.length)) with
      | true =>
        rw [hl] at C0 et
        have em : takM b x.2.2.toList = heB b := by unfold takM; rw [et]; rfl
        rw [et, em]
        refine pn_iload_n (q := 17) dX7_takes_16 rfl rfl ?_
        refine pn_aload_n (q := 18) dX7_takes_17 rfl rfl rfl ?_
        refine pn_strV (q := 21) hj (c_strlen adK d j x hj) lkX7_124 rfl dX7_takes_18 rfl rfl rfl (by omega) (Nat.le_of_ble_eq_true rfl) rfl ?_
        first | refine pn_nge (q := 24) (tgt := 48) dX7_takes_21 (by decide) rfl (by omega) (by omega) (fun hc21 => ?_) (fun hc21 => ?_) | refine pn_icmp_ge (q := 24) (tgt := 48) dX7_takes_21 (by decide) rfl (fun hc21 => ?_) (fun hc21 => ?_)
        · refine pn_iload_n (q := 49) dX7_takes_48 rfl rfl ?_
          refine pn_aload_n (q := 50) dX7_takes_49 rfl rfl rfl ?_
          refine pn_strV (q := 53) hj (c_strlen adK d j x hj) lkX7_124 rfl dX7_takes_50 rfl rfl rfl (by omega) (Nat.le_of_ble_eq_true rfl) rfl ?_
          first | refine pn_nlt (q := 56) (tgt := 79) dX7_takes_53 (by decide) rfl (by omega) (by omega) (fun hc53 => ?_) (fun hc53 => ?_) | refine pn_icmp_lt (q := 56) (tgt := 79) dX7_takes_53 (by decide) rfl (fun hc53 => ?_) (fun hc53 => ?_)
          · omega
          · refine pn_aload_n (q := 57) dX7_takes_56 rfl rfl rfl ?_
            refine pn_aload_n (q := 58) dX7_takes_57 rfl rfl rfl ?_
            (refine pn_get (q := 61) fX7_103 dX7_takes_58 rfl rfl rfl ?_)
            refine pn_eq (h' := _) (st' := .int (nI (tkP b)) :: _) rfl rfl ?_
            refine pn_iload_n (q := 62) dX7_takes_61 rfl rfl ?_
            first | with_reducible refine pn_iaddN (q := 63) dX7_takes_62 rfl ?_ | refine pn_iadd (q := 63) dX7_takes_62 rfl ?_
            refine pn_idV (q := 66) (bc9 := 0) (bs9 := 0) (CBi) lkX7_106 dX7_takes_63 rfl rfl (hM_cl) (hM_cl) (Nat.le_of_ble_eq_true rfl) rfl rfl rfl rfl rfl rfl (by omega) (by omega) (by omega) (Nat.le_of_ble_eq_true rfl) ?_
            refine pn_i2l (q := 67) dX7_takes_66 rfl ?_
            refine pn_ldc2 (q := 70) pw_1226 dX7_takes_67 rfl ?_; refine pn_eq (h' := _) (st' := .long (lN 97) :: _) rfl rfl ?_
            refine pn_ldc2 (q := 73) pw_1227 dX7_takes_70 rfl ?_; refine pn_eq (h' := _) (st' := .long (lN 122) :: _) rfl rfl ?_
            refine pn_roS1 (q := 76) (C0) lkX7_92 dX7_takes_73 rfl rfl (pnSel_of (I := []) rfl rfl) (pnFree_none rfl) rfl (by omega) (Nat.le_of_ble_eq_true rfl) rfl ?_
            refine pn_beq (q := 79) (tgt := 81) dX7_takes_76 (by decide) rfl (fun hc76 => ?_) (fun hc76 => ?_)
            · cases hc76
            · refine pn_iconst (q := 80) (v := nI 0) dX7_takes_79 rfl (by decide) ?_
              refine pn_tret (b := false) _ ?_ dX7_takes_80 rfl ?_
              · rfl
              · exact ⟨rfl, rfl⟩
        · omega
      | false =>
        rw [hl] at C0 et
        have em : takM b x.2.2.toList = bAt b (tkP b + x.2.2.length) := by unfold takM; rw [et, hlw]; rfl
        rw [et, em]
        refine pn_iload_n (q := 17) dX7_takes_16 rfl rfl ?_
        refine pn_aload_n (q := 18) dX7_takes_17 rfl rfl rfl ?_
        refine pn_strV (q := 21) hj (c_strlen adK d j x hj) lkX7_124 rfl dX7_takes_18 rfl rfl rfl (by omega) (Nat.le_of_ble_eq_true rfl) rfl ?_
        first | refine pn_nge (q := 24) (tgt := 48) dX7_takes_21 (by decide) rfl (by omega) (by omega) (fun hc21 => ?_) (fun hc21 => ?_) | refine pn_icmp_ge (q := 24) (tgt := 48) dX7_takes_21 (by decide) rfl (fun hc21 => ?_) (fun hc21 => ?_)
        · refine pn_iload_n (q := 49) dX7_takes_48 rfl rfl ?_
          refine pn_aload_n (q := 50) dX7_takes_49 rfl rfl rfl ?_
          refine pn_strV (q := 53) hj (c_strlen adK d j x hj) lkX7_124 rfl dX7_takes_50 rfl rfl rfl (by omega) (Nat.le_of_ble_eq_true rfl) rfl ?_
          first | refine pn_nlt (q := 56) (tgt := 79) dX7_takes_53 (by decide) rfl (by omega) (by omega) (fun hc53 => ?_) (fun hc53 => ?_) | refine pn_icmp_lt (q := 56) (tgt := 79) dX7_takes_53 (by decide) rfl (fun hc53 => ?_) (fun hc53 => ?_)
          · omega
          · refine pn_aload_n (q := 57) dX7_takes_56 rfl rfl rfl ?_
            refine pn_aload_n (q := 58) dX7_takes_57 rfl rfl rfl ?_
            (refine pn_get (q := 61) fX7_103 dX7_takes_58 rfl rfl rfl ?_)
            refine pn_eq (h' := _) (st' := .int (nI (tkP b)) :: _) rfl rfl ?_
            refine pn_iload_n (q := 62) dX7_takes_61 rfl rfl ?_
            first | with_reducible refine pn_iaddN (q := 63) dX7_takes_62 rfl ?_ | refine pn_iadd (q := 63) dX7_takes_62 rfl ?_
            refine pn_idV (q := 66) (bc9 := 0) (bs9 := 0) (CBi) lkX7_106 dX7_takes_63 rfl rfl (hM_cl) (hM_cl) (Nat.le_of_ble_eq_true rfl) rfl rfl rfl rfl rfl rfl (by omega) (by omega) (by omega) (Nat.le_of_ble_eq_true rfl) ?_
            refine pn_i2l (q := 67) dX7_takes_66 rfl ?_
            refine pn_ldc2 (q := 70) pw_1226 dX7_takes_67 rfl ?_; refine pn_eq (h' := _) (st' := .long (lN 97) :: _) rfl rfl ?_
            refine pn_ldc2 (q := 73) pw_1227 dX7_takes_70 rfl ?_; refine pn_eq (h' := _) (st' := .long (lN 122) :: _) rfl rfl ?_
            refine pn_roS1 (q := 76) (C0) lkX7_92 dX7_takes_73 rfl rfl (pnSel_of (I := []) rfl rfl) (pnFree_none rfl) rfl (by omega) (Nat.le_of_ble_eq_true rfl) rfl ?_
            refine pn_beq (q := 79) (tgt := 81) dX7_takes_76 (by decide) rfl (fun hc76 => ?_) (fun hc76 => ?_)
            · refine pn_aload_n (q := 82) dX7_takes_81 rfl rfl rfl ?_
              refine pn_dup (q := 83) dX7_takes_82 rfl rfl ?_
              (refine pn_get (q := 86) fX7_103 dX7_takes_83 rfl rfl rfl ?_)
              refine pn_eq (h' := _) (st' := .int (nI (tkP b)) :: _) rfl rfl ?_
              refine pn_iload_n (q := 87) dX7_takes_86 rfl rfl ?_
              first | with_reducible refine pn_iaddN (q := 88) dX7_takes_87 rfl ?_ | refine pn_iadd (q := 88) dX7_takes_87 rfl ?_
              refine pn_put (q := 91) fX7_103 dX7_takes_88 rfl rfl (Nat.le_of_ble_eq_true rfl) (pnF_int _) ?_
              refine pn_iconst (q := 92) (v := nI 1) dX7_takes_91 rfl (by decide) ?_
              refine pn_tret (b := true) _ ?_ dX7_takes_92 rfl ?_
              · rfl
              · exact ⟨rfl, rfl⟩
            · cases hc76
        · omega
    | cons ch t ih =>
      intro i e1 e2 hi
      obtain ⟨h1, h2, h3⟩ := drop_at (a := 'a') e1
      have e3 : wdM (byM b) (tkP b + i) (ch :: t) = (decide (byM b (tkP b + i) = nI ch.toNat) && wdM (byM b) (tkP b + i + 1) t) := rfl
      rw [e3] at e2
      have CC := c_charAt adK d j i x hj (by omega) (by omega) (hch i (by omega))
      rw [h2] at CC
      have CBi := CB i (by omega)
      by_cases hq : byM b (tkP b + i) = nI ch.toNat
      · rw [decide_eq_true hq] at e2
        refine pn_iload_n (q := 17) dX7_takes_16 rfl rfl ?_
        refine pn_aload_n (q := 18) dX7_takes_17 rfl rfl rfl ?_
        refine pn_strV (q := 21) hj (c_strlen adK d j x hj) lkX7_124 rfl dX7_takes_18 rfl rfl rfl (by omega) (Nat.le_of_ble_eq_true rfl) rfl ?_
        first | refine pn_nge (q := 24) (tgt := 48) dX7_takes_21 (by decide) rfl (by omega) (by omega) (fun hc21 => ?_) (fun hc21 => ?_) | refine pn_icmp_ge (q := 24) (tgt := 48) dX7_takes_21 (by decide) rfl (fun hc21 => ?_) (fun hc21 => ?_)
        · omega
        · refine pn_aload_n (q := 25) dX7_takes_24 rfl rfl rfl ?_
          refine pn_aload_n (q := 26) dX7_takes_25 rfl rfl rfl ?_
          (refine pn_get (q := 29) fX7_103 dX7_takes_26 rfl rfl rfl ?_)
          refine pn_eq (h' := _) (st' := .int (nI (tkP b)) :: _) rfl rfl ?_
          refine pn_iload_n (q := 30) dX7_takes_29 rfl rfl ?_
          first | with_reducible refine pn_iaddN (q := 31) dX7_takes_30 rfl ?_ | refine pn_iadd (q := 31) dX7_takes_30 rfl ?_
          refine pn_idV (q := 34) (bc9 := 0) (bs9 := 0) (CBi) lkX7_106 dX7_takes_31 rfl rfl (hM_cl) (hM_cl) (Nat.le_of_ble_eq_true rfl) rfl rfl rfl rfl rfl rfl (by omega) (by omega) (by omega) (Nat.le_of_ble_eq_true rfl) ?_
          refine pn_aload_n (q := 35) dX7_takes_34 rfl rfl rfl ?_
          refine pn_iload_n (q := 36) dX7_takes_35 rfl rfl ?_
          refine pn_strV (q := 39) hj CC lkX7_129 rfl dX7_takes_36 rfl rfl rfl (by omega) (Nat.le_of_ble_eq_true rfl) rfl ?_
          refine pn_icmp_ne (q := 42) (tgt := 48) dX7_takes_39 (by decide) rfl (fun hc39 => ?_) (fun hc39 => ?_)
          · exact (hc39 hq).elim
          · first | refine pn_iinc1 (q := 45) dX7_takes_42 rfl rfl (by decide) ?_ | refine pn_iinc (q := 45) (mm := 1) dX7_takes_42 rfl rfl (by decide) (by decide) ?_
            refine pn_goto (q := 16) dX7_takes_45 (by decide) ?_
            exact ih (i + 1) h3 e2 (by omega)
      · rw [decide_eq_false hq] at e2
        have et : takB b x.2.2.toList = false := by unfold takB; rw [← e2]; rfl
        have em : takM b x.2.2.toList = heB b := by unfold takM; rw [et]; rfl
        rw [et, em]
        refine pn_iload_n (q := 17) dX7_takes_16 rfl rfl ?_
        refine pn_aload_n (q := 18) dX7_takes_17 rfl rfl rfl ?_
        refine pn_strV (q := 21) hj (c_strlen adK d j x hj) lkX7_124 rfl dX7_takes_18 rfl rfl rfl (by omega) (Nat.le_of_ble_eq_true rfl) rfl ?_
        first | refine pn_nge (q := 24) (tgt := 48) dX7_takes_21 (by decide) rfl (by omega) (by omega) (fun hc21 => ?_) (fun hc21 => ?_) | refine pn_icmp_ge (q := 24) (tgt := 48) dX7_takes_21 (by decide) rfl (fun hc21 => ?_) (fun hc21 => ?_)
        · omega
        · refine pn_aload_n (q := 25) dX7_takes_24 rfl rfl rfl ?_
          refine pn_aload_n (q := 26) dX7_takes_25 rfl rfl rfl ?_
          (refine pn_get (q := 29) fX7_103 dX7_takes_26 rfl rfl rfl ?_)
          refine pn_eq (h' := _) (st' := .int (nI (tkP b)) :: _) rfl rfl ?_
          refine pn_iload_n (q := 30) dX7_takes_29 rfl rfl ?_
          first | with_reducible refine pn_iaddN (q := 31) dX7_takes_30 rfl ?_ | refine pn_iadd (q := 31) dX7_takes_30 rfl ?_
          refine pn_idV (q := 34) (bc9 := 0) (bs9 := 0) (CBi) lkX7_106 dX7_takes_31 rfl rfl (hM_cl) (hM_cl) (Nat.le_of_ble_eq_true rfl) rfl rfl rfl rfl rfl rfl (by omega) (by omega) (by omega) (Nat.le_of_ble_eq_true rfl) ?_
          refine pn_aload_n (q := 35) dX7_takes_34 rfl rfl rfl ?_
          refine pn_iload_n (q := 36) dX7_takes_35 rfl rfl ?_
          refine pn_strV (q := 39) hj CC lkX7_129 rfl dX7_takes_36 rfl rfl rfl (by omega) (Nat.le_of_ble_eq_true rfl) rfl ?_
          refine pn_icmp_ne (q := 42) (tgt := 48) dX7_takes_39 (by decide) rfl (fun hc39 => ?_) (fun hc39 => ?_)
          · refine pn_iload_n (q := 49) dX7_takes_48 rfl rfl ?_
            refine pn_aload_n (q := 50) dX7_takes_49 rfl rfl rfl ?_
            refine pn_strV (q := 53) hj (c_strlen adK d j x hj) lkX7_124 rfl dX7_takes_50 rfl rfl rfl (by omega) (Nat.le_of_ble_eq_true rfl) rfl ?_
            first | refine pn_nlt (q := 56) (tgt := 79) dX7_takes_53 (by decide) rfl (by omega) (by omega) (fun hc53 => ?_) (fun hc53 => ?_) | refine pn_icmp_lt (q := 56) (tgt := 79) dX7_takes_53 (by decide) rfl (fun hc53 => ?_) (fun hc53 => ?_)
            · refine pn_iconst (q := 80) (v := nI 0) dX7_takes_79 rfl (by decide) ?_
              refine pn_tret (b := false) _ ?_ dX7_takes_80 rfl ?_
              · rfl
              · exact ⟨rfl, rfl⟩
            · omega
          · exact (hq hc39).elim
  refine pn_aload_n (q := 1) dX7_takes_0 rfl rfl rfl ?_
  refine pn_idV (q := 4) (bc9 := 0) (bs9 := 0) (CF) lkX7_116 dX7_takes_1 rfl rfl (hM_cl) (hM_cl) (Nat.le_of_ble_eq_true rfl) rfl rfl rfl rfl rfl rfl (by omega) (by omega) (by omega) (Nat.le_of_ble_eq_true rfl) ?_
  refine pn_bne (q := 7) (tgt := 9) dX7_takes_4 (by decide) rfl (fun hc4 => ?_) (fun hc4 => ?_)
  · refine pn_aload_n (q := 10) dX7_takes_9 rfl rfl rfl ?_
    refine pn_idV (q := 13) (bc9 := 0) (bs9 := 0) (m_here adK d Y P a b c e f g h hb) lkX7_120 dX7_takes_10 rfl rfl (hM_cl) (hM_cl) (Nat.le_of_ble_eq_true rfl) rfl rfl rfl rfl rfl rfl (by omega) (by omega) (by omega) (Nat.le_of_ble_eq_true rfl) ?_
    refine pn_pop (q := 14) dX7_takes_13 rfl rfl ?_
    refine pn_iconst (q := 15) (v := nI 0) dX7_takes_14 rfl (by decide) ?_
    refine pn_istore_n (q := 16) dX7_takes_15 rfl (by decide) ?_
    exact loop x.2.2.toList 0 rfl rfl (by omega)
  · cases hc4
set_option maxRecDepth 100000 in
theorem m_takesX (adK : Nat → Nat) (d : Nat) (Y : MN) (P : Nat → MN) (a : G0) (b : G1) (c : G3) (e : G4) (f : G5) (g : G6) (h : G7) (j : Nat) (hf : b.2.2.1 ≠ 0) (hf4 : b.2.2.1 ≤ 4) : pnCt mX7_takes adK (d + 4) 0 0 [.ref 0, .retAddr (adK j)] (hM Y P a b c e f g h) (pnIs (.inl (some (.int (nB false)))) (hM Y P a b c e f g h)) := by
  refine pnCt_of (by decide) kX7_takes (Nat.le_of_ble_eq_true rfl) rfl hM_cl (pnCS_b rfl) ?_
  have CF := m_fine adK d Y P a b c e f g h hf4
  rw [decide_eq_false hf] at CF
  refine pn_aload_n (q := 1) dX7_takes_0 rfl rfl rfl ?_
  refine pn_idV (q := 4) (bc9 := 0) (bs9 := 0) (CF) lkX7_116 dX7_takes_1 rfl rfl (hM_cl) (hM_cl) (Nat.le_of_ble_eq_true rfl) rfl rfl rfl rfl rfl rfl (by omega) (by omega) (by omega) (Nat.le_of_ble_eq_true rfl) ?_
  refine pn_bne (q := 7) (tgt := 9) dX7_takes_4 (by decide) rfl (fun hc4 => ?_) (fun hc4 => ?_)
  · cases hc4
  · refine pn_iconst (q := 8) (v := nI 0) dX7_takes_7 rfl (by decide) ?_
    refine pn_tret (b := false) _ ?_ dX7_takes_8 rfl ?_
    · rfl
    · exact ⟨rfl, rfl⟩
def musM (b : G1) (x : Int32) : G1 := if b.2.2.1 = 0 then (if byM b (tkP b) = x then bAt b (tkP b + 1) else bWr (bAt b (tkP b)) 1 (nI (tkP b))) else b
set_option maxRecDepth 100000 in
theorem m_must (adK : Nat → Nat) (d : Nat) (Y : MN) (P : Nat → MN) (a : G0) (b : G1) (c : G3) (e : G4) (f : G5) (g : G6) (h : G7) (x : Int32) (hb : rdOk b) (hf4 : b.2.2.1 ≤ 4) : pnCt mX7_must adK (d + 2) 0 0 [.ref 0, .int x] (hM Y P a b c e f g h) (pnIs (.inl none) (hM Y P a (musM b x) c e f g h)) := by
  refine pnCt_of (by decide) kX7_must (Nat.le_of_ble_eq_true rfl) rfl hM_cl (pnCS_b rfl) ?_
  have CF := m_fine adK d Y P a b c e f g h hf4
  by_cases hf : b.2.2.1 = 0
  · rw [decide_eq_true hf] at CF
    have hp9 := tkP_le hb
    have em : musM b x = if byM b (tkP b) = x then bAt b (tkP b + 1) else bWr (bAt b (tkP b)) 1 (nI (tkP b)) := if_pos hf
    rw [em]
    by_cases hq : byM b (tkP b) = x
    · rw [if_pos hq]
      refine pn_aload_n (q := 1) dX7_must_0 rfl rfl rfl ?_
      refine pn_idV (q := 4) (bc9 := 0) (bs9 := 0) (CF) lkX7_116 dX7_must_1 rfl rfl (hM_cl) (hM_cl) (Nat.le_of_ble_eq_true rfl) rfl rfl rfl rfl rfl rfl (by omega) (by omega) (by omega) (Nat.le_of_ble_eq_true rfl) ?_
      refine pn_bne (q := 7) (tgt := 8) dX7_must_4 (by decide) rfl (fun hc4 => ?_) (fun hc4 => ?_)
      · refine pn_aload_n (q := 9) dX7_must_8 rfl rfl rfl ?_
        refine pn_idV (q := 12) (bc9 := 0) (bs9 := 0) (m_here adK d Y P a b c e f g h hb) lkX7_120 dX7_must_9 rfl rfl (hM_cl) (hM_cl) (Nat.le_of_ble_eq_true rfl) rfl rfl rfl rfl rfl rfl (by omega) (by omega) (by omega) (Nat.le_of_ble_eq_true rfl) ?_
        refine pn_iload_n (q := 13) dX7_must_12 rfl rfl ?_
        refine pn_icmp_ne (q := 16) (tgt := 29) dX7_must_13 (by decide) rfl (fun hc13 => ?_) (fun hc13 => ?_)
        · exact (hc13 hq).elim
        · refine pn_aload_n (q := 17) dX7_must_16 rfl rfl rfl ?_
          refine pn_dup (q := 18) dX7_must_17 rfl rfl ?_
          (refine pn_get (q := 21) fX7_103 dX7_must_18 rfl rfl rfl ?_)
          refine pn_eq (h' := _) (st' := .int (nI (tkP b)) :: _) rfl rfl ?_
          refine pn_iconst (q := 22) (v := nI 1) dX7_must_21 rfl (by decide) ?_
          first | with_reducible refine pn_iaddN (q := 23) dX7_must_22 rfl ?_ | refine pn_iadd (q := 23) dX7_must_22 rfl ?_
          refine pn_put (q := 26) fX7_103 dX7_must_23 rfl rfl (Nat.le_of_ble_eq_true rfl) (pnF_int _) ?_
          refine pn_goto (q := 38) dX7_must_26 (by decide) ?_
          refine pn_vret dX7_must_38 rfl ?_
          exact ⟨rfl, rfl⟩
      · cases hc4
    · rw [if_neg hq]
      refine pn_aload_n (q := 1) dX7_must_0 rfl rfl rfl ?_
      refine pn_idV (q := 4) (bc9 := 0) (bs9 := 0) (CF) lkX7_116 dX7_must_1 rfl rfl (hM_cl) (hM_cl) (Nat.le_of_ble_eq_true rfl) rfl rfl rfl rfl rfl rfl (by omega) (by omega) (by omega) (Nat.le_of_ble_eq_true rfl) ?_
      refine pn_bne (q := 7) (tgt := 8) dX7_must_4 (by decide) rfl (fun hc4 => ?_) (fun hc4 => ?_)
      · refine pn_aload_n (q := 9) dX7_must_8 rfl rfl rfl ?_
        refine pn_idV (q := 12) (bc9 := 0) (bs9 := 0) (m_here adK d Y P a b c e f g h hb) lkX7_120 dX7_must_9 rfl rfl (hM_cl) (hM_cl) (Nat.le_of_ble_eq_true rfl) rfl rfl rfl rfl rfl rfl (by omega) (by omega) (by omega) (Nat.le_of_ble_eq_true rfl) ?_
        refine pn_iload_n (q := 13) dX7_must_12 rfl rfl ?_
        refine pn_icmp_ne (q := 16) (tgt := 29) dX7_must_13 (by decide) rfl (fun hc13 => ?_) (fun hc13 => ?_)
        · refine pn_aload_n (q := 30) dX7_must_29 rfl rfl rfl ?_
          refine pn_iconst (q := 31) (v := nI 1) dX7_must_30 rfl (by decide) ?_
          refine pn_aload_n (q := 32) dX7_must_31 rfl rfl rfl ?_
          (refine pn_get (q := 35) fX7_103 dX7_must_32 rfl rfl rfl ?_)
          refine pn_eq (h' := _) (st' := .int (nI (tkP b)) :: _) rfl rfl ?_
          refine pn_idV (q := 38) (bc9 := 0) (bs9 := 0) (m_wrong adK d Y P a (heB b) c e f g h 1 (nI (tkP b)) hf4) lkX7_137 dX7_must_35 rfl rfl (hM_cl) (hM_cl) (Nat.le_of_ble_eq_true rfl) rfl rfl rfl rfl rfl rfl (by omega) (by omega) (by omega) (Nat.le_of_ble_eq_true rfl) ?_
          refine pn_vret dX7_must_38 rfl ?_
          exact ⟨rfl, rfl⟩
        · exact (hq hc13).elim
      · cases hc4
  · rw [decide_eq_false hf] at CF
    rw [show musM b x = b from if_neg hf]
    refine pn_aload_n (q := 1) dX7_must_0 rfl rfl rfl ?_
    refine pn_idV (q := 4) (bc9 := 0) (bs9 := 0) (CF) lkX7_116 dX7_must_1 rfl rfl (hM_cl) (hM_cl) (Nat.le_of_ble_eq_true rfl) rfl rfl rfl rfl rfl rfl (by omega) (by omega) (by omega) (Nat.le_of_ble_eq_true rfl) ?_
    refine pn_bne (q := 7) (tgt := 8) dX7_must_4 (by decide) rfl (fun hc4 => ?_) (fun hc4 => ?_)
    · cases hc4
    · refine pn_vret dX7_must_7 rfl ?_
      exact ⟨rfl, rfl⟩
