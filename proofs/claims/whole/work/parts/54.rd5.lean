/-! the reader's state in one: fault's place, fault, start, end, kind, value, shaped, parts, bases, draft, rows of nodes, lengths of parts, lengths of bases -/
abbrev RS : Type := Int32 × Nat × Nat × Nat × Nat × Nat × Bool × Nat × Nat × NS × (Nat → Int32) × (Nat → Nat) × (Nat → Nat)
def hRS (len : Nat) (b : Nat → Int32) (s : RS) : List pnE := hRd s.1 s.2.1 len s.2.2.1 s.2.2.2.1 s.2.2.2.2.1 s.2.2.2.2.2.1 s.2.2.2.2.2.2.1 s.2.2.2.2.2.2.2.1 s.2.2.2.2.2.2.2.2.1 s.2.2.2.2.2.2.2.2.2.1 s.2.2.2.2.2.2.2.2.2.2.1 (fun j => nI (s.2.2.2.2.2.2.2.2.2.2.2.1 j)) (fun j => nI (s.2.2.2.2.2.2.2.2.2.2.2.2 j)) b
theorem hRS_cl (len : Nat) (b : Nat → Int32) (s : RS) : pnCH (hRS len b s) := hRd_cl _ _ _ _ _ _ _ _ _ _ _ _ _ _ _
def rsEn (s : RS) : Nat := s.2.2.2.1
def rsKd (s : RS) : Nat := s.2.2.2.2.1
def rsVl (s : RS) : Nat := s.2.2.2.2.2.1
def rsD (s : RS) : NS := s.2.2.2.2.2.2.2.2.2.1
def advR (len : Nat) (b : Nat → Int32) (s : RS) : RS := (s.1, s.2.1, tkS len b s.2.2.2.1, tkE len b s.2.2.2.1, tkK len b s.2.2.2.1, tkV len b s.2.2.2.1 s.2.2.2.2.2.1, s.2.2.2.2.2.2)
def refR (r : Nat) (s : RS) : RS := (nI s.2.2.1, r, s.2.2)
def numB (lo hi : Nat) (s : RS) : Bool := nuB s.2.2.2.2.1 s.2.2.2.2.2.1 lo hi
def numR (lo hi : Nat) (s : RS) : RS := (nuP s.2.2.2.2.1 s.2.2.2.2.2.1 lo hi s.2.2.1 s.1, nuF s.2.2.2.2.1 s.2.2.2.2.2.1 lo hi s.2.1, s.2.2)
def setD (D : NS) (s : RS) : RS := (s.1, s.2.1, s.2.2.1, s.2.2.2.1, s.2.2.2.2.1, s.2.2.2.2.2.1, s.2.2.2.2.2.2.1, s.2.2.2.2.2.2.2.1, s.2.2.2.2.2.2.2.2.1, D, s.2.2.2.2.2.2.2.2.2.2)
/-- the token's bounds -/
def rsA (len : Nat) (s : RS) : Prop := s.2.2.2.1 ≤ len ∧ s.2.2.2.2.2.1 ≤ 1000
def rsT (len : Nat) (s : RS) : Prop := s.2.2.2.1 ≤ len ∧ s.2.2.2.2.1 ≤ 4 ∧ s.2.2.2.2.2.1 ≤ 1000 ∧ s.2.2.1 ≤ s.2.2.2.1
theorem rsT.a {len : Nat} {s : RS} (h : rsT len s) : rsA len s := ⟨h.1, h.2.2.1⟩
theorem rsT_advA {len : Nat} {b : Nat → Int32} {s : RS} (h : rsA len s) : rsT len (advR len b s) := by
  have := tk_le (b := b) h.1 h.2
  exact ⟨this.2.2.2.1, this.2.2.2.2.1, this.2.2.2.2.2.1, this.2.2.1⟩
theorem rsT_adv {len : Nat} {b : Nat → Int32} {s : RS} (h : rsT len s) : rsT len (advR len b s) := rsT_advA h.a
theorem rs_advanceA (adK : Nat → Nat) (d len : Nat) (b : Nat → Int32) (s : RS) (hl : len ≤ 300) (h : rsA len s) : pnCt mX3_advance adK (d + 1) 0 0 [.ref 0] (hRS len b s) (pnIs (.inl none) (hRS len b (advR len b s))) := c_advance adK d s.1 s.2.1 len s.2.2.1 s.2.2.2.1 s.2.2.2.2.1 s.2.2.2.2.2.1 s.2.2.2.2.2.2.1 s.2.2.2.2.2.2.2.1 s.2.2.2.2.2.2.2.2.1 s.2.2.2.2.2.2.2.2.2.1 s.2.2.2.2.2.2.2.2.2.2.1 (fun j => nI (s.2.2.2.2.2.2.2.2.2.2.2.1 j)) (fun j => nI (s.2.2.2.2.2.2.2.2.2.2.2.2 j)) b hl h.1 h.2
theorem rs_advance (adK : Nat → Nat) (d len : Nat) (b : Nat → Int32) (s : RS) (hl : len ≤ 300) (h : rsT len s) : pnCt mX3_advance adK (d + 1) 0 0 [.ref 0] (hRS len b s) (pnIs (.inl none) (hRS len b (advR len b s))) := rs_advanceA adK d len b s hl h.a
theorem rs_refuse (adK : Nat → Nat) (d len : Nat) (b : Nat → Int32) (s : RS) (r : Nat) : pnCt mX3_refuse adK d 0 0 [.ref 0, .int (nI r)] (hRS len b s) (pnIs (.inl (some (.int (nB false)))) (hRS len b (refR r s))) := c_refuse adK d s.1 s.2.1 len s.2.2.1 s.2.2.2.1 s.2.2.2.2.1 s.2.2.2.2.2.1 s.2.2.2.2.2.2.1 s.2.2.2.2.2.2.2.1 s.2.2.2.2.2.2.2.2.1 s.2.2.2.2.2.2.2.2.2.1 s.2.2.2.2.2.2.2.2.2.2.1 (fun j => nI (s.2.2.2.2.2.2.2.2.2.2.2.1 j)) (fun j => nI (s.2.2.2.2.2.2.2.2.2.2.2.2 j)) b r
theorem rs_isNumber (adK : Nat → Nat) (d len : Nat) (b : Nat → Int32) (s : RS) (lo hi : Nat) (h : rsT len s) (hlo : lo ≤ 1000) (hhi : hi ≤ 1000) : pnCt mX3_isNumber adK (d + 1) 0 0 [.ref 0, .int (nI lo), .int (nI hi)] (hRS len b s) (pnIs (.inl (some (.int (nB (numB lo hi s))))) (hRS len b (numR lo hi s))) := c_isNumber adK d s.1 s.2.1 len s.2.2.1 s.2.2.2.1 s.2.2.2.2.1 s.2.2.2.2.2.1 s.2.2.2.2.2.2.1 s.2.2.2.2.2.2.2.1 s.2.2.2.2.2.2.2.2.1 s.2.2.2.2.2.2.2.2.2.1 s.2.2.2.2.2.2.2.2.2.2.1 (fun j => nI (s.2.2.2.2.2.2.2.2.2.2.2.1 j)) (fun j => nI (s.2.2.2.2.2.2.2.2.2.2.2.2 j)) b lo hi h.2.1 h.2.2.1 hlo hhi
theorem numR_t {lo hi : Nat} {s : RS} (h : numB lo hi s = true) : numR lo hi s = s := by
  have := nu_t (st := s.2.2.1) (flt := s.2.1) (fp := s.1) h
  unfold numR
  rw [this.1, this.2]
def sizR (len : Nat) (b : Nat → Int32) (shape lo hi : Nat) (s : RS) : Bool × RS :=
  if numB lo hi (advR len b s) = true then (true, advR len b (setD ((rsD s).1, (rsD s).2.1, shape, rsVl (advR len b s), (rsD s).2.2.2.2) (advR len b s))) else (false, numR lo hi (advR len b s))
set_option maxRecDepth 100000 in
theorem c_readSize (adK : Nat → Nat) (d len : Nat) (b : Nat → Int32) (s : RS) (shape lo hi : Nat) (hl : len ≤ 300) (h : rsT len s) (hlo : lo ≤ 1000) (hhi : hi ≤ 1000) : pnCt mX3_readSize adK (d + 2) 0 0 [.ref 0, .int (nI shape), .int (nI lo), .int (nI hi)] (hRS len b s) (pnIs (.inl (some (.int (nB (sizR len b shape lo hi s).1)))) (hRS len b (sizR len b shape lo hi s).2)) := by
  refine pnCt_of (by decide) kX3_readSize (Nat.le_of_ble_eq_true rfl) rfl (hRS_cl _ _ _) (pnCS_b rfl) ?_
  have h1 := rsT_adv (b := b) h
  by_cases e : numB lo hi (advR len b s) = true
  · have e1 : sizR len b shape lo hi s = (true, advR len b (setD ((rsD s).1, (rsD s).2.1, shape, rsVl (advR len b s), (rsD s).2.2.2.2) (advR len b s))) := if_pos e
    rw [e1]
    have CN := rs_isNumber adK d len b (advR len b s) lo hi h1 hlo hhi
    rw [e, numR_t e] at CN
    refine pn_aload_n (q := 1) dX3_readSize_0 rfl rfl rfl ?_
    refine pn_upV0 (q := 4) (bc9 := 0) (bs9 := 0) (rs_advance adK d len b s hl h) lkX3_83 dX3_readSize_1 rfl rfl (pnSel_of (I := [0, 1, 2, 3, 4, 5, 6, 7, 8]) rfl rfl) (pnFree_none rfl) rfl rfl rfl (by omega) (by omega) (by omega) (Nat.le_of_ble_eq_true rfl) ?_
    refine pn_eq (h' := (hRS len b (advR len b s))) (st' := _) rfl rfl ?_
    refine pn_aload_n (q := 5) dX3_readSize_4 rfl rfl rfl ?_
    refine pn_iload_n (q := 6) dX3_readSize_5 rfl rfl ?_
    refine pn_iload_n (q := 7) dX3_readSize_6 rfl rfl ?_
    refine pn_upV1 (q := 10) (bc9 := 0) (bs9 := 0) (CN) lkX3_96 dX3_readSize_7 rfl rfl (pnSel_of (I := [0, 1, 2, 3, 4, 5, 6, 7, 8]) rfl rfl) (pnFree_none rfl) rfl rfl rfl (by omega) (by omega) (by omega) (Nat.le_of_ble_eq_true rfl) rfl ?_
    refine pn_eq (h' := (hRS len b (advR len b s))) (st' := _) rfl rfl ?_
    refine pn_bne (q := 13) (tgt := 15) dX3_readSize_10 (by decide) rfl (fun hc10 => ?_) (fun hc10 => ?_)
    · refine pn_aload_n (q := 16) dX3_readSize_15 rfl rfl rfl ?_
      refine pn_get (q := 19) fX3_12 dX3_readSize_16 rfl rfl rfl ?_
      refine pn_iload_n (q := 20) dX3_readSize_19 rfl rfl ?_
      refine pn_put (q := 23) fX3_156 dX3_readSize_20 rfl rfl (Nat.le_of_ble_eq_true rfl) (pnF_int _) ?_
      refine pn_aload_n (q := 24) dX3_readSize_23 rfl rfl rfl ?_
      refine pn_get (q := 27) fX3_12 dX3_readSize_24 rfl rfl rfl ?_
      refine pn_aload_n (q := 28) dX3_readSize_27 rfl rfl rfl ?_
      refine pn_get (q := 31) fX3_41 dX3_readSize_28 rfl rfl rfl ?_
      refine pn_put (q := 34) fX3_158 dX3_readSize_31 rfl rfl (Nat.le_of_ble_eq_true rfl) (pnF_int _) ?_
      refine pn_aload_n (q := 35) dX3_readSize_34 rfl rfl rfl ?_
      refine pn_upV0 (q := 38) (bc9 := 0) (bs9 := 0) (rs_advance adK d len b (setD ((rsD s).1, (rsD s).2.1, shape, rsVl (advR len b s), (rsD s).2.2.2.2) (advR len b s)) hl h1) lkX3_83 dX3_readSize_35 rfl rfl (pnSel_of (I := [0, 1, 2, 3, 4, 5, 6, 7, 8]) rfl rfl) (pnFree_none rfl) rfl rfl rfl (by omega) (by omega) (by omega) (Nat.le_of_ble_eq_true rfl) ?_
      refine pn_eq (h' := (hRS len b (advR len b (setD ((rsD s).1, (rsD s).2.1, shape, rsVl (advR len b s), (rsD s).2.2.2.2) (advR len b s))))) (st' := _) rfl rfl ?_
      refine pn_iconst (q := 39) (v := nI 1) dX3_readSize_38 rfl (by decide) ?_
      refine pn_tret (b := true) _ ?_ dX3_readSize_39 rfl ?_
      · rfl
      · exact ⟨rfl, rfl⟩
    · cases hc10
  · have e1 : sizR len b shape lo hi s = (false, numR lo hi (advR len b s)) := if_neg e
    rw [e1]
    have CN := rs_isNumber adK d len b (advR len b s) lo hi h1 hlo hhi
    rw [Bool.eq_false_iff.mpr e] at CN
    refine pn_aload_n (q := 1) dX3_readSize_0 rfl rfl rfl ?_
    refine pn_upV0 (q := 4) (bc9 := 0) (bs9 := 0) (rs_advance adK d len b s hl h) lkX3_83 dX3_readSize_1 rfl rfl (pnSel_of (I := [0, 1, 2, 3, 4, 5, 6, 7, 8]) rfl rfl) (pnFree_none rfl) rfl rfl rfl (by omega) (by omega) (by omega) (Nat.le_of_ble_eq_true rfl) ?_
    refine pn_eq (h' := (hRS len b (advR len b s))) (st' := _) rfl rfl ?_
    refine pn_aload_n (q := 5) dX3_readSize_4 rfl rfl rfl ?_
    refine pn_iload_n (q := 6) dX3_readSize_5 rfl rfl ?_
    refine pn_iload_n (q := 7) dX3_readSize_6 rfl rfl ?_
    refine pn_upV1 (q := 10) (bc9 := 0) (bs9 := 0) (CN) lkX3_96 dX3_readSize_7 rfl rfl (pnSel_of (I := [0, 1, 2, 3, 4, 5, 6, 7, 8]) rfl rfl) (pnFree_none rfl) rfl rfl rfl (by omega) (by omega) (by omega) (Nat.le_of_ble_eq_true rfl) rfl ?_
    refine pn_eq (h' := (hRS len b (numR lo hi (advR len b s)))) (st' := _) rfl rfl ?_
    refine pn_bne (q := 13) (tgt := 15) dX3_readSize_10 (by decide) rfl (fun hc10 => ?_) (fun hc10 => ?_)
    · cases hc10
    · refine pn_iconst (q := 14) (v := nI 0) dX3_readSize_13 rfl (by decide) ?_
      refine pn_tret (b := false) _ ?_ dX3_readSize_14 rfl ?_
      · rfl
      · exact ⟨rfl, rfl⟩
