/-! ===== the reader ===== -/
def hRd (fp : Int32) (flt len st en kd vl : Nat) (shd : Bool) (pct bct : Nat) (D : NS) (pn pl bl : Nat → Int32) (b : Nat → Int32) : List pnE :=
  .inr (3, [.ref 1, .int fp, .int (nI flt), .ref 8, .int (nI len), .int (nI st), .int (nI en), .int (nI kd), .int (nI vl), .int (nB shd), .int (nI pct), .int (nI bct), .ref 5, .ref 6, .ref 7]) :: (hNS 1 D ++ [.inl (0, 250, .inl pn), .inl (0, 50, .inl pl), .inl (0, 4, .inl bl), .inl (2, 300, .inl b)])
theorem hRd_cl (fp : Int32) (flt len st en kd vl : Nat) (shd : Bool) (pct bct : Nat) (D : NS) (pn pl bl : Nat → Int32) (b : Nat → Int32) : pnCH (hRd fp flt len st en kd vl shd pct bct D pn pl bl b) := pnCH_b rfl
def byN (len : Nat) (b : Nat → Int32) (p : Nat) : Int32 := if p < len then b p else 0
set_option maxRecDepth 100000 in
theorem c_byteAt (adK : Nat → Nat) (d : Nat) (fp : Int32) (flt len st en kd vl : Nat) (shd : Bool) (pct bct : Nat) (D : NS) (pn pl bl : Nat → Int32) (b : Nat → Int32) (p : Nat) (hl : len ≤ 300) (hp : p ≤ 1000) : pnCt mX3_byteAt adK d 0 0 [.ref 0, .int (nI p)] (hRd fp flt len st en kd vl shd pct bct D pn pl bl b) (pnIs (.inl (some (.int (byN len b p)))) (hRd fp flt len st en kd vl shd pct bct D pn pl bl b)) := by
  refine pnCt_of (by decide) kX3_byteAt (Nat.le_of_ble_eq_true rfl) rfl (hRd_cl _ _ _ _ _ _ _ _ _ _ _ _ _ _ _) (pnCS_b rfl) ?_
  refine pn_iload_n (q := 1) dX3_byteAt_0 rfl rfl ?_
  first | refine pn_zlt (q := 4) (tgt := 30) dX3_byteAt_1 (by decide) rfl (by omega) (fun hc1 => ?_) (fun hc1 => ?_) | refine pn_if_lt (q := 4) (tgt := 30) dX3_byteAt_1 (by decide) rfl (fun hc1 => ?_) (fun hc1 => ?_)
  · exact hc1.elim
  · refine pn_iload_n (q := 5) dX3_byteAt_4 rfl rfl ?_
    refine pn_aload_n (q := 6) dX3_byteAt_5 rfl rfl rfl ?_
    refine pn_get (q := 9) fX3_29 dX3_byteAt_6 rfl rfl rfl ?_
    first | refine pn_nge (q := 12) (tgt := 30) dX3_byteAt_9 (by decide) rfl (by omega) (by omega) (fun hc9 => ?_) (fun hc9 => ?_) | refine pn_icmp_ge (q := 12) (tgt := 30) dX3_byteAt_9 (by decide) rfl (fun hc9 => ?_) (fun hc9 => ?_)
    · refine pn_iconst (q := 31) (v := nI 0) dX3_byteAt_30 rfl (by decide) ?_
      refine pn_iret dX3_byteAt_31 rfl ?_
      first | (rw [show byN len b p = 0 from if_neg (by omega)]; exact ⟨rfl, rfl⟩) | (rw [show byN len b p = b p from if_pos (by omega)]; exact ⟨rfl, rfl⟩)
    · refine pn_iload_n (q := 13) dX3_byteAt_12 rfl rfl ?_
      refine pn_aload_n (q := 14) dX3_byteAt_13 rfl rfl rfl ?_
      refine pn_get (q := 17) fX3_25 dX3_byteAt_14 rfl rfl rfl ?_
      refine pn_alen (q := 18) dX3_byteAt_17 rfl rfl (by decide) ?_
      first | refine pn_nge (q := 21) (tgt := 30) dX3_byteAt_18 (by decide) rfl (by omega) (by omega) (fun hc18 => ?_) (fun hc18 => ?_) | refine pn_icmp_ge (q := 21) (tgt := 30) dX3_byteAt_18 (by decide) rfl (fun hc18 => ?_) (fun hc18 => ?_)
      · omega
      · refine pn_aload_n (q := 22) dX3_byteAt_21 rfl rfl rfl ?_
        refine pn_get (q := 25) fX3_25 dX3_byteAt_22 rfl rfl rfl ?_
        refine pn_iload_n (q := 26) dX3_byteAt_25 rfl rfl ?_
        refine pn_bald (q := 27) dX3_byteAt_26 rfl rfl rfl (by omega) (by first | decide | omega) ?_
        refine pn_goto (q := 31) dX3_byteAt_27 (by decide) ?_
        refine pn_iret dX3_byteAt_31 rfl ?_
        first | (rw [show byN len b p = 0 from if_neg (by omega)]; exact ⟨rfl, rfl⟩) | (rw [show byN len b p = b p from if_pos (by omega)]; exact ⟨rfl, rfl⟩)
def ltB (x : Int32) : Bool := decide (¬ x < nI 97 ∧ ¬ nI 122 < x)
def dgB (x : Int32) : Bool := decide (¬ x < nI 48 ∧ ¬ nI 57 < x)
set_option maxRecDepth 100000 in
theorem c_isLetter (adK : Nat → Nat) (d : Nat) (x : Int32) : pnCt mX3_isLetter adK d 0 0 [.int x] [] (pnIs (.inl (some (.int (nB (ltB x))))) []) := by
  refine pnCt_of (by decide) kX3_isLetter (Nat.le_of_ble_eq_true rfl) rfl (pnCH_b rfl) (pnCS_b rfl) ?_
  refine pn_iload_n (q := 1) dX3_isLetter_0 rfl rfl ?_
  refine pn_bipush (q := 3) (v := nI 97) dX3_isLetter_1 rfl (by decide) ?_
  first | refine pn_nlt (q := 6) (tgt := 16) dX3_isLetter_3 (by decide) rfl (by omega) (by omega) (fun hc3 => ?_) (fun hc3 => ?_) | refine pn_icmp_lt (q := 6) (tgt := 16) dX3_isLetter_3 (by decide) rfl (fun hc3 => ?_) (fun hc3 => ?_)
  · refine pn_iconst (q := 17) (v := nI 0) dX3_isLetter_16 rfl (by decide) ?_
    refine pn_tret (b := ltB x) _ ?_ dX3_isLetter_17 rfl ?_
    · first | (rw [show ltB x = true from decide_eq_true ⟨hc3, hc9⟩]; rfl) | (rw [show ltB x = false from decide_eq_false (fun q => q.2 hc9)]; rfl) | (rw [show ltB x = false from decide_eq_false (fun q => q.1 hc3)]; rfl)
    · exact ⟨rfl, rfl⟩
  · refine pn_iload_n (q := 7) dX3_isLetter_6 rfl rfl ?_
    refine pn_bipush (q := 9) (v := nI 122) dX3_isLetter_7 rfl (by decide) ?_
    first | refine pn_ngt (q := 12) (tgt := 16) dX3_isLetter_9 (by decide) rfl (by omega) (by omega) (fun hc9 => ?_) (fun hc9 => ?_) | refine pn_icmp_gt (q := 12) (tgt := 16) dX3_isLetter_9 (by decide) rfl (fun hc9 => ?_) (fun hc9 => ?_)
    · refine pn_iconst (q := 17) (v := nI 0) dX3_isLetter_16 rfl (by decide) ?_
      refine pn_tret (b := ltB x) _ ?_ dX3_isLetter_17 rfl ?_
      · first | (rw [show ltB x = true from decide_eq_true ⟨hc3, hc9⟩]; rfl) | (rw [show ltB x = false from decide_eq_false (fun q => q.2 hc9)]; rfl) | (rw [show ltB x = false from decide_eq_false (fun q => q.1 hc3)]; rfl)
      · exact ⟨rfl, rfl⟩
    · refine pn_iconst (q := 13) (v := nI 1) dX3_isLetter_12 rfl (by decide) ?_
      refine pn_goto (q := 17) dX3_isLetter_13 (by decide) ?_
      refine pn_tret (b := ltB x) _ ?_ dX3_isLetter_17 rfl ?_
      · first | (rw [show ltB x = true from decide_eq_true ⟨hc3, hc9⟩]; rfl) | (rw [show ltB x = false from decide_eq_false (fun q => q.2 hc9)]; rfl) | (rw [show ltB x = false from decide_eq_false (fun q => q.1 hc3)]; rfl)
      · exact ⟨rfl, rfl⟩
set_option maxRecDepth 100000 in
theorem c_isDigit (adK : Nat → Nat) (d : Nat) (x : Int32) : pnCt mX3_isDigit adK d 0 0 [.int x] [] (pnIs (.inl (some (.int (nB (dgB x))))) []) := by
  refine pnCt_of (by decide) kX3_isDigit (Nat.le_of_ble_eq_true rfl) rfl (pnCH_b rfl) (pnCS_b rfl) ?_
  refine pn_iload_n (q := 1) dX3_isDigit_0 rfl rfl ?_
  refine pn_bipush (q := 3) (v := nI 48) dX3_isDigit_1 rfl (by decide) ?_
  first | refine pn_nlt (q := 6) (tgt := 16) dX3_isDigit_3 (by decide) rfl (by omega) (by omega) (fun hc3 => ?_) (fun hc3 => ?_) | refine pn_icmp_lt (q := 6) (tgt := 16) dX3_isDigit_3 (by decide) rfl (fun hc3 => ?_) (fun hc3 => ?_)
  · refine pn_iconst (q := 17) (v := nI 0) dX3_isDigit_16 rfl (by decide) ?_
    refine pn_tret (b := dgB x) _ ?_ dX3_isDigit_17 rfl ?_
    · first | (rw [show dgB x = true from decide_eq_true ⟨hc3, hc9⟩]; rfl) | (rw [show dgB x = false from decide_eq_false (fun q => q.2 hc9)]; rfl) | (rw [show dgB x = false from decide_eq_false (fun q => q.1 hc3)]; rfl)
    · exact ⟨rfl, rfl⟩
  · refine pn_iload_n (q := 7) dX3_isDigit_6 rfl rfl ?_
    refine pn_bipush (q := 9) (v := nI 57) dX3_isDigit_7 rfl (by decide) ?_
    first | refine pn_ngt (q := 12) (tgt := 16) dX3_isDigit_9 (by decide) rfl (by omega) (by omega) (fun hc9 => ?_) (fun hc9 => ?_) | refine pn_icmp_gt (q := 12) (tgt := 16) dX3_isDigit_9 (by decide) rfl (fun hc9 => ?_) (fun hc9 => ?_)
    · refine pn_iconst (q := 17) (v := nI 0) dX3_isDigit_16 rfl (by decide) ?_
      refine pn_tret (b := dgB x) _ ?_ dX3_isDigit_17 rfl ?_
      · first | (rw [show dgB x = true from decide_eq_true ⟨hc3, hc9⟩]; rfl) | (rw [show dgB x = false from decide_eq_false (fun q => q.2 hc9)]; rfl) | (rw [show dgB x = false from decide_eq_false (fun q => q.1 hc3)]; rfl)
      · exact ⟨rfl, rfl⟩
    · refine pn_iconst (q := 13) (v := nI 1) dX3_isDigit_12 rfl (by decide) ?_
      refine pn_goto (q := 17) dX3_isDigit_13 (by decide) ?_
      refine pn_tret (b := dgB x) _ ?_ dX3_isDigit_17 rfl ?_
      · first | (rw [show dgB x = true from decide_eq_true ⟨hc3, hc9⟩]; rfl) | (rw [show dgB x = false from decide_eq_false (fun q => q.2 hc9)]; rfl) | (rw [show dgB x = false from decide_eq_false (fun q => q.1 hc3)]; rfl)
      · exact ⟨rfl, rfl⟩
set_option maxRecDepth 100000 in
theorem c_refuse (adK : Nat → Nat) (d : Nat) (fp : Int32) (flt len st en kd vl : Nat) (shd : Bool) (pct bct : Nat) (D : NS) (pn pl bl : Nat → Int32) (b : Nat → Int32) (r : Nat) : pnCt mX3_refuse adK d 0 0 [.ref 0, .int (nI r)] (hRd fp flt len st en kd vl shd pct bct D pn pl bl b) (pnIs (.inl (some (.int (nB false)))) (hRd (nI st) r len st en kd vl shd pct bct D pn pl bl b)) := by
  refine pnCt_of (by decide) kX3_refuse (Nat.le_of_ble_eq_true rfl) rfl (hRd_cl _ _ _ _ _ _ _ _ _ _ _ _ _ _ _) (pnCS_b rfl) ?_
  refine pn_aload_n (q := 1) dX3_refuse_0 rfl rfl rfl ?_
  refine pn_iload_n (q := 2) dX3_refuse_1 rfl rfl ?_
  refine pn_put (q := 5) fX3_22 dX3_refuse_2 rfl rfl (Nat.le_of_ble_eq_true rfl) (pnF_int _) ?_
  refine pn_aload_n (q := 6) dX3_refuse_5 rfl rfl rfl ?_
  refine pn_aload_n (q := 7) dX3_refuse_6 rfl rfl rfl ?_
  refine pn_get (q := 10) fX3_32 dX3_refuse_7 rfl rfl rfl ?_
  refine pn_put (q := 13) fX3_18 dX3_refuse_10 rfl rfl (Nat.le_of_ble_eq_true rfl) (pnF_int _) ?_
  refine pn_iconst (q := 14) (v := nI 0) dX3_refuse_13 rfl (by decide) ?_
  refine pn_tret (b := false) _ ?_ dX3_refuse_14 rfl ?_
  · rfl
  · exact ⟨rfl, rfl⟩
theorem dgB_nat {x : Int32} (h : dgB x = true) : ∃ j, j ≤ 9 ∧ x = nI (48 + j) := by
  have h1 := of_decide_eq_true h
  rcases hasN_cases x 58 (by omega) with ⟨q, -⟩ | ⟨q, -, -⟩ | ⟨j, hj, e, -⟩
  · refine (h1.1 ?_).elim
    have e1 : (nI 48).toInt = 48 := by decide
    have e0 : (0 : Int32).toInt = 0 := by decide
    rw [Int32.lt_iff_toInt_lt] at q ⊢
    omega
  · refine (h1.2 ?_).elim
    have e1 : (nI 57).toInt = 57 := by decide
    have e0 : (nI 58).toInt = 58 := by decide
    rw [Int32.le_iff_toInt_le] at q
    rw [Int32.lt_iff_toInt_lt]
    omega
  · have h2 := h1.1
    rw [e, Int32.lt_iff_toInt_lt, nI_toInt (by omega), show (nI 48).toInt = 48 by decide] at h2
    exact ⟨j - 48, by omega, by rw [e, show 48 + (j - 48) = j by omega]⟩
def dgN (x : Int32) : Nat := x.toNatClampNeg - 48
def skS (b : Nat → Int32) : Nat → Nat → Nat
  | 0, p => p
  | z + 1, p => if b p = nI 32 then skS b z (p + 1) else p
def leE (b : Nat → Int32) : Nat → Nat → Nat
  | 0, p => p
  | z + 1, p => if ltB (b p) = true then leE b z (p + 1) else p
def dgE (b : Nat → Int32) : Nat → Nat → Nat
  | 0, p => p
  | z + 1, p => if dgB (b p) = true then dgE b z (p + 1) else p
def dgV (b : Nat → Int32) : Nat → Nat → Nat → Nat
  | 0, _, v => v
  | z + 1, p, v => if dgB (b p) = true then dgV b z (p + 1) (min 1000 (v * 10 + dgN (b p))) else v
theorem skS_le (b : Nat → Int32) : ∀ z p, p ≤ skS b z p ∧ skS b z p ≤ p + z
  | 0, p => ⟨Nat.le_refl _, Nat.le_refl _⟩
  | z + 1, p => by have := skS_le b z (p + 1); unfold skS; split <;> omega
theorem leE_le (b : Nat → Int32) : ∀ z p, p ≤ leE b z p ∧ leE b z p ≤ p + z
  | 0, p => ⟨Nat.le_refl _, Nat.le_refl _⟩
  | z + 1, p => by have := leE_le b z (p + 1); unfold leE; split <;> omega
theorem dgE_le (b : Nat → Int32) : ∀ z p, p ≤ dgE b z p ∧ dgE b z p ≤ p + z
  | 0, p => ⟨Nat.le_refl _, Nat.le_refl _⟩
  | z + 1, p => by have := dgE_le b z (p + 1); unfold dgE; split <;> omega
theorem dgV_le (b : Nat → Int32) : ∀ z p v, v ≤ 1000 → dgV b z p v ≤ 1000
  | 0, p, v, h => h
  | z + 1, p, v, h => by
    unfold dgV
    split
    · exact dgV_le b z (p + 1) _ (Nat.min_le_left _ _)
    · exact h
/-- the token behind place e: its start, kind, end, value -/
def tkS (len : Nat) (b : Nat → Int32) (e : Nat) : Nat := skS b (len - e) e
def tkK (len : Nat) (b : Nat → Int32) (e : Nat) : Nat := if len ≤ tkS len b e then 0 else if ltB (b (tkS len b e)) = true then 1 else if dgB (b (tkS len b e)) = true then 2 else if b (tkS len b e) = nI 59 then 3 else 4
def tkE (len : Nat) (b : Nat → Int32) (e : Nat) : Nat := if len ≤ tkS len b e then tkS len b e else if ltB (b (tkS len b e)) = true then leE b (len - tkS len b e) (tkS len b e) else if dgB (b (tkS len b e)) = true then dgE b (len - tkS len b e) (tkS len b e) else tkS len b e + 1
def tkV (len : Nat) (b : Nat → Int32) (e v : Nat) : Nat := if len ≤ tkS len b e then v else if ltB (b (tkS len b e)) = true then v else if dgB (b (tkS len b e)) = true then dgV b (len - tkS len b e) (tkS len b e) 0 else v
