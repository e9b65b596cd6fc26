/-- what a check of a number makes of the fault: its number and place -/
def nuB (kd vl lo hi : Nat) : Bool := decide (kd = 2 ∧ lo ≤ vl ∧ vl ≤ hi)
def nuF (kd vl lo hi flt : Nat) : Nat := if kd = 2 then (if lo ≤ vl ∧ vl ≤ hi then flt else 2) else 1
def nuP (kd vl lo hi st : Nat) (fp : Int32) : Int32 := if kd = 2 ∧ lo ≤ vl ∧ vl ≤ hi then fp else nI st
set_option maxRecDepth 100000 in
theorem c_isNumber (adK : Nat → Nat) (d : Nat) (fp : Int32) (flt len st en kd vl : Nat) (shd : Bool) (pct bct : Nat) (D : NS) (pn pl bl : Nat → Int32) (b : Nat → Int32) (lo hi : Nat) (hk : kd ≤ 4) (hv : vl ≤ 1000) (hlo : lo ≤ 1000) (hhi : hi ≤ 1000) : pnCt mX3_isNumber adK (d + 1) 0 0 [.ref 0, .int (nI lo), .int (nI hi)] (hRd fp flt len st en kd vl shd pct bct D pn pl bl b) (pnIs (.inl (some (.int (nB (nuB kd vl lo hi))))) (hRd (nuP kd vl lo hi st fp) (nuF kd vl lo hi flt) len st en kd vl shd pct bct D pn pl bl b)) := by
  refine pnCt_of (by decide) kX3_isNumber (Nat.le_of_ble_eq_true rfl) rfl (hRd_cl _ _ _ _ _ _ _ _ _ _ _ _ _ _ _) (pnCS_b rfl) ?_
  refine pn_aload_n (q := 1) dX3_isNumber_0 rfl rfl rfl ?_
  refine pn_get (q := 4) fX3_38 dX3_isNumber_1 rfl rfl rfl ?_
  refine pn_iconst (q := 5) (v := nI 2) dX3_isNumber_4 rfl (by decide) ?_
  first | refine pn_neq (q := 8) (tgt := 14) dX3_isNumber_5 (by decide) rfl (by omega) (by omega) (fun hc5 => ?_) (fun hc5 => ?_) | refine pn_icmp_eq (q := 8) (tgt := 14) dX3_isNumber_5 (by decide) rfl (fun hc5 => ?_) (fun hc5 => ?_)
  · refine pn_aload_n (q := 15) dX3_isNumber_14 rfl rfl rfl ?_
    refine pn_get (q := 18) fX3_41 dX3_isNumber_15 rfl rfl rfl ?_
    refine pn_iload_n (q := 19) dX3_isNumber_18 rfl rfl ?_
    first | refine pn_nlt (q := 22) (tgt := 30) dX3_isNumber_19 (by decide) rfl (by omega) (by omega) (fun hc19 => ?_) (fun hc19 => ?_) | refine pn_icmp_lt (q := 22) (tgt := 30) dX3_isNumber_19 (by decide) rfl (fun hc19 => ?_) (fun hc19 => ?_)
    · refine pn_aload_n (q := 31) dX3_isNumber_30 rfl rfl rfl ?_
      refine pn_iconst (q := 32) (v := nI 2) dX3_isNumber_31 rfl (by decide) ?_
      refine pn_upV1 (q := 35) (bc9 := 0) (bs9 := 0) (c_refuse adK d fp flt len st en kd vl shd pct bct D pn pl bl b 2) lkX3_92 dX3_isNumber_32 rfl rfl (pnSel_of (I := [0, 1, 2, 3, 4, 5, 6, 7, 8]) rfl rfl) (pnFree_none rfl) rfl rfl rfl (by omega) (by omega) (by omega) (Nat.le_of_ble_eq_true rfl) rfl ?_
      refine pn_eq (h' := (hRd (nI st) 2 len st en kd vl shd pct bct D pn pl bl b)) (st' := _) rfl rfl ?_
      refine pn_tret (b := nuB kd vl lo hi) _ ?_ dX3_isNumber_35 rfl ?_
      · first | (rw [show nuB kd vl lo hi = true from decide_eq_true (by omega)]; rfl) | (rw [show nuB kd vl lo hi = false from decide_eq_false (by omega)])
      · first | (unfold nuF nuP; rw [if_pos (by omega), if_pos (by omega), if_pos (by omega)]; exact ⟨rfl, rfl⟩) | (unfold nuF nuP; rw [if_neg (by omega), if_neg (by omega)]; exact ⟨rfl, rfl⟩) | (unfold nuF nuP; rw [if_neg (by omega), if_pos (by omega), if_neg (by omega)]; exact ⟨rfl, rfl⟩)
    · refine pn_aload_n (q := 23) dX3_isNumber_22 rfl rfl rfl ?_
      refine pn_get (q := 26) fX3_41 dX3_isNumber_23 rfl rfl rfl ?_
      refine pn_iload_n (q := 27) dX3_isNumber_26 rfl rfl ?_
      first | refine pn_nle (q := 30) (tgt := 36) dX3_isNumber_27 (by decide) rfl (by omega) (by omega) (fun hc27 => ?_) (fun hc27 => ?_) | refine pn_icmp_le (q := 30) (tgt := 36) dX3_isNumber_27 (by decide) rfl (fun hc27 => ?_) (fun hc27 => ?_)
      · refine pn_iconst (q := 37) (v := nI 1) dX3_isNumber_36 rfl (by decide) ?_
        refine pn_tret (b := nuB kd vl lo hi) _ ?_ dX3_isNumber_37 rfl ?_
        · first | (rw [show nuB kd vl lo hi = true from decide_eq_true (by omega)]; rfl) | (rw [show nuB kd vl lo hi = false from decide_eq_false (by omega)])
        · first | (unfold nuF nuP; rw [if_pos (by omega), if_pos (by omega), if_pos (by omega)]; exact ⟨rfl, rfl⟩) | (unfold nuF nuP; rw [if_neg (by omega), if_neg (by omega)]; exact ⟨rfl, rfl⟩) | (unfold nuF nuP; rw [if_neg (by omega), if_pos (by omega), if_neg (by omega)]; exact ⟨rfl, rfl⟩)
      · refine pn_aload_n (q := 31) dX3_isNumber_30 rfl rfl rfl ?_
        refine pn_iconst (q := 32) (v := nI 2) dX3_isNumber_31 rfl (by decide) ?_
        refine pn_upV1 (q := 35) (bc9 := 0) (bs9 := 0) (c_refuse adK d fp flt len st en kd vl shd pct bct D pn pl bl b 2) lkX3_92 dX3_isNumber_32 rfl rfl (pnSel_of (I := [0, 1, 2, 3, 4, 5, 6, 7, 8]) rfl rfl) (pnFree_none rfl) rfl rfl rfl (by omega) (by omega) (by omega) (Nat.le_of_ble_eq_true rfl) rfl ?_
        refine pn_eq (h' := (hRd (nI st) 2 len st en kd vl shd pct bct D pn pl bl b)) (st' := _) rfl rfl ?_
        refine pn_tret (b := nuB kd vl lo hi) _ ?_ dX3_isNumber_35 rfl ?_
        · first | (rw [show nuB kd vl lo hi = true from decide_eq_true (by omega)]; rfl) | (rw [show nuB kd vl lo hi = false from decide_eq_false (by omega)])
        · first | (unfold nuF nuP; rw [if_pos (by omega), if_pos (by omega), if_pos (by omega)]; exact ⟨rfl, rfl⟩) | (unfold nuF nuP; rw [if_neg (by omega), if_neg (by omega)]; exact ⟨rfl, rfl⟩) | (unfold nuF nuP; rw [if_neg (by omega), if_pos (by omega), if_neg (by omega)]; exact ⟨rfl, rfl⟩)
  · refine pn_aload_n (q := 9) dX3_isNumber_8 rfl rfl rfl ?_
    refine pn_iconst (q := 10) (v := nI 1) dX3_isNumber_9 rfl (by decide) ?_
    refine pn_upV1 (q := 13) (bc9 := 0) (bs9 := 0) (c_refuse adK d fp flt len st en kd vl shd pct bct D pn pl bl b 1) lkX3_92 dX3_isNumber_10 rfl rfl (pnSel_of (I := [0, 1, 2, 3, 4, 5, 6, 7, 8]) rfl rfl) (pnFree_none rfl) rfl rfl rfl (by omega) (by omega) (by omega) (Nat.le_of_ble_eq_true rfl) rfl ?_
    refine pn_eq (h' := (hRd (nI st) 1 len st en kd vl shd pct bct D pn pl bl b)) (st' := _) rfl rfl ?_
    refine pn_tret (b := nuB kd vl lo hi) _ ?_ dX3_isNumber_13 rfl ?_
    · first | (rw [show nuB kd vl lo hi = true from decide_eq_true (by omega)]; rfl) | (rw [show nuB kd vl lo hi = false from decide_eq_false (by omega)])
    · first | (unfold nuF nuP; rw [if_pos (by omega), if_pos (by omega), if_pos (by omega)]; exact ⟨rfl, rfl⟩) | (unfold nuF nuP; rw [if_neg (by omega), if_neg (by omega)]; exact ⟨rfl, rfl⟩) | (unfold nuF nuP; rw [if_neg (by omega), if_pos (by omega), if_neg (by omega)]; exact ⟨rfl, rfl⟩)
set_option maxRecDepth 100000 in
theorem c_passStop (adK : Nat → Nat) (d : Nat) (fp : Int32) (flt len st en kd vl : Nat) (shd : Bool) (pct bct : Nat) (D : NS) (pn pl bl : Nat → Int32) (b : Nat → Int32) (hl : len ≤ 300) (he : en ≤ len) (hk : kd ≤ 4) (hv : vl ≤ 1000) : pnCt mX3_passStop adK (d + 2) 0 0 [.ref 0] (hRd fp flt len st en kd vl shd pct bct D pn pl bl b) (if kd = 3 then pnIs (.inl (some (.int (nB true)))) (hRd fp flt len (tkS len b en) (tkE len b en) (tkK len b en) (tkV len b en vl) shd pct bct D pn pl bl b) else pnIs (.inl (some (.int (nB false)))) (hRd (nI st) 1 len st en kd vl shd pct bct D pn pl bl b)) := by
  refine pnCt_of (by decide) kX3_passStop (Nat.le_of_ble_eq_true rfl) rfl (hRd_cl _ _ _ _ _ _ _ _ _ _ _ _ _ _ _) (pnCS_b rfl) ?_
  by_cases e : kd = 3
  · rw [if_pos e]
    refine pn_aload_n (q := 1) dX3_passStop_0 rfl rfl rfl ?_
    refine pn_get (q := 4) fX3_38 dX3_passStop_1 rfl rfl rfl ?_
    refine pn_iconst (q := 5) (v := nI 3) dX3_passStop_4 rfl (by decide) ?_
    first | refine pn_neq (q := 8) (tgt := 14) dX3_passStop_5 (by decide) rfl (by omega) (by omega) (fun hc5 => ?_) (fun hc5 => ?_) | refine pn_icmp_eq (q := 8) (tgt := 14) dX3_passStop_5 (by decide) rfl (fun hc5 => ?_) (fun hc5 => ?_)
    · refine pn_aload_n (q := 15) dX3_passStop_14 rfl rfl rfl ?_
      refine pn_upV0 (q := 18) (bc9 := 0) (bs9 := 0) (c_advance adK d fp flt len st en kd vl shd pct bct D pn pl bl b hl he hv) lkX3_83 dX3_passStop_15 rfl rfl (pnSel_of (I := [0, 1, 2, 3, 4, 5, 6, 7, 8]) rfl rfl) (pnFree_none rfl) rfl rfl rfl (by omega) (by omega) (by omega) (Nat.le_of_ble_eq_true rfl) ?_
      refine pn_eq (h' := (hRd fp flt len (tkS len b en) (tkE len b en) (tkK len b en) (tkV len b en vl) shd pct bct D pn pl bl b)) (st' := _) rfl rfl ?_
      refine pn_iconst (q := 19) (v := nI 1) dX3_passStop_18 rfl (by decide) ?_
      refine pn_tret (b := true) _ ?_ dX3_passStop_19 rfl ?_
      · rfl
      · exact ⟨rfl, rfl⟩
    · omega
  · rw [if_neg e]
    refine pn_aload_n (q := 1) dX3_passStop_0 rfl rfl rfl ?_
    refine pn_get (q := 4) fX3_38 dX3_passStop_1 rfl rfl rfl ?_
    refine pn_iconst (q := 5) (v := nI 3) dX3_passStop_4 rfl (by decide) ?_
    first | refine pn_neq (q := 8) (tgt := 14) dX3_passStop_5 (by decide) rfl (by omega) (by omega) (fun hc5 => ?_) (fun hc5 => ?_) | refine pn_icmp_eq (q := 8) (tgt := 14) dX3_passStop_5 (by decide) rfl (fun hc5 => ?_) (fun hc5 => ?_)
    · omega
    · refine pn_aload_n (q := 9) dX3_passStop_8 rfl rfl rfl ?_
      refine pn_iconst (q := 10) (v := nI 1) dX3_passStop_9 rfl (by decide) ?_
      refine pn_upV1 (q := 13) (bc9 := 0) (bs9 := 0) (c_refuse adK (d + 1) fp flt len st en kd vl shd pct bct D pn pl bl b 1) lkX3_92 dX3_passStop_10 rfl rfl (pnSel_of (I := [0, 1, 2, 3, 4, 5, 6, 7, 8]) rfl rfl) (pnFree_none rfl) rfl rfl rfl (by omega) (by omega) (by omega) (Nat.le_of_ble_eq_true rfl) rfl ?_
      refine pn_eq (h' := (hRd (nI st) 1 len st en kd vl shd pct bct D pn pl bl b)) (st' := _) rfl rfl ?_
      refine pn_tret (b := false) _ ?_ dX3_passStop_13 rfl ?_
      · rfl
      · exact ⟨rfl, rfl⟩
