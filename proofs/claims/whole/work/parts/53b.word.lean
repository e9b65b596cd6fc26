/-- do these letters stand at this place -/
def wdM (b : Nat → Int32) : Nat → List Char → Bool
  | _, [] => true
  | p, c :: t => decide (b p = nI c.toNat) && wdM b (p + 1) t
def wdB (b : Nat → Int32) (st en kd : Nat) (w : List Char) : Bool := decide (kd = 1 ∧ en - st = w.length) && wdM b st w
theorem drop_at {α : Type} {l t : List α} {c a : α} {i : Nat} (e : l.drop i = c :: t) : i < l.length ∧ l.getD i a = c ∧ l.drop (i + 1) = t := by
  have h1 : i < l.length := by
    rcases Nat.lt_or_ge i l.length with h | h
    · exact h
    · rw [List.drop_of_length_le h] at e; cases e
  rw [List.drop_eq_getElem_cons h1] at e
  refine ⟨h1, ?_, (List.cons.inj e).2⟩
  rw [List.getD_eq_getElem?_getD, List.getElem?_eq_getElem h1]
  exact (List.cons.inj e).1
set_option maxRecDepth 100000 in
theorem c_isWord (adK : Nat → Nat) (d : Nat) (fp : Int32) (flt len st en kd vl : Nat) (shd : Bool) (pct bct : Nat) (D : NS) (pn pl bl : Nat → Int32) (b : Nat → Int32) (j : Nat) (x : String × Nat × String) (hj : pnStr[j]? = some x) (hx : x.2.2.length < 1000) (hch : ∀ i, i < x.2.2.length → (x.2.2.toList.getD i 'a').toNat < 128) (hl : len ≤ 300) (hse : st ≤ en) (he : en ≤ len) (hk : kd ≤ 4) : pnCt mX3_isWord adK (d + 4) 0 0 [.ref 0, .retAddr (adK j)] (hRd fp flt len st en kd vl shd pct bct D pn pl bl b) (pnIs (.inl (some (.int (nB (wdB b st en kd x.2.2.toList))))) (hRd fp flt len st en kd vl shd pct bct D pn pl bl b)) := by
  refine pnCt_of (by decide) kX3_isWord (Nat.le_of_ble_eq_true rfl) rfl (hRd_cl _ _ _ _ _ _ _ _ _ _ _ _ _ _ _) (pnCS_b rfl) ?_
  have hlw : x.2.2.toList.length = x.2.2.length := String.length_toList
  by_cases h0 : kd = 1 ∧ en - st = x.2.2.toList.length
  · have er : wdB b st en kd x.2.2.toList = wdM b st x.2.2.toList := by unfold wdB; rw [decide_eq_true h0]; rfl
    rw [er]
    have loop : ∀ (t : List Char) (i : Nat), x.2.2.toList.drop i = t → wdM b (st + i) t = wdM b st x.2.2.toList → i ≤ x.2.2.length → pnWP mX3_isWord adK (d + 4) (pnIs (.inl (some (.int (nB (wdM b st x.2.2.toList))))) (hRd fp flt len st en kd vl shd pct bct D pn pl bl b)) 0 0 (hRd fp flt len st en kd vl shd pct bct D pn pl bl b) [some (.ref 0), some (.retAddr (adK j)), some (.int (nI i))] [] 28 := by
      intro t
      induction t with
      | nil =>
        intro i e1 e2 hi
        have h1 : x.2.2.toList.length ≤ i := by
          rcases Nat.lt_or_ge i x.2.2.toList.length with h | h
          · rw [List.drop_eq_getElem_cons h] at e1; cases e1
          · exact h
        have e3 : wdM b st x.2.2.toList = true := e2.symm
        rw [e3]
        refine pn_iload_n (q := 29) dX3_isWord_28 rfl rfl ?_
        refine pn_aload_n (q := 30) dX3_isWord_29 rfl rfl rfl ?_
        refine pn_strV (q := 33) hj (c_strlen adK d j x hj) lkX3_181 rfl dX3_isWord_30 rfl rfl rfl (by omega) (Nat.le_of_ble_eq_true rfl) rfl ?_
        first | refine pn_nge (q := 36) (tgt := 62) dX3_isWord_33 (by decide) rfl (by omega) (by omega) (fun hc33 => ?_) (fun hc33 => ?_) | refine pn_icmp_ge (q := 36) (tgt := 62) dX3_isWord_33 (by decide) rfl (fun hc33 => ?_) (fun hc33 => ?_)
        · refine pn_iconst (q := 63) (v := nI 1) dX3_isWord_62 rfl (by decide) ?_
          refine pn_tret (b := true) _ ?_ dX3_isWord_63 rfl ?_
          · rfl
          · exact ⟨rfl, rfl⟩
        · omega
      | cons c t ih =>
        intro i e1 e2 hi
        obtain ⟨h1, h2, h3⟩ := drop_at (a := 'a') e1
        have e3 : wdM b (st + i) (c :: t) = (decide (b (st + i) = nI c.toNat) && wdM b (st + i + 1) t) := rfl
        rw [e3] at e2
        have CC := c_charAt adK d j i x hj (by omega) hx (hch i (by omega))
        rw [h2] at CC
        have CB := c_byteAt adK d fp flt len st en kd vl shd pct bct D pn pl bl b (st + i) hl (by omega)
        rw [show byN len b (st + i) = b (st + i) from if_pos (by omega)] at CB
        refine pn_iload_n (q := 29) dX3_isWord_28 rfl rfl ?_
        refine pn_aload_n (q := 30) dX3_isWord_29 rfl rfl rfl ?_
        refine pn_strV (q := 33) hj (c_strlen adK d j x hj) lkX3_181 rfl dX3_isWord_30 rfl rfl rfl (by omega) (Nat.le_of_ble_eq_true rfl) rfl ?_
        first | refine pn_nge (q := 36) (tgt := 62) dX3_isWord_33 (by decide) rfl (by omega) (by omega) (fun hc33 => ?_) (fun hc33 => ?_) | refine pn_icmp_ge (q := 36) (tgt := 62) dX3_isWord_33 (by decide) rfl (fun hc33 => ?_) (fun hc33 => ?_)
        · omega
        · refine pn_aload_n (q := 37) dX3_isWord_36 rfl rfl rfl ?_
          refine pn_aload_n (q := 38) dX3_isWord_37 rfl rfl rfl ?_
          refine pn_get (q := 41) fX3_32 dX3_isWord_38 rfl rfl rfl ?_
          refine pn_iload_n (q := 42) dX3_isWord_41 rfl rfl ?_
          first | with_reducible refine pn_iaddN (q := 43) dX3_isWord_42 rfl ?_ | refine pn_iadd (q := 43) dX3_isWord_42 rfl ?_
          refine pn_roV1 (q := 46) (CB) lkX3_186 dX3_isWord_43 rfl rfl (pnSel_of (I := [0, 1, 2, 3, 4, 5, 6, 7, 8]) rfl rfl) (pnFree_none rfl) rfl rfl rfl (by omega) (Nat.le_of_ble_eq_true rfl) rfl ?_
          refine pn_aload_n (q := 47) dX3_isWord_46 rfl rfl rfl ?_
          refine pn_iload_n (q := 48) dX3_isWord_47 rfl rfl ?_
          refine pn_strV (q := 51) hj CC lkX3_190 rfl dX3_isWord_48 rfl rfl rfl (by omega) (Nat.le_of_ble_eq_true rfl) rfl ?_
          refine pn_icmp_eq (q := 54) (tgt := 56) dX3_isWord_51 (by decide) rfl (fun hc51 => ?_) (fun hc51 => ?_)
          · first | refine pn_iinc1 (q := 59) dX3_isWord_56 rfl rfl (by decide) ?_ | refine pn_iinc (q := 59) (mm := 1) dX3_isWord_56 rfl rfl (by decide) (by decide) ?_
            refine pn_goto (q := 28) dX3_isWord_59 (by decide) ?_
            (rw [decide_eq_true hc51] at e2; exact ih (i + 1) h3 e2 (by omega))
          · refine pn_iconst (q := 55) (v := nI 0) dX3_isWord_54 rfl (by decide) ?_
            refine pn_tret (b := false) _ ?_ dX3_isWord_55 rfl ?_
            · rfl
            · (rw [decide_eq_false hc51] at e2; rw [← e2]; exact ⟨rfl, rfl⟩)
    refine pn_aload_n (q := 1) dX3_isWord_0 rfl rfl rfl ?_
    refine pn_get (q := 4) fX3_38 dX3_isWord_1 rfl rfl rfl ?_
    refine pn_iconst (q := 5) (v := nI 1) dX3_isWord_4 rfl (by decide) ?_
    first | refine pn_nne (q := 8) (tgt := 24) dX3_isWord_5 (by decide) rfl (by omega) (by omega) (fun hc5 => ?_) (fun hc5 => ?_) | refine pn_icmp_ne (q := 8) (tgt := 24) dX3_isWord_5 (by decide) rfl (fun hc5 => ?_) (fun hc5 => ?_)
    · omega
    · refine pn_aload_n (q := 9) dX3_isWord_8 rfl rfl rfl ?_
      refine pn_get (q := 12) fX3_35 dX3_isWord_9 rfl rfl rfl ?_
      refine pn_aload_n (q := 13) dX3_isWord_12 rfl rfl rfl ?_
      refine pn_get (q := 16) fX3_32 dX3_isWord_13 rfl rfl rfl ?_
      first | with_reducible refine pn_isubN (q := 17) dX3_isWord_16 rfl (by omega) ?_ | refine pn_isub (q := 17) dX3_isWord_16 rfl ?_
      refine pn_aload_n (q := 18) dX3_isWord_17 rfl rfl rfl ?_
      refine pn_strV (q := 21) hj (c_strlen adK d j x hj) lkX3_181 rfl dX3_isWord_18 rfl rfl rfl (by omega) (Nat.le_of_ble_eq_true rfl) rfl ?_
      first | refine pn_neq (q := 24) (tgt := 26) dX3_isWord_21 (by decide) rfl (by omega) (by omega) (fun hc21 => ?_) (fun hc21 => ?_) | refine pn_icmp_eq (q := 24) (tgt := 26) dX3_isWord_21 (by decide) rfl (fun hc21 => ?_) (fun hc21 => ?_)
      · refine pn_iconst (q := 27) (v := nI 0) dX3_isWord_26 rfl (by decide) ?_
        refine pn_istore_n (q := 28) dX3_isWord_27 rfl (by decide) ?_
        exact loop x.2.2.toList 0 rfl rfl (by omega)
      · omega
  · have er : wdB b st en kd x.2.2.toList = false := by unfold wdB; rw [decide_eq_false h0]; rfl
    rw [er]
    refine pn_aload_n (q := 1) dX3_isWord_0 rfl rfl rfl ?_
    refine pn_get (q := 4) fX3_38 dX3_isWord_1 rfl rfl rfl ?_
    refine pn_iconst (q := 5) (v := nI 1) dX3_isWord_4 rfl (by decide) ?_
    first | refine pn_nne (q := 8) (tgt := 24) dX3_isWord_5 (by decide) rfl (by omega) (by omega) (fun hc5 => ?_) (fun hc5 => ?_) | refine pn_icmp_ne (q := 8) (tgt := 24) dX3_isWord_5 (by decide) rfl (fun hc5 => ?_) (fun hc5 => ?_)
    · refine pn_iconst (q := 25) (v := nI 0) dX3_isWord_24 rfl (by decide) ?_
      refine pn_tret (b := false) _ ?_ dX3_isWord_25 rfl ?_
      · rfl
      · exact ⟨rfl, rfl⟩
    · refine pn_aload_n (q := 9) dX3_isWord_8 rfl rfl rfl ?_
      refine pn_get (q := 12) fX3_35 dX3_isWord_9 rfl rfl rfl ?_
      refine pn_aload_n (q := 13) dX3_isWord_12 rfl rfl rfl ?_
      refine pn_get (q := 16) fX3_32 dX3_isWord_13 rfl rfl rfl ?_
      first | with_reducible refine pn_isubN (q := 17) dX3_isWord_16 rfl (by omega) ?_ | refine pn_isub (q := 17) dX3_isWord_16 rfl ?_
      refine pn_aload_n (q := 18) dX3_isWord_17 rfl rfl rfl ?_
      refine pn_strV (q := 21) hj (c_strlen adK d j x hj) lkX3_181 rfl dX3_isWord_18 rfl rfl rfl (by omega) (Nat.le_of_ble_eq_true rfl) rfl ?_
      first | refine pn_neq (q := 24) (tgt := 26) dX3_isWord_21 (by decide) rfl (by omega) (by omega) (fun hc21 => ?_) (fun hc21 => ?_) | refine pn_icmp_eq (q := 24) (tgt := 26) dX3_isWord_21 (by decide) rfl (fun hc21 => ?_) (fun hc21 => ?_)
      · omega
      · refine pn_iconst (q := 25) (v := nI 0) dX3_isWord_24 rfl (by decide) ?_
        refine pn_tret (b := false) _ ?_ dX3_isWord_25 rfl ?_
        · rfl
        · exact ⟨rfl, rfl⟩
