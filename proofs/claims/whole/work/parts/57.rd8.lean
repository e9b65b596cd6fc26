def allD (D : NS) : NS := (D.1, allN D.1, D.2.2)
def entR (len : Nat) (b : Nat → Int32) (s : RS) : Bool × RS :=
  if wrdR b "all" s = true then (true, advR len b (setD (allD (rsD s)) s)) else if wrdR b "line" s = true then linR len b true s else if wrdR b "less" s = true then linR len b false s else if wrdR b "shape" s = true then shpR len b s else if wrdR b "part" s = true then prtR len b s else if wrdR b "base" s = true then basR len b s else (false, refR 1 s)
set_option maxRecDepth 100000 in
theorem c_readEntry (adK : Nat → Nat) (d len : Nat) (b : Nat → Int32) (s : RS) (hl : len ≤ 300) (h : rsT len s) (hn : (rsD s).1 ≤ 11) (hn1 : 1 ≤ (rsD s).1) (hpc : rsPc s ≤ 50) (hbc : rsBc s ≤ 4) : pnCt mX3_readEntry adK (d + 6) 0 0 [.ref 0] (hRS len b s) (pnIs (.inl (some (.int (nB (entR len b s).1)))) (hRS len b (entR len b s).2)) := by
  refine pnCt_of (by decide) kX3_readEntry (Nat.le_of_ble_eq_true rfl) rfl (hRS_cl _ _ _) (pnCS_b rfl) ?_
  unfold entR
  refine pn_aload_n (q := 1) dX3_readEntry_0 rfl rfl rfl ?_
  refine pn_ldcS (q := 3) (j := 2) rfl dX3_readEntry_1 rfl ?_
  refine pn_roV1 (q := 6) (rs_isWord adK d len b s 2 _ rfl hl h) lkX3_88 dX3_readEntry_3 rfl rfl (pnSel_of (I := [0, 1, 2, 3, 4, 5, 6, 7, 8]) rfl rfl) (pnFree_none rfl) rfl rfl rfl (by omega) (Nat.le_of_ble_eq_true rfl) rfl ?_
  refine pn_beq (q := 9) (tgt := 29) dX3_readEntry_6 (by decide) rfl (fun hc6 => ?_) (fun hc6 => ?_)
  · refine pn_aload_n (q := 30) dX3_readEntry_29 rfl rfl rfl ?_
    refine pn_ldcS (q := 32) (j := 3) rfl dX3_readEntry_30 rfl ?_
    refine pn_roV1 (q := 35) (rs_isWord adK d len b s 3 _ rfl hl h) lkX3_88 dX3_readEntry_32 rfl rfl (pnSel_of (I := [0, 1, 2, 3, 4, 5, 6, 7, 8]) rfl rfl) (pnFree_none rfl) rfl rfl rfl (by omega) (Nat.le_of_ble_eq_true rfl) rfl ?_
    refine pn_beq (q := 38) (tgt := 44) dX3_readEntry_35 (by decide) rfl (fun hc35 => ?_) (fun hc35 => ?_)
    · refine pn_aload_n (q := 45) dX3_readEntry_44 rfl rfl rfl ?_
      refine pn_ldcS (q := 47) (j := 4) rfl dX3_readEntry_45 rfl ?_
      refine pn_roV1 (q := 50) (rs_isWord adK d len b s 4 _ rfl hl h) lkX3_88 dX3_readEntry_47 rfl rfl (pnSel_of (I := [0, 1, 2, 3, 4, 5, 6, 7, 8]) rfl rfl) (pnFree_none rfl) rfl rfl rfl (by omega) (Nat.le_of_ble_eq_true rfl) rfl ?_
      refine pn_beq (q := 53) (tgt := 59) dX3_readEntry_50 (by decide) rfl (fun hc50 => ?_) (fun hc50 => ?_)
      · refine pn_aload_n (q := 60) dX3_readEntry_59 rfl rfl rfl ?_
        refine pn_ldcS (q := 62) (j := 5) rfl dX3_readEntry_60 rfl ?_
        refine pn_roV1 (q := 65) (rs_isWord adK d len b s 5 _ rfl hl h) lkX3_88 dX3_readEntry_62 rfl rfl (pnSel_of (I := [0, 1, 2, 3, 4, 5, 6, 7, 8]) rfl rfl) (pnFree_none rfl) rfl rfl rfl (by omega) (Nat.le_of_ble_eq_true rfl) rfl ?_
        refine pn_beq (q := 68) (tgt := 73) dX3_readEntry_65 (by decide) rfl (fun hc65 => ?_) (fun hc65 => ?_)
        · refine pn_aload_n (q := 74) dX3_readEntry_73 rfl rfl rfl ?_
          refine pn_ldcS (q := 76) (j := 10) rfl dX3_readEntry_74 rfl ?_
          refine pn_roV1 (q := 79) (rs_isWord adK d len b s 10 _ rfl hl h) lkX3_88 dX3_readEntry_76 rfl rfl (pnSel_of (I := [0, 1, 2, 3, 4, 5, 6, 7, 8]) rfl rfl) (pnFree_none rfl) rfl rfl rfl (by omega) (Nat.le_of_ble_eq_true rfl) rfl ?_
          refine pn_beq (q := 82) (tgt := 87) dX3_readEntry_79 (by decide) rfl (fun hc79 => ?_) (fun hc79 => ?_)
          · refine pn_aload_n (q := 88) dX3_readEntry_87 rfl rfl rfl ?_
            refine pn_ldcS (q := 90) (j := 11) rfl dX3_readEntry_88 rfl ?_
            refine pn_roV1 (q := 93) (rs_isWord adK d len b s 11 _ rfl hl h) lkX3_88 dX3_readEntry_90 rfl rfl (pnSel_of (I := [0, 1, 2, 3, 4, 5, 6, 7, 8]) rfl rfl) (pnFree_none rfl) rfl rfl rfl (by omega) (Nat.le_of_ble_eq_true rfl) rfl ?_
            refine pn_beq (q := 96) (tgt := 101) dX3_readEntry_93 (by decide) rfl (fun hc93 => ?_) (fun hc93 => ?_)
            · refine pn_aload_n (q := 102) dX3_readEntry_101 rfl rfl rfl ?_
              refine pn_iconst (q := 103) (v := nI 1) dX3_readEntry_102 rfl (by decide) ?_
              refine pn_upV1 (q := 106) (bc9 := 0) (bs9 := 0) (rs_refuse adK d len b s 1) lkX3_92 dX3_readEntry_103 rfl rfl (pnSel_of (I := [0, 1, 2, 3, 4, 5, 6, 7, 8]) rfl rfl) (pnFree_none rfl) rfl rfl rfl (by omega) (by omega) (by omega) (Nat.le_of_ble_eq_true rfl) rfl ?_
              refine pn_eq (h' := (hRS len b (refR 1 s))) (st' := _) rfl rfl ?_
              refine pn_tret (b := false) _ ?_ dX3_readEntry_106 rfl ?_
              · rfl
              · rw [if_neg (by rw [hc6]; exact Bool.false_ne_true), if_neg (by rw [hc35]; exact Bool.false_ne_true), if_neg (by rw [hc50]; exact Bool.false_ne_true), if_neg (by rw [hc65]; exact Bool.false_ne_true), if_neg (by rw [hc79]; exact Bool.false_ne_true), if_neg (by rw [hc93]; exact Bool.false_ne_true)]; exact ⟨rfl, rfl⟩
            · refine pn_aload_n (q := 97) dX3_readEntry_96 rfl rfl rfl ?_
              refine pn_upV1 (q := 100) (bc9 := 0) (bs9 := 0) (c_readBase adK d len b s hl h hbc) lkX3_134 dX3_readEntry_97 rfl rfl (pnSel_of (I := [0, 1, 2, 3, 4, 5, 6, 7, 8]) rfl rfl) (pnFree_none rfl) rfl rfl rfl (by omega) (by omega) (by omega) (Nat.le_of_ble_eq_true rfl) rfl ?_
              refine pn_eq (h' := (hRS len b (basR len b s).2)) (st' := _) rfl rfl ?_
              refine pn_tret (b := (basR len b s).1) _ ?_ dX3_readEntry_100 rfl ?_
              · rfl
              · rw [if_neg (by rw [hc6]; exact Bool.false_ne_true), if_neg (by rw [hc35]; exact Bool.false_ne_true), if_neg (by rw [hc50]; exact Bool.false_ne_true), if_neg (by rw [hc65]; exact Bool.false_ne_true), if_neg (by rw [hc79]; exact Bool.false_ne_true), if_pos hc93]; exact ⟨rfl, rfl⟩
          · refine pn_aload_n (q := 83) dX3_readEntry_82 rfl rfl rfl ?_
            refine pn_upV1 (q := 86) (bc9 := 0) (bs9 := 0) (c_readPart adK d len b s hl h hn hn1 hpc) lkX3_129 dX3_readEntry_83 rfl rfl (pnSel_of (I := [0, 1, 2, 3, 4, 5, 6, 7, 8]) rfl rfl) (pnFree_none rfl) rfl rfl rfl (by omega) (by omega) (by omega) (Nat.le_of_ble_eq_true rfl) rfl ?_
            refine pn_eq (h' := (hRS len b (prtR len b s).2)) (st' := _) rfl rfl ?_
            refine pn_tret (b := (prtR len b s).1) _ ?_ dX3_readEntry_86 rfl ?_
            · rfl
            · rw [if_neg (by rw [hc6]; exact Bool.false_ne_true), if_neg (by rw [hc35]; exact Bool.false_ne_true), if_neg (by rw [hc50]; exact Bool.false_ne_true), if_neg (by rw [hc65]; exact Bool.false_ne_true), if_pos hc79]; exact ⟨rfl, rfl⟩
        · refine pn_aload_n (q := 69) dX3_readEntry_68 rfl rfl rfl ?_
          refine pn_upV1 (q := 72) (bc9 := 0) (bs9 := 0) (c_readShape adK d len b s hl h) lkX3_124 dX3_readEntry_69 rfl rfl (pnSel_of (I := [0, 1, 2, 3, 4, 5, 6, 7, 8]) rfl rfl) (pnFree_none rfl) rfl rfl rfl (by omega) (by omega) (by omega) (Nat.le_of_ble_eq_true rfl) rfl ?_
          refine pn_eq (h' := (hRS len b (shpR len b s).2)) (st' := _) rfl rfl ?_
          refine pn_tret (b := (shpR len b s).1) _ ?_ dX3_readEntry_72 rfl ?_
          · rfl
          · rw [if_neg (by rw [hc6]; exact Bool.false_ne_true), if_neg (by rw [hc35]; exact Bool.false_ne_true), if_neg (by rw [hc50]; exact Bool.false_ne_true), if_pos hc65]; exact ⟨rfl, rfl⟩
      · refine pn_aload_n (q := 54) dX3_readEntry_53 rfl rfl rfl ?_
        refine pn_iconst (q := 55) (v := nB false) dX3_readEntry_54 rfl (by decide) ?_
        refine pn_upV1 (q := 58) (bc9 := 0) (bs9 := 0) (c_readLine adK d len b s false hl h hn hn1) lkX3_116 dX3_readEntry_55 rfl rfl (pnSel_of (I := [0, 1, 2, 3, 4, 5, 6, 7, 8]) rfl rfl) (pnFree_none rfl) rfl rfl rfl (by omega) (by omega) (by omega) (Nat.le_of_ble_eq_true rfl) rfl ?_
        refine pn_eq (h' := (hRS len b (linR len b false s).2)) (st' := _) rfl rfl ?_
        refine pn_tret (b := (linR len b false s).1) _ ?_ dX3_readEntry_58 rfl ?_
        · rfl
        · rw [if_neg (by rw [hc6]; exact Bool.false_ne_true), if_neg (by rw [hc35]; exact Bool.false_ne_true), if_pos hc50]; exact ⟨rfl, rfl⟩
    · refine pn_aload_n (q := 39) dX3_readEntry_38 rfl rfl rfl ?_
      refine pn_iconst (q := 40) (v := nB true) dX3_readEntry_39 rfl (by decide) ?_
      refine pn_upV1 (q := 43) (bc9 := 0) (bs9 := 0) (c_readLine adK d len b s true hl h hn hn1) lkX3_116 dX3_readEntry_40 rfl rfl (pnSel_of (I := [0, 1, 2, 3, 4, 5, 6, 7, 8]) rfl rfl) (pnFree_none rfl) rfl rfl rfl (by omega) (by omega) (by omega) (Nat.le_of_ble_eq_true rfl) rfl ?_
      refine pn_eq (h' := (hRS len b (linR len b true s).2)) (st' := _) rfl rfl ?_
      refine pn_tret (b := (linR len b true s).1) _ ?_ dX3_readEntry_43 rfl ?_
      · rfl
      · rw [if_neg (by rw [hc6]; exact Bool.false_ne_true), if_pos hc35]; exact ⟨rfl, rfl⟩
  · refine pn_aload_n (q := 10) dX3_readEntry_9 rfl rfl rfl ?_
    refine pn_get (q := 13) fX3_12 dX3_readEntry_10 rfl rfl rfl ?_
    refine pn_aload_n (q := 14) dX3_readEntry_13 rfl rfl rfl ?_
    refine pn_get (q := 17) fX3_12 dX3_readEntry_14 rfl rfl rfl ?_
    refine pn_roV1 (q := 20) (c_allLines adK d (rsD s).1 (rsD s).2.1 (rsD s).2.2.1 (rsD s).2.2.2.1 (rsD s).2.2.2.2.1 (rsD s).2.2.2.2.2.1 (rsD s).2.2.2.2.2.2.1 (rsD s).2.2.2.2.2.2.2.1 (rsD s).2.2.2.2.2.2.2.2 hn hn1) lkX3_106 dX3_readEntry_17 rfl rfl (pnSel_of (I := [1, 2, 3, 4]) rfl rfl) (pnFree_none rfl) rfl rfl rfl (by omega) (Nat.le_of_ble_eq_true rfl) rfl ?_
    refine pn_put (q := 23) fX3_110 dX3_readEntry_20 rfl rfl (Nat.le_of_ble_eq_true rfl) (pnF_long _) ?_
    refine pn_aload_n (q := 24) dX3_readEntry_23 rfl rfl rfl ?_
    refine pn_upV0 (q := 27) (bc9 := 0) (bs9 := 0) (rs_advance adK d len b (setD (allD (rsD s)) s) hl h) lkX3_83 dX3_readEntry_24 rfl rfl (pnSel_of (I := [0, 1, 2, 3, 4, 5, 6, 7, 8]) rfl rfl) (pnFree_none rfl) rfl rfl rfl (by omega) (by omega) (by omega) (Nat.le_of_ble_eq_true rfl) ?_
    refine pn_eq (h' := (hRS len b (advR len b (setD (allD (rsD s)) s)))) (st' := _) rfl rfl ?_
    refine pn_iconst (q := 28) (v := nI 1) dX3_readEntry_27 rfl (by decide) ?_
    refine pn_tret (b := true) _ ?_ dX3_readEntry_28 rfl ?_
    · rfl
    · rw [if_pos hc6]; exact ⟨rfl, rfl⟩
def emtD (v : Nat) (D : NS) : NS := (v, 0, 0, 3, 0, 0, D.2.2.2.2.2.2)
def hedR (len : Nat) (b : Nat → Int32) (s : RS) : Bool × RS :=
  if wrdR b "nodes" (advR len b s) = true then (if numB 2 11 (advR len b (advR len b s)) = true then pasR len b (advR len b (setD (emtD (rsVl (advR len b (advR len b s))) (rsD s)) (advR len b (advR len b s)))) else (false, numR 2 11 (advR len b (advR len b s)))) else (false, refR 1 (advR len b s))
set_option maxRecDepth 100000 in
theorem c_readHead (adK : Nat → Nat) (d len : Nat) (b : Nat → Int32) (s : RS) (hl : len ≤ 300) (h : rsA len s) : pnCt mX3_readHead adK (d + 5) 0 0 [.ref 0] (hRS len b s) (pnIs (.inl (some (.int (nB (hedR len b s).1)))) (hRS len b (hedR len b s).2)) := by
  refine pnCt_of (by decide) kX3_readHead (Nat.le_of_ble_eq_true rfl) rfl (hRS_cl _ _ _) (pnCS_b rfl) ?_
  have h1 := rsT_advA (b := b) h
  have h2 := rsT_adv (b := b) h1
  have h3 : rsT len (setD (emtD (rsVl (advR len b (advR len b s))) (rsD s)) (advR len b (advR len b s))) := h2
  have h4 := rsT_adv (b := b) h3
  have C1 := rs_isNumber adK d len b (advR len b (advR len b s)) 2 11 h2 (by omega) (by omega)
  unfold hedR
  by_cases e : numB 2 11 (advR len b (advR len b s)) = true
  · rw [e, numR_t e] at C1
    rw [if_pos e]
    refine pn_aload_n (q := 1) dX3_readHead_0 rfl rfl rfl ?_
    refine pn_upV0 (q := 4) (bc9 := 0) (bs9 := 0) (rs_advanceA adK d len b s hl h) lkX3_83 dX3_readHead_1 rfl rfl (pnSel_of (I := [0, 1, 2, 3, 4, 5, 6, 7, 8]) rfl rfl) (pnFree_none rfl) rfl rfl rfl (by omega) (by omega) (by omega) (Nat.le_of_ble_eq_true rfl) ?_
    refine pn_eq (h' := (hRS len b (advR len b s))) (st' := _) rfl rfl ?_
    refine pn_aload_n (q := 5) dX3_readHead_4 rfl rfl rfl ?_
    refine pn_ldcS (q := 7) (j := 1) rfl dX3_readHead_5 rfl ?_
    refine pn_roV1 (q := 10) (rs_isWord adK d len b (advR len b s) 1 _ rfl hl h1) lkX3_88 dX3_readHead_7 rfl rfl (pnSel_of (I := [0, 1, 2, 3, 4, 5, 6, 7, 8]) rfl rfl) (pnFree_none rfl) rfl rfl rfl (by omega) (Nat.le_of_ble_eq_true rfl) rfl ?_
    refine pn_bne (q := 13) (tgt := 19) dX3_readHead_10 (by decide) rfl (fun hc10 => ?_) (fun hc10 => ?_)
    · refine pn_aload_n (q := 20) dX3_readHead_19 rfl rfl rfl ?_
      refine pn_upV0 (q := 23) (bc9 := 0) (bs9 := 0) (rs_advance adK d len b (advR len b s) hl h1) lkX3_83 dX3_readHead_20 rfl rfl (pnSel_of (I := [0, 1, 2, 3, 4, 5, 6, 7, 8]) rfl rfl) (pnFree_none rfl) rfl rfl rfl (by omega) (by omega) (by omega) (Nat.le_of_ble_eq_true rfl) ?_
      refine pn_eq (h' := (hRS len b (advR len b (advR len b s)))) (st' := _) rfl rfl ?_
      refine pn_aload_n (q := 24) dX3_readHead_23 rfl rfl rfl ?_
      refine pn_iconst (q := 25) (v := nI 2) dX3_readHead_24 rfl (by decide) ?_
      refine pn_bipush (q := 27) (v := nI 11) dX3_readHead_25 rfl (by decide) ?_
      refine pn_upV1 (q := 30) (bc9 := 0) (bs9 := 0) (C1) lkX3_96 dX3_readHead_27 rfl rfl (pnSel_of (I := [0, 1, 2, 3, 4, 5, 6, 7, 8]) rfl rfl) (pnFree_none rfl) rfl rfl rfl (by omega) (by omega) (by omega) (Nat.le_of_ble_eq_true rfl) rfl ?_
      refine pn_eq (h' := (hRS len b (advR len b (advR len b s)))) (st' := _) rfl rfl ?_
      refine pn_bne (q := 33) (tgt := 35) dX3_readHead_30 (by decide) rfl (fun hc30 => ?_) (fun hc30 => ?_)
      · refine pn_aload_n (q := 36) dX3_readHead_35 rfl rfl rfl ?_
        refine pn_get (q := 39) fX3_12 dX3_readHead_36 rfl rfl rfl ?_
        refine pn_aload_n (q := 40) dX3_readHead_39 rfl rfl rfl ?_
        refine pn_get (q := 43) fX3_41 dX3_readHead_40 rfl rfl rfl ?_
        refine pn_upV0 (q := 46) (bc9 := 0) (bs9 := 0) (c_empty adK d (rsD s).1 (rsVl (advR len b (advR len b s))) (rsD s).2.1 (rsD s).2.2.1 (rsD s).2.2.2.1 (rsD s).2.2.2.2.1 (rsD s).2.2.2.2.2.1 (rsD s).2.2.2.2.2.2.1 (rsD s).2.2.2.2.2.2.2.1 (rsD s).2.2.2.2.2.2.2.2) lkX3_100 dX3_readHead_43 rfl rfl (pnSel_of (I := [1, 2, 3, 4]) rfl rfl) (pnFree_none rfl) rfl rfl rfl (by omega) (by omega) (by omega) (Nat.le_of_ble_eq_true rfl) ?_
        refine pn_eq (h' := (hRS len b (setD (emtD (rsVl (advR len b (advR len b s))) (rsD s)) (advR len b (advR len b s))))) (st' := _) rfl rfl ?_
        refine pn_aload_n (q := 47) dX3_readHead_46 rfl rfl rfl ?_
        refine pn_upV0 (q := 50) (bc9 := 0) (bs9 := 0) (rs_advance adK d len b (setD (emtD (rsVl (advR len b (advR len b s))) (rsD s)) (advR len b (advR len b s))) hl h3) lkX3_83 dX3_readHead_47 rfl rfl (pnSel_of (I := [0, 1, 2, 3, 4, 5, 6, 7, 8]) rfl rfl) (pnFree_none rfl) rfl rfl rfl (by omega) (by omega) (by omega) (Nat.le_of_ble_eq_true rfl) ?_
        refine pn_eq (h' := (hRS len b (advR len b (setD (emtD (rsVl (advR len b (advR len b s))) (rsD s)) (advR len b (advR len b s)))))) (st' := _) rfl rfl ?_
        refine pn_aload_n (q := 51) dX3_readHead_50 rfl rfl rfl ?_
        refine pn_upV1 (q := 54) (bc9 := 0) (bs9 := 0) (rs_passStop adK d len b (advR len b (setD (emtD (rsVl (advR len b (advR len b s))) (rsD s)) (advR len b (advR len b s)))) hl h4) lkX3_77 dX3_readHead_51 rfl rfl (pnSel_of (I := [0, 1, 2, 3, 4, 5, 6, 7, 8]) rfl rfl) (pnFree_none rfl) rfl rfl rfl (by omega) (by omega) (by omega) (Nat.le_of_ble_eq_true rfl) rfl ?_
        refine pn_eq (h' := (hRS len b (pasR len b (advR len b (setD (emtD (rsVl (advR len b (advR len b s))) (rsD s)) (advR len b (advR len b s))))).2)) (st' := _) rfl rfl ?_
        refine pn_tret (b := (pasR len b (advR len b (setD (emtD (rsVl (advR len b (advR len b s))) (rsD s)) (advR len b (advR len b s))))).1) _ ?_ dX3_readHead_54 rfl ?_
        · rfl
        · rw [if_pos hc10]; exact ⟨rfl, rfl⟩
      · cases hc30
    · refine pn_aload_n (q := 14) dX3_readHead_13 rfl rfl rfl ?_
      refine pn_iconst (q := 15) (v := nI 1) dX3_readHead_14 rfl (by decide) ?_
      refine pn_upV1 (q := 18) (bc9 := 0) (bs9 := 0) (rs_refuse adK d len b (advR len b s) 1) lkX3_92 dX3_readHead_15 rfl rfl (pnSel_of (I := [0, 1, 2, 3, 4, 5, 6, 7, 8]) rfl rfl) (pnFree_none rfl) rfl rfl rfl (by omega) (by omega) (by omega) (Nat.le_of_ble_eq_true rfl) rfl ?_
      refine pn_eq (h' := (hRS len b (refR 1 (advR len b s)))) (st' := _) rfl rfl ?_
      refine pn_tret (b := false) _ ?_ dX3_readHead_18 rfl ?_
      · rfl
      · rw [if_neg (by rw [hc10]; exact Bool.false_ne_true)]; exact ⟨rfl, rfl⟩
  · rw [Bool.eq_false_iff.mpr e] at C1
    rw [if_neg e]
    refine pn_aload_n (q := 1) dX3_readHead_0 rfl rfl rfl ?_
    refine pn_upV0 (q := 4) (bc9 := 0) (bs9 := 0) (rs_advanceA adK d len b s hl h) lkX3_83 dX3_readHead_1 rfl rfl (pnSel_of (I := [0, 1, 2, 3, 4, 5, 6, 7, 8]) rfl rfl) (pnFree_none rfl) rfl rfl rfl (by omega) (by omega) (by omega) (Nat.le_of_ble_eq_true rfl) ?_
    refine pn_eq (h' := (hRS len b (advR len b s))) (st' := _) rfl rfl ?_
    refine pn_aload_n (q := 5) dX3_readHead_4 rfl rfl rfl ?_
    refine pn_ldcS (q := 7) (j := 1) rfl dX3_readHead_5 rfl ?_
    refine pn_roV1 (q := 10) (rs_isWord adK d len b (advR len b s) 1 _ rfl hl h1) lkX3_88 dX3_readHead_7 rfl rfl (pnSel_of (I := [0, 1, 2, 3, 4, 5, 6, 7, 8]) rfl rfl) (pnFree_none rfl) rfl rfl rfl (by omega) (Nat.le_of_ble_eq_true rfl) rfl ?_
    refine pn_bne (q := 13) (tgt := 19) dX3_readHead_10 (by decide) rfl (fun hc10 => ?_) (fun hc10 => ?_)
    · refine pn_aload_n (q := 20) dX3_readHead_19 rfl rfl rfl ?_
      refine pn_upV0 (q := 23) (bc9 := 0) (bs9 := 0) (rs_advance adK d len b (advR len b s) hl h1) lkX3_83 dX3_readHead_20 rfl rfl (pnSel_of (I := [0, 1, 2, 3, 4, 5, 6, 7, 8]) rfl rfl) (pnFree_none rfl) rfl rfl rfl (by omega) (by omega) (by omega) (Nat.le_of_ble_eq_true rfl) ?_
      refine pn_eq (h' := (hRS len b (advR len b (advR len b s)))) (st' := _) rfl rfl ?_
      refine pn_aload_n (q := 24) dX3_readHead_23 rfl rfl rfl ?_
      refine pn_iconst (q := 25) (v := nI 2) dX3_readHead_24 rfl (by decide) ?_
      refine pn_bipush (q := 27) (v := nI 11) dX3_readHead_25 rfl (by decide) ?_
      refine pn_upV1 (q := 30) (bc9 := 0) (bs9 := 0) (C1) lkX3_96 dX3_readHead_27 rfl rfl (pnSel_of (I := [0, 1, 2, 3, 4, 5, 6, 7, 8]) rfl rfl) (pnFree_none rfl) rfl rfl rfl (by omega) (by omega) (by omega) (Nat.le_of_ble_eq_true rfl) rfl ?_
      refine pn_eq (h' := (hRS len b (numR 2 11 (advR len b (advR len b s))))) (st' := _) rfl rfl ?_
      refine pn_bne (q := 33) (tgt := 35) dX3_readHead_30 (by decide) rfl (fun hc30 => ?_) (fun hc30 => ?_)
      · cases hc30
      · refine pn_iconst (q := 34) (v := nI 0) dX3_readHead_33 rfl (by decide) ?_
        refine pn_tret (b := false) _ ?_ dX3_readHead_34 rfl ?_
        · rfl
        · rw [if_pos hc10]; exact ⟨rfl, rfl⟩
    · refine pn_aload_n (q := 14) dX3_readHead_13 rfl rfl rfl ?_
      refine pn_iconst (q := 15) (v := nI 1) dX3_readHead_14 rfl (by decide) ?_
      refine pn_upV1 (q := 18) (bc9 := 0) (bs9 := 0) (rs_refuse adK d len b (advR len b s) 1) lkX3_92 dX3_readHead_15 rfl rfl (pnSel_of (I := [0, 1, 2, 3, 4, 5, 6, 7, 8]) rfl rfl) (pnFree_none rfl) rfl rfl rfl (by omega) (by omega) (by omega) (Nat.le_of_ble_eq_true rfl) rfl ?_
      refine pn_eq (h' := (hRS len b (refR 1 (advR len b s)))) (st' := _) rfl rfl ?_
      refine pn_tret (b := false) _ ?_ dX3_readHead_18 rfl ?_
      · rfl
      · rw [if_neg (by rw [hc10]; exact Bool.false_ne_true)]; exact ⟨rfl, rfl⟩
/-! parts and bases, looked at when all is read -/
def stB (bs : Nat → Int32) (sh k : Nat) (bl : Nat → Nat) : Nat → Nat → Bool
  | 0, _ => true
  | z + 1, b => if (decide (bl b = plN sh k) && telN bs (b * 5) (bl b) 30) = true then stB bs sh k bl z (b + 1) else false
def stP (n sh k : Nat) (pn : Nat → Int32) (pl : Nat → Nat) : Nat → Nat → Int64 → (Nat → Int64) → Bool × Nat × (Nat → Int64)
  | 0, p, _, ps => (true, p, ps)
  | z + 1, p, x, ps => if lpN n sh k pn (p * 5) (pl p) = 0 then (false, p, ps) else if lpN n sh k pn (p * 5) (pl p) &&& (x ^^^ (-1)) = 0 then stP n sh k pn pl z (p + 1) (x &&& (lpN n sh k pn (p * 5) (pl p) ^^^ (-1))) (vp_updL ps p (lpN n sh k pn (p * 5) (pl p))) else (false, p, ps)
def stR (pct bct n : Nat) (g : Int64) (sh k bc0 : Nat) (ps : Nat → Int64) (bs sf pn : Nat → Int32) (pl bl : Nat → Nat) : Bool × NS :=
  if stB bs sh k bl bct 0 = true then ((stP n sh k pn pl pct 0 g ps).1, (n, g, sh, k, (stP n sh k pn pl pct 0 g ps).2.1, bct, (stP n sh k pn pl pct 0 g ps).2.2, bs, sf)) else (false, (n, g, sh, k, 0, bc0, ps, bs, sf))
set_option maxRecDepth 100000 in
theorem c_settle (adK : Nat → Nat) (d : Nat) (fp : Int32) (flt len st en kd vl : Nat) (shd : Bool) (pct bct : Nat) (n : Nat) (g : Int64) (sh k bc0 : Nat) (ps : Nat → Int64) (bs sf pn : Nat → Int32) (pl bl : Nat → Nat) (b : Nat → Int32) (hS : shOk sh k) (hn : n ≤ 11) (hn1 : 1 ≤ n) (hpct : pct ≤ 50) (hbct : bct ≤ 4) (hpl : ∀ j, pl j ≤ 5) (hbl : ∀ j, bl j ≤ 5) :
    pnCt mX3_settle adK (d + 4) 0 0 [.ref 0] (hRd fp flt len st en kd vl shd pct bct (n, g, sh, k, 0, bc0, ps, bs, sf) pn (fun j => nI (pl j)) (fun j => nI (bl j)) b) (pnIs (.inl (some (.int (nB (stR pct bct n g sh k bc0 ps bs sf pn pl bl).1)))) (hRd fp flt len st en kd vl shd pct bct (stR pct bct n g sh k bc0 ps bs sf pn pl bl).2 pn (fun j => nI (pl j)) (fun j => nI (bl j)) b)) := by
  refine pnCt_of (by decide) kX3_settle (Nat.le_of_ble_eq_true rfl) rfl (hRd_cl _ _ _ _ _ _ _ _ _ _ _ _ _ _ _) (pnCS_b rfl) ?_
  have hsh : sh ≤ 3 := by unfold shOk at hS; omega
  have hk : k ≤ 5 := by unfold shOk at hS; omega
  have loop2 : ∀ (z p : Nat) (x : Int64) (ps' : Nat → Int64) (R : Bool × Nat × (Nat → Int64)), p + z = pct → stP n sh k pn pl z p x ps' = R → pnWP mX3_settle adK (d + 4) (pnIs (.inl (some (.int (nB R.1)))) (hRd fp flt len st en kd vl shd pct bct (n, g, sh, k, R.2.1, bct, R.2.2, bs, sf) pn (fun j => nI (pl j)) (fun j => nI (bl j)) b)) 0 0 (hRd fp flt len st en kd vl shd pct bct (n, g, sh, k, p, bct, ps', bs, sf) pn (fun j => nI (pl j)) (fun j => nI (bl j)) b) [some (.ref 0), some (.long x), none, some (.int (nI p))] [] 72 := by
    intro z
    induction z with
    | zero =>
      intro p x ps' R hz e
      subst e
      refine pn_iload_n (q := 73) dX3_settle_72 rfl rfl ?_
      refine pn_aload_n (q := 74) dX3_settle_73 rfl rfl rfl ?_
      refine pn_get (q := 77) fX3_48 dX3_settle_74 rfl rfl rfl ?_
      first | refine pn_nge (q := 80) (tgt := 154) dX3_settle_77 (by decide) rfl (by omega) (by omega) (fun hc77 => ?_) (fun hc77 => ?_) | refine pn_icmp_ge (q := 80) (tgt := 154) dX3_settle_77 (by decide) rfl (fun hc77 => ?_) (fun hc77 => ?_)
      · refine pn_iconst (q := 155) (v := nI 1) dX3_settle_154 rfl (by decide) ?_
        refine pn_tret (b := true) _ ?_ dX3_settle_155 rfl ?_
        · rfl
        · exact ⟨rfl, rfl⟩
      · omega
    | succ z ih =>
      intro p x ps' R hz e
      have hp5 := hpl p
      have CL := c_linesOfPartX adK d n g sh k p bct ps' bs sf 250 pn (p * 5) (pl p) hS hn hn1 (by omega) (by omega)
      have CP := fun y => c_putIn adK d n g sh k p bct ps' bs sf y (by omega)
      have e2 : stP n sh k pn pl (z + 1) p x ps' = (if lpN n sh k pn (p * 5) (pl p) = 0 then (false, p, ps') else if lpN n sh k pn (p * 5) (pl p) &&& (x ^^^ (-1)) = 0 then stP n sh k pn pl z (p + 1) (x &&& (lpN n sh k pn (p * 5) (pl p) ^^^ (-1))) (vp_updL ps' p (lpN n sh k pn (p * 5) (pl p))) else (false, p, ps')) := rfl
      rw [e2] at e
      generalize lpN n sh k pn (p * 5) (pl p) = y at *
      refine pn_iload_n (q := 73) dX3_settle_72 rfl rfl ?_
      refine pn_aload_n (q := 74) dX3_settle_73 rfl rfl rfl ?_
      refine pn_get (q := 77) fX3_48 dX3_settle_74 rfl rfl rfl ?_
      first | refine pn_nge (q := 80) (tgt := 154) dX3_settle_77 (by decide) rfl (by omega) (by omega) (fun hc77 => ?_) (fun hc77 => ?_) | refine pn_icmp_ge (q := 80) (tgt := 154) dX3_settle_77 (by decide) rfl (fun hc77 => ?_) (fun hc77 => ?_)
      · omega
      · refine pn_iload_n (q := 81) dX3_settle_80 rfl rfl ?_
        refine pn_bipush (q := 83) (v := nI 50) dX3_settle_81 rfl (by decide) ?_
        first | refine pn_nge (q := 86) (tgt := 154) dX3_settle_83 (by decide) rfl (by omega) (by omega) (fun hc83 => ?_) (fun hc83 => ?_) | refine pn_icmp_ge (q := 86) (tgt := 154) dX3_settle_83 (by decide) rfl (fun hc83 => ?_) (fun hc83 => ?_)
        · omega
        · refine pn_aload_n (q := 87) dX3_settle_86 rfl rfl rfl ?_
          refine pn_get (q := 90) fX3_12 dX3_settle_87 rfl rfl rfl ?_
          refine pn_aload_n (q := 91) dX3_settle_90 rfl rfl rfl ?_
          refine pn_get (q := 94) fX3_54 dX3_settle_91 rfl rfl rfl ?_
          refine pn_iload_n (q := 95) dX3_settle_94 rfl rfl ?_
          refine pn_iconst (q := 96) (v := nI 5) dX3_settle_95 rfl (by decide) ?_
          first | with_reducible refine pn_imulN (q := 97) dX3_settle_96 rfl ?_ | refine pn_imul (q := 97) dX3_settle_96 rfl ?_
          refine pn_aload_n (q := 98) dX3_settle_97 rfl rfl rfl ?_
          refine pn_get (q := 101) fX3_58 dX3_settle_98 rfl rfl rfl ?_
          refine pn_iload_n (q := 102) dX3_settle_101 rfl rfl ?_
          refine pn_iald (q := 103) dX3_settle_102 rfl rfl rfl (by omega) (by first | decide | omega) ?_
          refine pn_roV1 (q := 106) (CL) lkX3_173 dX3_settle_103 rfl rfl (pnSel_of (I := [1, 2, 3, 4, 5]) rfl rfl) (pnFree_none rfl) rfl rfl rfl (by omega) (Nat.le_of_ble_eq_true rfl) rfl ?_
          refine pn_lstore (q := 108) dX3_settle_106 rfl (by decide) ?_
          refine pn_lload (q := 110) dX3_settle_108 rfl rfl ?_
          refine pn_lconst (q := 111) (v := 0) dX3_settle_110 rfl (by decide) ?_
          refine pn_leq (q1 := 112) (q := 115) (tgt := 128) dX3_settle_111 rfl dX3_settle_112 (by decide) rfl (fun hc111 => ?_) (fun hc111 => ?_)
          · refine pn_iconst (q := 129) (v := nI 0) dX3_settle_128 rfl (by decide) ?_
            refine pn_tret (b := false) _ ?_ dX3_settle_129 rfl ?_
            · rfl
            · (subst e; first | (rw [if_pos hc111]; exact ⟨rfl, rfl⟩) | (rw [if_neg hc111, if_neg hc124]; exact ⟨rfl, rfl⟩))
          · refine pn_lload (q := 117) dX3_settle_115 rfl rfl ?_
            refine pn_lload_n (q := 118) dX3_settle_117 rfl rfl ?_
            refine pn_ldc2 (q := 121) pw_741 dX3_settle_118 rfl ?_
            refine pn_lxor (q := 122) dX3_settle_121 rfl ?_
            refine pn_land (q := 123) dX3_settle_122 rfl ?_
            refine pn_lconst (q := 124) (v := 0) dX3_settle_123 rfl (by decide) ?_
            refine pn_leq (q1 := 125) (q := 128) (tgt := 130) dX3_settle_124 rfl dX3_settle_125 (by decide) rfl (fun hc124 => ?_) (fun hc124 => ?_)
            · refine pn_lload_n (q := 131) dX3_settle_130 rfl rfl ?_
              refine pn_lload (q := 133) dX3_settle_131 rfl rfl ?_
              refine pn_ldc2 (q := 136) pw_741 dX3_settle_133 rfl ?_
              refine pn_lxor (q := 137) dX3_settle_136 rfl ?_
              refine pn_land (q := 138) dX3_settle_137 rfl ?_
              refine pn_lstore_n (q := 139) dX3_settle_138 rfl (by decide) ?_
              refine pn_aload_n (q := 140) dX3_settle_139 rfl rfl rfl ?_
              refine pn_get (q := 143) fX3_12 dX3_settle_140 rfl rfl rfl ?_
              refine pn_lload (q := 145) dX3_settle_143 rfl rfl ?_
              refine pn_upV0 (q := 148) (bc9 := 0) (bs9 := 0) (CP y) lkX3_177 dX3_settle_145 rfl rfl (pnSel_of (I := [1, 2, 3, 4]) rfl rfl) (pnFree_none rfl) rfl rfl rfl (by omega) (by omega) (by omega) (Nat.le_of_ble_eq_true rfl) ?_
              refine pn_eq (h' := (hRd fp flt len st en kd vl shd pct bct (n, g, sh, k, p + 1, bct, vp_updL ps' p y, bs, sf) pn (fun j => nI (pl j)) (fun j => nI (bl j)) b)) (st' := _) rfl rfl ?_
              first | refine pn_iinc1 (q := 151) dX3_settle_148 rfl rfl (by decide) ?_ | refine pn_iinc (q := 151) (mm := 1) dX3_settle_148 rfl rfl (by decide) (by decide) ?_
              refine pn_goto (q := 72) dX3_settle_151 (by decide) ?_
              (rw [if_neg hc111, if_pos hc124] at e; exact pn_take 4 (ih (p + 1) _ _ R (by omega) e))
            · refine pn_iconst (q := 129) (v := nI 0) dX3_settle_128 rfl (by decide) ?_
              refine pn_tret (b := false) _ ?_ dX3_settle_129 rfl ?_
              · rfl
              · (subst e; first | (rw [if_pos hc111]; exact ⟨rfl, rfl⟩) | (rw [if_neg hc111, if_neg hc124]; exact ⟨rfl, rfl⟩))
  have loop1 : ∀ (z i : Nat), i + z = bct → stB bs sh k bl z i = stB bs sh k bl bct 0 → pnWP mX3_settle adK (d + 4) (pnIs (.inl (some (.int (nB (stR pct bct n g sh k bc0 ps bs sf pn pl bl).1)))) (hRd fp flt len st en kd vl shd pct bct (stR pct bct n g sh k bc0 ps bs sf pn pl bl).2 pn (fun j => nI (pl j)) (fun j => nI (bl j)) b)) 0 0 (hRd fp flt len st en kd vl shd pct bct (n, g, sh, k, 0, bc0, ps, bs, sf) pn (fun j => nI (pl j)) (fun j => nI (bl j)) b) [some (.ref 0), some (.int (nI i))] [] 2 := by
    intro z
    induction z with
    | zero =>
      intro i hz e
      unfold stR
      have e9 : stB bs sh k bl bct 0 = true := e.symm
      rw [if_pos e9]
      refine pn_iload_n (q := 3) dX3_settle_2 rfl rfl ?_
      refine pn_aload_n (q := 4) dX3_settle_3 rfl rfl rfl ?_
      refine pn_get (q := 7) fX3_51 dX3_settle_4 rfl rfl rfl ?_
      first | refine pn_nge (q := 10) (tgt := 51) dX3_settle_7 (by decide) rfl (by omega) (by omega) (fun hc7 => ?_) (fun hc7 => ?_) | refine pn_icmp_ge (q := 10) (tgt := 51) dX3_settle_7 (by decide) rfl (fun hc7 => ?_) (fun hc7 => ?_)
      · refine pn_aload_n (q := 52) dX3_settle_51 rfl rfl rfl ?_
        refine pn_get (q := 55) fX3_12 dX3_settle_52 rfl rfl rfl ?_
        refine pn_aload_n (q := 56) dX3_settle_55 rfl rfl rfl ?_
        refine pn_get (q := 59) fX3_51 dX3_settle_56 rfl rfl rfl ?_
        refine pn_put (q := 62) fX3_172 dX3_settle_59 rfl rfl (Nat.le_of_ble_eq_true rfl) (pnF_int _) ?_
        refine pn_aload_n (q := 63) dX3_settle_62 rfl rfl rfl ?_
        refine pn_get (q := 66) fX3_12 dX3_settle_63 rfl rfl rfl ?_
        refine pn_get (q := 69) fX3_110 dX3_settle_66 rfl rfl rfl ?_
        refine pn_lstore_n (q := 70) dX3_settle_69 rfl (by decide) ?_
        refine pn_iconst (q := 71) (v := nI 0) dX3_settle_70 rfl (by decide) ?_
        refine pn_istore_n (q := 72) dX3_settle_71 rfl (by decide) ?_
        exact pn_take 4 (loop2 pct 0 g ps _ (by omega) rfl)
      · omega
    | succ z ih =>
      intro i hz e
      have hb5 := hbl i
      have CT := c_tellsPartB adK d n g sh k 0 bc0 ps bs sf (i * 5) (bl i) 30 hsh (by omega) (by omega) (by omega) (by omega)
      have e2 : stB bs sh k bl (z + 1) i = (if (decide (bl i = plN sh k) && telN bs (i * 5) (bl i) 30) = true then stB bs sh k bl z (i + 1) else false) := rfl
      rw [e2] at e
      refine pn_iload_n (q := 3) dX3_settle_2 rfl rfl ?_
      refine pn_aload_n (q := 4) dX3_settle_3 rfl rfl rfl ?_
      refine pn_get (q := 7) fX3_51 dX3_settle_4 rfl rfl rfl ?_
      first | refine pn_nge (q := 10) (tgt := 51) dX3_settle_7 (by decide) rfl (by omega) (by omega) (fun hc7 => ?_) (fun hc7 => ?_) | refine pn_icmp_ge (q := 10) (tgt := 51) dX3_settle_7 (by decide) rfl (fun hc7 => ?_) (fun hc7 => ?_)
      · omega
      · refine pn_iload_n (q := 11) dX3_settle_10 rfl rfl ?_
        refine pn_iconst (q := 12) (v := nI 4) dX3_settle_11 rfl (by decide) ?_
        first | refine pn_nge (q := 15) (tgt := 51) dX3_settle_12 (by decide) rfl (by omega) (by omega) (fun hc12 => ?_) (fun hc12 => ?_) | refine pn_icmp_ge (q := 15) (tgt := 51) dX3_settle_12 (by decide) rfl (fun hc12 => ?_) (fun hc12 => ?_)
        · omega
        · refine pn_aload_n (q := 16) dX3_settle_15 rfl rfl rfl ?_
          refine pn_get (q := 19) fX3_12 dX3_settle_16 rfl rfl rfl ?_
          refine pn_aload_n (q := 20) dX3_settle_19 rfl rfl rfl ?_
          refine pn_get (q := 23) fX3_12 dX3_settle_20 rfl rfl rfl ?_
          refine pn_get (q := 26) fX3_165 dX3_settle_23 rfl rfl rfl ?_
          refine pn_iload_n (q := 27) dX3_settle_26 rfl rfl ?_
          refine pn_iconst (q := 28) (v := nI 5) dX3_settle_27 rfl (by decide) ?_
          first | with_reducible refine pn_imulN (q := 29) dX3_settle_28 rfl ?_ | refine pn_imul (q := 29) dX3_settle_28 rfl ?_
          refine pn_aload_n (q := 30) dX3_settle_29 rfl rfl rfl ?_
          refine pn_get (q := 33) fX3_61 dX3_settle_30 rfl rfl rfl ?_
          refine pn_iload_n (q := 34) dX3_settle_33 rfl rfl ?_
          refine pn_iald (q := 35) dX3_settle_34 rfl rfl rfl (by omega) (by first | decide | omega) ?_
          refine pn_bipush (q := 37) (v := nI 30) dX3_settle_35 rfl (by decide) ?_
          refine pn_roV1 (q := 40) (CT) lkX3_168 dX3_settle_37 rfl rfl (pnSel_of (I := [1, 2, 3, 4]) rfl rfl) (pnFree_none rfl) rfl rfl rfl (by omega) (Nat.le_of_ble_eq_true rfl) rfl ?_
          refine pn_bne (q := 43) (tgt := 45) dX3_settle_40 (by decide) rfl (fun hc40 => ?_) (fun hc40 => ?_)
          · first | refine pn_iinc1 (q := 48) dX3_settle_45 rfl rfl (by decide) ?_ | refine pn_iinc (q := 48) (mm := 1) dX3_settle_45 rfl rfl (by decide) (by decide) ?_
            refine pn_goto (q := 2) dX3_settle_48 (by decide) ?_
            (rw [if_pos hc40] at e; exact ih (i + 1) (by omega) e)
          · refine pn_iconst (q := 44) (v := nI 0) dX3_settle_43 rfl (by decide) ?_
            refine pn_tret (b := false) _ ?_ dX3_settle_44 rfl ?_
            · rfl
            · (rw [if_neg (by rw [hc40]; exact Bool.false_ne_true)] at e; unfold stR; rw [if_neg (by rw [← e]; exact Bool.false_ne_true)]; exact ⟨rfl, rfl⟩)
  refine pn_iconst (q := 1) (v := nI 0) dX3_settle_0 rfl (by decide) ?_
  refine pn_istore_n (q := 2) dX3_settle_1 rfl (by decide) ?_
  exact loop1 bct 0 (by omega) rfl
