def gLn (more : Bool) (n : Nat) (g : Int64) (a c : Nat) : Int64 := if more = true then g ||| bL (lnN n a c) else g &&& (bL (lnN n a c) ^^^ (-1))
def linD (more : Bool) (D : NS) (a c : Nat) : NS := (D.1, gLn more D.1 D.2.1 a c, D.2.2)
def linR (len : Nat) (b : Nat → Int32) (more : Bool) (s : RS) : Bool × RS :=
  if numB 0 ((rsD s).1 - 1) (advR len b s) = true then
    if numB 0 ((rsD s).1 - 1) (advR len b (advR len b s)) = true then
      if rsVl (advR len b (advR len b s)) = rsVl (advR len b s) then (false, refR 2 (advR len b (advR len b s)))
      else (true, advR len b (setD (linD more (rsD s) (rsVl (advR len b s)) (rsVl (advR len b (advR len b s)))) (advR len b (advR len b s))))
    else (false, numR 0 ((rsD s).1 - 1) (advR len b (advR len b s)))
  else (false, numR 0 ((rsD s).1 - 1) (advR len b s))
set_option maxRecDepth 100000 in
theorem c_readLine (adK : Nat → Nat) (d len : Nat) (b : Nat → Int32) (s : RS) (more : Bool) (hl : len ≤ 300) (h : rsT len s) (hn : (rsD s).1 ≤ 11) (hn1 : 1 ≤ (rsD s).1) : pnCt mX3_readLine adK (d + 2) 0 0 [.ref 0, .int (nB more)] (hRS len b s) (pnIs (.inl (some (.int (nB (linR len b more s).1)))) (hRS len b (linR len b more s).2)) := by
  refine pnCt_of (by decide) kX3_readLine (Nat.le_of_ble_eq_true rfl) rfl (hRS_cl _ _ _) (pnCS_b rfl) ?_
  have h1 := rsT_adv (b := b) h
  have h2 := rsT_adv (b := b) h1
  have C1 := rs_isNumber adK d len b (advR len b s) 0 ((rsD s).1 - 1) h1 (by omega) (by omega)
  have C2 := rs_isNumber adK d len b (advR len b (advR len b s)) 0 ((rsD s).1 - 1) h2 (by omega) (by omega)
  have hv1 := h1.2.2.1
  have hn2 : 1 ≤ (advR len b s).2.2.2.2.2.2.2.2.2.1.1 := hn1
  have hn3 : 1 ≤ (advR len b (advR len b s)).2.2.2.2.2.2.2.2.2.1.1 := hn1
  have hv2 := h2.2.2.1
  by_cases e1 : numB 0 ((rsD s).1 - 1) (advR len b s) = true
  · rw [e1, numR_t e1] at C1
    by_cases e2 : numB 0 ((rsD s).1 - 1) (advR len b (advR len b s)) = true
    · rw [e2, numR_t e2] at C2
      have q1 := of_decide_eq_true e1
      have q2 := of_decide_eq_true e2
      by_cases e3 : rsVl (advR len b (advR len b s)) = rsVl (advR len b s)
      · have er : linR len b more s = (false, refR 2 (advR len b (advR len b s))) := by unfold linR; rw [if_pos e1, if_pos e2, if_pos e3]
        rw [er]
        refine pn_aload_n (q := 1) dX3_readLine_0 rfl rfl rfl ?_
        refine pn_upV0 (q := 4) (bc9 := 0) (bs9 := 0) (rs_advance adK d len b s hl h) lkX3_83 dX3_readLine_1 rfl rfl (pnSel_of (I := [0, 1, 2, 3, 4, 5, 6, 7, 8]) rfl rfl) (pnFree_none rfl) rfl rfl rfl (by omega) (by omega) (by omega) (Nat.le_of_ble_eq_true rfl) ?_
        refine pn_eq (h' := (hRS len b (advR len b s))) (st' := _) rfl rfl ?_
        refine pn_aload_n (q := 5) dX3_readLine_4 rfl rfl rfl ?_
        refine pn_iconst (q := 6) (v := nI 0) dX3_readLine_5 rfl (by decide) ?_
        refine pn_aload_n (q := 7) dX3_readLine_6 rfl rfl rfl ?_
        refine pn_get (q := 10) fX3_12 dX3_readLine_7 rfl rfl rfl ?_
        refine pn_get (q := 13) fX3_137 dX3_readLine_10 rfl rfl rfl ?_
        refine pn_iconst (q := 14) (v := nI 1) dX3_readLine_13 rfl (by decide) ?_
        first | with_reducible refine pn_isubN (q := 15) dX3_readLine_14 rfl (by omega) ?_ | refine pn_isub (q := 15) dX3_readLine_14 rfl ?_
        refine pn_upV1 (q := 18) (bc9 := 0) (bs9 := 0) (C1) lkX3_96 dX3_readLine_15 rfl rfl (pnSel_of (I := [0, 1, 2, 3, 4, 5, 6, 7, 8]) rfl rfl) (pnFree_none rfl) rfl rfl rfl (by omega) (by omega) (by omega) (Nat.le_of_ble_eq_true rfl) rfl ?_
        refine pn_eq (h' := (hRS len b (advR len b s))) (st' := _) rfl rfl ?_
        refine pn_bne (q := 21) (tgt := 23) dX3_readLine_18 (by decide) rfl (fun hc18 => ?_) (fun hc18 => ?_)
        · refine pn_aload_n (q := 24) dX3_readLine_23 rfl rfl rfl ?_
          refine pn_get (q := 27) fX3_41 dX3_readLine_24 rfl rfl rfl ?_
          refine pn_istore_n (q := 28) dX3_readLine_27 rfl (by decide) ?_
          refine pn_aload_n (q := 29) dX3_readLine_28 rfl rfl rfl ?_
          refine pn_upV0 (q := 32) (bc9 := 0) (bs9 := 0) (rs_advance adK d len b (advR len b s) hl h1) lkX3_83 dX3_readLine_29 rfl rfl (pnSel_of (I := [0, 1, 2, 3, 4, 5, 6, 7, 8]) rfl rfl) (pnFree_none rfl) rfl rfl rfl (by omega) (by omega) (by omega) (Nat.le_of_ble_eq_true rfl) ?_
          refine pn_eq (h' := (hRS len b (advR len b (advR len b s)))) (st' := _) rfl rfl ?_
          refine pn_aload_n (q := 33) dX3_readLine_32 rfl rfl rfl ?_
          refine pn_iconst (q := 34) (v := nI 0) dX3_readLine_33 rfl (by decide) ?_
          refine pn_aload_n (q := 35) dX3_readLine_34 rfl rfl rfl ?_
          refine pn_get (q := 38) fX3_12 dX3_readLine_35 rfl rfl rfl ?_
          refine pn_get (q := 41) fX3_137 dX3_readLine_38 rfl rfl rfl ?_
          refine pn_iconst (q := 42) (v := nI 1) dX3_readLine_41 rfl (by decide) ?_
          first | with_reducible refine pn_isubN (q := 43) dX3_readLine_42 rfl (by omega) ?_ | refine pn_isub (q := 43) dX3_readLine_42 rfl ?_
          refine pn_upV1 (q := 46) (bc9 := 0) (bs9 := 0) (C2) lkX3_96 dX3_readLine_43 rfl rfl (pnSel_of (I := [0, 1, 2, 3, 4, 5, 6, 7, 8]) rfl rfl) (pnFree_none rfl) rfl rfl rfl (by omega) (by omega) (by omega) (Nat.le_of_ble_eq_true rfl) rfl ?_
          refine pn_eq (h' := (hRS len b (advR len b (advR len b s)))) (st' := _) rfl rfl ?_
          refine pn_bne (q := 49) (tgt := 51) dX3_readLine_46 (by decide) rfl (fun hc46 => ?_) (fun hc46 => ?_)
          · refine pn_aload_n (q := 52) dX3_readLine_51 rfl rfl rfl ?_
            refine pn_get (q := 55) fX3_41 dX3_readLine_52 rfl rfl rfl ?_
            refine pn_iload_n (q := 56) dX3_readLine_55 rfl rfl ?_
            first | refine pn_nne (q := 59) (tgt := 65) dX3_readLine_56 (by decide) rfl (by omega) (by omega) (fun hc56 => ?_) (fun hc56 => ?_) | refine pn_icmp_ne (q := 59) (tgt := 65) dX3_readLine_56 (by decide) rfl (fun hc56 => ?_) (fun hc56 => ?_)
            · exact (hc56 e3).elim
            · refine pn_aload_n (q := 60) dX3_readLine_59 rfl rfl rfl ?_
              refine pn_iconst (q := 61) (v := nI 2) dX3_readLine_60 rfl (by decide) ?_
              refine pn_upV1 (q := 64) (bc9 := 0) (bs9 := 0) (rs_refuse adK d len b (advR len b (advR len b s)) 2) lkX3_92 dX3_readLine_61 rfl rfl (pnSel_of (I := [0, 1, 2, 3, 4, 5, 6, 7, 8]) rfl rfl) (pnFree_none rfl) rfl rfl rfl (by omega) (by omega) (by omega) (Nat.le_of_ble_eq_true rfl) rfl ?_
              refine pn_eq (h' := (hRS len b (refR 2 (advR len b (advR len b s))))) (st' := _) rfl rfl ?_
              refine pn_tret (b := false) _ ?_ dX3_readLine_64 rfl ?_
              · rfl
              · exact ⟨rfl, rfl⟩
          · cases hc46
        · cases hc18
      · have er : linR len b more s = (true, advR len b (setD (linD more (rsD s) (rsVl (advR len b s)) (rsVl (advR len b (advR len b s)))) (advR len b (advR len b s)))) := by unfold linR; rw [if_pos e1, if_pos e2, if_neg e3]
        rw [er]
        have D0 : rsD (advR len b (advR len b s)) = rsD s := rfl
        have CL := c_lineNumber adK d (rsD s).1 (rsD s).2.1 (rsD s).2.2.1 (rsD s).2.2.2.1 (rsD s).2.2.2.2.1 (rsD s).2.2.2.2.2.1 (rsD s).2.2.2.2.2.2.1 (rsD s).2.2.2.2.2.2.2.1 (rsD s).2.2.2.2.2.2.2.2 (rsVl (advR len b s)) (rsVl (advR len b (advR len b s))) hn (by have := q1.2.2; unfold rsVl; omega) (by have := q2.2.2; unfold rsVl; omega) (fun q => e3 q.symm)
        have kA := rs_advance adK d len b (setD (linD more (rsD s) (rsVl (advR len b s)) (rsVl (advR len b (advR len b s)))) (advR len b (advR len b s))) hl h2
        cases more with
        | true =>
          refine pn_aload_n (q := 1) dX3_readLine_0 rfl rfl rfl ?_
          refine pn_upV0 (q := 4) (bc9 := 0) (bs9 := 0) (rs_advance adK d len b s hl h) lkX3_83 dX3_readLine_1 rfl rfl (pnSel_of (I := [0, 1, 2, 3, 4, 5, 6, 7, 8]) rfl rfl) (pnFree_none rfl) rfl rfl rfl (by omega) (by omega) (by omega) (Nat.le_of_ble_eq_true rfl) ?_
          refine pn_eq (h' := (hRS len b (advR len b s))) (st' := _) rfl rfl ?_
          refine pn_aload_n (q := 5) dX3_readLine_4 rfl rfl rfl ?_
          refine pn_iconst (q := 6) (v := nI 0) dX3_readLine_5 rfl (by decide) ?_
          refine pn_aload_n (q := 7) dX3_readLine_6 rfl rfl rfl ?_
          refine pn_get (q := 10) fX3_12 dX3_readLine_7 rfl rfl rfl ?_
          refine pn_get (q := 13) fX3_137 dX3_readLine_10 rfl rfl rfl ?_
          refine pn_iconst (q := 14) (v := nI 1) dX3_readLine_13 rfl (by decide) ?_
          first | with_reducible refine pn_isubN (q := 15) dX3_readLine_14 rfl (by omega) ?_ | refine pn_isub (q := 15) dX3_readLine_14 rfl ?_
          refine pn_upV1 (q := 18) (bc9 := 0) (bs9 := 0) (C1) lkX3_96 dX3_readLine_15 rfl rfl (pnSel_of (I := [0, 1, 2, 3, 4, 5, 6, 7, 8]) rfl rfl) (pnFree_none rfl) rfl rfl rfl (by omega) (by omega) (by omega) (Nat.le_of_ble_eq_true rfl) rfl ?_
          refine pn_eq (h' := (hRS len b (advR len b s))) (st' := _) rfl rfl ?_
          refine pn_bne (q := 21) (tgt := 23) dX3_readLine_18 (by decide) rfl (fun hc18 => ?_) (fun hc18 => ?_)
          · refine pn_aload_n (q := 24) dX3_readLine_23 rfl rfl rfl ?_
            refine pn_get (q := 27) fX3_41 dX3_readLine_24 rfl rfl rfl ?_
            refine pn_istore_n (q := 28) dX3_readLine_27 rfl (by decide) ?_
            refine pn_aload_n (q := 29) dX3_readLine_28 rfl rfl rfl ?_
            refine pn_upV0 (q := 32) (bc9 := 0) (bs9 := 0) (rs_advance adK d len b (advR len b s) hl h1) lkX3_83 dX3_readLine_29 rfl rfl (pnSel_of (I := [0, 1, 2, 3, 4, 5, 6, 7, 8]) rfl rfl) (pnFree_none rfl) rfl rfl rfl (by omega) (by omega) (by omega) (Nat.le_of_ble_eq_true rfl) ?_
            refine pn_eq (h' := (hRS len b (advR len b (advR len b s)))) (st' := _) rfl rfl ?_
            refine pn_aload_n (q := 33) dX3_readLine_32 rfl rfl rfl ?_
            refine pn_iconst (q := 34) (v := nI 0) dX3_readLine_33 rfl (by decide) ?_
            refine pn_aload_n (q := 35) dX3_readLine_34 rfl rfl rfl ?_
            refine pn_get (q := 38) fX3_12 dX3_readLine_35 rfl rfl rfl ?_
            refine pn_get (q := 41) fX3_137 dX3_readLine_38 rfl rfl rfl ?_
            refine pn_iconst (q := 42) (v := nI 1) dX3_readLine_41 rfl (by decide) ?_
            first | with_reducible refine pn_isubN (q := 43) dX3_readLine_42 rfl (by omega) ?_ | refine pn_isub (q := 43) dX3_readLine_42 rfl ?_
            refine pn_upV1 (q := 46) (bc9 := 0) (bs9 := 0) (C2) lkX3_96 dX3_readLine_43 rfl rfl (pnSel_of (I := [0, 1, 2, 3, 4, 5, 6, 7, 8]) rfl rfl) (pnFree_none rfl) rfl rfl rfl (by omega) (by omega) (by omega) (Nat.le_of_ble_eq_true rfl) rfl ?_
            refine pn_eq (h' := (hRS len b (advR len b (advR len b s)))) (st' := _) rfl rfl ?_
            refine pn_bne (q := 49) (tgt := 51) dX3_readLine_46 (by decide) rfl (fun hc46 => ?_) (fun hc46 => ?_)
            · refine pn_aload_n (q := 52) dX3_readLine_51 rfl rfl rfl ?_
              refine pn_get (q := 55) fX3_41 dX3_readLine_52 rfl rfl rfl ?_
              refine pn_iload_n (q := 56) dX3_readLine_55 rfl rfl ?_
              first | refine pn_nne (q := 59) (tgt := 65) dX3_readLine_56 (by decide) rfl (by omega) (by omega) (fun hc56 => ?_) (fun hc56 => ?_) | refine pn_icmp_ne (q := 59) (tgt := 65) dX3_readLine_56 (by decide) rfl (fun hc56 => ?_) (fun hc56 => ?_)
              · refine pn_lconst (q := 66) (v := 1) dX3_readLine_65 rfl (by decide) ?_
                refine pn_aload_n (q := 67) dX3_readLine_66 rfl rfl rfl ?_
                refine pn_get (q := 70) fX3_12 dX3_readLine_67 rfl rfl rfl ?_
                refine pn_iload_n (q := 71) dX3_readLine_70 rfl rfl ?_
                refine pn_aload_n (q := 72) dX3_readLine_71 rfl rfl rfl ?_
                refine pn_get (q := 75) fX3_41 dX3_readLine_72 rfl rfl rfl ?_
                refine pn_roV1 (q := 78) (CL) lkX3_139 dX3_readLine_75 rfl rfl (pnSel_of (I := [1, 2, 3, 4]) rfl rfl) (pnFree_none rfl) rfl rfl rfl (by omega) (Nat.le_of_ble_eq_true rfl) rfl ?_
                refine pn_lshl (q := 79) dX3_readLine_78 rfl ?_
                refine pn_lstore_n (q := 80) dX3_readLine_79 rfl (by decide) ?_
                refine pn_aload_n (q := 81) dX3_readLine_80 rfl rfl rfl ?_
                refine pn_get (q := 84) fX3_12 dX3_readLine_81 rfl rfl rfl ?_
                refine pn_iload_n (q := 85) dX3_readLine_84 rfl rfl ?_
                refine pn_beq (q := 88) (tgt := 100) dX3_readLine_85 (by decide) rfl (fun hc85 => ?_) (fun hc85 => ?_)
                · cases hc85
                · refine pn_aload_n (q := 89) dX3_readLine_88 rfl rfl rfl ?_
                  refine pn_get (q := 92) fX3_12 dX3_readLine_89 rfl rfl rfl ?_
                  refine pn_get (q := 95) fX3_110 dX3_readLine_92 rfl rfl rfl ?_
                  refine pn_lload_n (q := 96) dX3_readLine_95 rfl rfl ?_
                  refine pn_lor (q := 97) dX3_readLine_96 rfl ?_
                  refine pn_goto (q := 113) dX3_readLine_97 (by decide) ?_
                  refine pn_put (q := 116) fX3_110 dX3_readLine_113 rfl rfl (Nat.le_of_ble_eq_true rfl) (pnF_long _) ?_
                  refine pn_aload_n (q := 117) dX3_readLine_116 rfl rfl rfl ?_
                  refine pn_upV0 (q := 120) (bc9 := 0) (bs9 := 0) (kA) lkX3_83 dX3_readLine_117 rfl rfl (pnSel_of (I := [0, 1, 2, 3, 4, 5, 6, 7, 8]) rfl rfl) (pnFree_none rfl) rfl rfl rfl (by omega) (by omega) (by omega) (Nat.le_of_ble_eq_true rfl) ?_
                  refine pn_eq (h' := (hRS len b (advR len b (setD (linD true (rsD s) (rsVl (advR len b s)) (rsVl (advR len b (advR len b s)))) (advR len b (advR len b s)))))) (st' := _) rfl rfl ?_
                  refine pn_iconst (q := 121) (v := nI 1) dX3_readLine_120 rfl (by decide) ?_
                  refine pn_tret (b := true) _ ?_ dX3_readLine_121 rfl ?_
                  · rfl
                  · exact ⟨rfl, rfl⟩
              · exact (e3 hc56).elim
            · cases hc46
          · cases hc18
        | false =>
          refine pn_aload_n (q := 1) dX3_readLine_0 rfl rfl rfl ?_
          refine pn_upV0 (q := 4) (bc9 := 0) (bs9 := 0) (rs_advance adK d len b s hl h) lkX3_83 dX3_readLine_1 rfl rfl (pnSel_of (I := [0, 1, 2, 3, 4, 5, 6, 7, 8]) rfl rfl) (pnFree_none rfl) rfl rfl rfl (by omega) (by omega) (by omega) (Nat.le_of_ble_eq_true rfl) ?_
          refine pn_eq (h' := (hRS len b (advR len b s))) (st' := _) rfl rfl ?_
          refine pn_aload_n (q := 5) dX3_readLine_4 rfl rfl rfl ?_
          refine pn_iconst (q := 6) (v := nI 0) dX3_readLine_5 rfl (by decide) ?_
          refine pn_aload_n (q := 7) dX3_readLine_6 rfl rfl rfl ?_
          refine pn_get (q := 10) fX3_12 dX3_readLine_7 rfl rfl rfl ?_
          refine pn_get (q := 13) fX3_137 dX3_readLine_10 rfl rfl rfl ?_
          refine pn_iconst (q := 14) (v := nI 1) dX3_readLine_13 rfl (by decide) ?_
          first | with_reducible refine pn_isubN (q := 15) dX3_readLine_14 rfl (by omega) ?_ | refine pn_isub (q := 15) dX3_readLine_14 rfl ?_
          refine pn_upV1 (q := 18) (bc9 := 0) (bs9 := 0) (C1) lkX3_96 dX3_readLine_15 rfl rfl (pnSel_of (I := [0, 1, 2, 3, 4, 5, 6, 7, 8]) rfl rfl) (pnFree_none rfl) rfl rfl rfl (by omega) (by omega) (by omega) (Nat.le_of_ble_eq_true rfl) rfl ?_
          refine pn_eq (h' := (hRS len b (advR len b s))) (st' := _) rfl rfl ?_
          refine pn_bne (q := 21) (tgt := 23) dX3_readLine_18 (by decide) rfl (fun hc18 => ?_) (fun hc18 => ?_)
          · refine pn_aload_n (q := 24) dX3_readLine_23 rfl rfl rfl ?_
            refine pn_get (q := 27) fX3_41 dX3_readLine_24 rfl rfl rfl ?_
            refine pn_istore_n (q := 28) dX3_readLine_27 rfl (by decide) ?_
            refine pn_aload_n (q := 29) dX3_readLine_28 rfl rfl rfl ?_
            refine pn_upV0 (q := 32) (bc9 := 0) (bs9 := 0) (rs_advance adK d len b (advR len b s) hl h1) lkX3_83 dX3_readLine_29 rfl rfl (pnSel_of (I := [0, 1, 2, 3, 4, 5, 6, 7, 8]) rfl rfl) (pnFree_none rfl) rfl rfl rfl (by omega) (by omega) (by omega) (Nat.le_of_ble_eq_true rfl) ?_
            refine pn_eq (h' := (hRS len b (advR len b (advR len b s)))) (st' := _) rfl rfl ?_
            refine pn_aload_n (q := 33) dX3_readLine_32 rfl rfl rfl ?_
            refine pn_iconst (q := 34) (v := nI 0) dX3_readLine_33 rfl (by decide) ?_
            refine pn_aload_n (q := 35) dX3_readLine_34 rfl rfl rfl ?_
            refine pn_get (q := 38) fX3_12 dX3_readLine_35 rfl rfl rfl ?_
            refine pn_get (q := 41) fX3_137 dX3_readLine_38 rfl rfl rfl ?_
            refine pn_iconst (q := 42) (v := nI 1) dX3_readLine_41 rfl (by decide) ?_
            first | with_reducible refine pn_isubN (q := 43) dX3_readLine_42 rfl (by omega) ?_ | refine pn_isub (q := 43) dX3_readLine_42 rfl ?_
            refine pn_upV1 (q := 46) (bc9 := 0) (bs9 := 0) (C2) lkX3_96 dX3_readLine_43 rfl rfl (pnSel_of (I := [0, 1, 2, 3, 4, 5, 6, 7, 8]) rfl rfl) (pnFree_none rfl) rfl rfl rfl (by omega) (by omega) (by omega) (Nat.le_of_ble_eq_true rfl) rfl ?_
            refine pn_eq (h' := (hRS len b (advR len b (advR len b s)))) (st' := _) rfl rfl ?_
            refine pn_bne (q := 49) (tgt := 51) dX3_readLine_46 (by decide) rfl (fun hc46 => ?_) (fun hc46 => ?_)
            · refine pn_aload_n (q := 52) dX3_readLine_51 rfl rfl rfl ?_
              refine pn_get (q := 55) fX3_41 dX3_readLine_52 rfl rfl rfl ?_
              refine pn_iload_n (q := 56) dX3_readLine_55 rfl rfl ?_
              first | refine pn_nne (q := 59) (tgt := 65) dX3_readLine_56 (by decide) rfl (by omega) (by omega) (fun hc56 => ?_) (fun hc56 => ?_) | refine pn_icmp_ne (q := 59) (tgt := 65) dX3_readLine_56 (by decide) rfl (fun hc56 => ?_) (fun hc56 => ?_)
              · refine pn_lconst (q := 66) (v := 1) dX3_readLine_65 rfl (by decide) ?_
                refine pn_aload_n (q := 67) dX3_readLine_66 rfl rfl rfl ?_
                refine pn_get (q := 70) fX3_12 dX3_readLine_67 rfl rfl rfl ?_
                refine pn_iload_n (q := 71) dX3_readLine_70 rfl rfl ?_
                refine pn_aload_n (q := 72) dX3_readLine_71 rfl rfl rfl ?_
                refine pn_get (q := 75) fX3_41 dX3_readLine_72 rfl rfl rfl ?_
                refine pn_roV1 (q := 78) (CL) lkX3_139 dX3_readLine_75 rfl rfl (pnSel_of (I := [1, 2, 3, 4]) rfl rfl) (pnFree_none rfl) rfl rfl rfl (by omega) (Nat.le_of_ble_eq_true rfl) rfl ?_
                refine pn_lshl (q := 79) dX3_readLine_78 rfl ?_
                refine pn_lstore_n (q := 80) dX3_readLine_79 rfl (by decide) ?_
                refine pn_aload_n (q := 81) dX3_readLine_80 rfl rfl rfl ?_
                refine pn_get (q := 84) fX3_12 dX3_readLine_81 rfl rfl rfl ?_
                refine pn_iload_n (q := 85) dX3_readLine_84 rfl rfl ?_
                refine pn_beq (q := 88) (tgt := 100) dX3_readLine_85 (by decide) rfl (fun hc85 => ?_) (fun hc85 => ?_)
                · refine pn_aload_n (q := 101) dX3_readLine_100 rfl rfl rfl ?_
                  refine pn_get (q := 104) fX3_12 dX3_readLine_101 rfl rfl rfl ?_
                  refine pn_get (q := 107) fX3_110 dX3_readLine_104 rfl rfl rfl ?_
                  refine pn_lload_n (q := 108) dX3_readLine_107 rfl rfl ?_
                  refine pn_ldc2 (q := 111) pw_741 dX3_readLine_108 rfl ?_
                  refine pn_lxor (q := 112) dX3_readLine_111 rfl ?_
                  refine pn_land (q := 113) dX3_readLine_112 rfl ?_
                  refine pn_put (q := 116) fX3_110 dX3_readLine_113 rfl rfl (Nat.le_of_ble_eq_true rfl) (pnF_long _) ?_
                  refine pn_aload_n (q := 117) dX3_readLine_116 rfl rfl rfl ?_
                  refine pn_upV0 (q := 120) (bc9 := 0) (bs9 := 0) (kA) lkX3_83 dX3_readLine_117 rfl rfl (pnSel_of (I := [0, 1, 2, 3, 4, 5, 6, 7, 8]) rfl rfl) (pnFree_none rfl) rfl rfl rfl (by omega) (by omega) (by omega) (Nat.le_of_ble_eq_true rfl) ?_
                  refine pn_eq (h' := (hRS len b (advR len b (setD (linD false (rsD s) (rsVl (advR len b s)) (rsVl (advR len b (advR len b s)))) (advR len b (advR len b s)))))) (st' := _) rfl rfl ?_
                  refine pn_iconst (q := 121) (v := nI 1) dX3_readLine_120 rfl (by decide) ?_
                  refine pn_tret (b := true) _ ?_ dX3_readLine_121 rfl ?_
                  · rfl
                  · exact ⟨rfl, rfl⟩
                · cases hc85
              · exact (e3 hc56).elim
            · cases hc46
          · cases hc18
    · rw [Bool.eq_false_iff.mpr e2] at C2
      have er : linR len b more s = (false, numR 0 ((rsD s).1 - 1) (advR len b (advR len b s))) := by unfold linR; rw [if_pos e1, if_neg e2]
      rw [er]
      refine pn_aload_n (q := 1) dX3_readLine_0 rfl rfl rfl ?_
      refine pn_upV0 (q := 4) (bc9 := 0) (bs9 := 0) (rs_advance adK d len b s hl h) lkX3_83 dX3_readLine_1 rfl rfl (pnSel_of (I := [0, 1, 2, 3, 4, 5, 6, 7, 8]) rfl rfl) (pnFree_none rfl) rfl rfl rfl (by omega) (by omega) (by omega) (Nat.le_of_ble_eq_true rfl) ?_
      refine pn_eq (h' := (hRS len b (advR len b s))) (st' := _) rfl rfl ?_
      refine pn_aload_n (q := 5) dX3_readLine_4 rfl rfl rfl ?_
      refine pn_iconst (q := 6) (v := nI 0) dX3_readLine_5 rfl (by decide) ?_
      refine pn_aload_n (q := 7) dX3_readLine_6 rfl rfl rfl ?_
      refine pn_get (q := 10) fX3_12 dX3_readLine_7 rfl rfl rfl ?_
      refine pn_get (q := 13) fX3_137 dX3_readLine_10 rfl rfl rfl ?_
      refine pn_iconst (q := 14) (v := nI 1) dX3_readLine_13 rfl (by decide) ?_
      first | with_reducible refine pn_isubN (q := 15) dX3_readLine_14 rfl (by omega) ?_ | refine pn_isub (q := 15) dX3_readLine_14 rfl ?_
      refine pn_upV1 (q := 18) (bc9 := 0) (bs9 := 0) (C1) lkX3_96 dX3_readLine_15 rfl rfl (pnSel_of (I := [0, 1, 2, 3, 4, 5, 6, 7, 8]) rfl rfl) (pnFree_none rfl) rfl rfl rfl (by omega) (by omega) (by omega) (Nat.le_of_ble_eq_true rfl) rfl ?_
      refine pn_eq (h' := (hRS len b (advR len b s))) (st' := _) rfl rfl ?_
      refine pn_bne (q := 21) (tgt := 23) dX3_readLine_18 (by decide) rfl (fun hc18 => ?_) (fun hc18 => ?_)
      · refine pn_aload_n (q := 24) dX3_readLine_23 rfl rfl rfl ?_
        refine pn_get (q := 27) fX3_41 dX3_readLine_24 rfl rfl rfl ?_
        refine pn_istore_n (q := 28) dX3_readLine_27 rfl (by decide) ?_
        refine pn_aload_n (q := 29) dX3_readLine_28 rfl rfl rfl ?_
        refine pn_upV0 (q := 32) (bc9 := 0) (bs9 := 0) (rs_advance adK d len b (advR len b s) hl h1) lkX3_83 dX3_readLine_29 rfl rfl (pnSel_of (I := [0, 1, 2, 3, 4, 5, 6, 7, 8]) rfl rfl) (pnFree_none rfl) rfl rfl rfl (by omega) (by omega) (by omega) (Nat.le_of_ble_eq_true rfl) ?_
        refine pn_eq (h' := (hRS len b (advR len b (advR len b s)))) (st' := _) rfl rfl ?_
        refine pn_aload_n (q := 33) dX3_readLine_32 rfl rfl rfl ?_
        refine pn_iconst (q := 34) (v := nI 0) dX3_readLine_33 rfl (by decide) ?_
        refine pn_aload_n (q := 35) dX3_readLine_34 rfl rfl rfl ?_
        refine pn_get (q := 38) fX3_12 dX3_readLine_35 rfl rfl rfl ?_
        refine pn_get (q := 41) fX3_137 dX3_readLine_38 rfl rfl rfl ?_
        refine pn_iconst (q := 42) (v := nI 1) dX3_readLine_41 rfl (by decide) ?_
        first | with_reducible refine pn_isubN (q := 43) dX3_readLine_42 rfl (by omega) ?_ | refine pn_isub (q := 43) dX3_readLine_42 rfl ?_
        refine pn_upV1 (q := 46) (bc9 := 0) (bs9 := 0) (C2) lkX3_96 dX3_readLine_43 rfl rfl (pnSel_of (I := [0, 1, 2, 3, 4, 5, 6, 7, 8]) rfl rfl) (pnFree_none rfl) rfl rfl rfl (by omega) (by omega) (by omega) (Nat.le_of_ble_eq_true rfl) rfl ?_
        refine pn_eq (h' := (hRS len b (numR 0 ((rsD s).1 - 1) (advR len b (advR len b s))))) (st' := _) rfl rfl ?_
        refine pn_bne (q := 49) (tgt := 51) dX3_readLine_46 (by decide) rfl (fun hc46 => ?_) (fun hc46 => ?_)
        · cases hc46
        · refine pn_iconst (q := 50) (v := nI 0) dX3_readLine_49 rfl (by decide) ?_
          refine pn_tret (b := false) _ ?_ dX3_readLine_50 rfl ?_
          · rfl
          · exact ⟨rfl, rfl⟩
      · cases hc18
  · rw [Bool.eq_false_iff.mpr e1] at C1
    have er : linR len b more s = (false, numR 0 ((rsD s).1 - 1) (advR len b s)) := by unfold linR; rw [if_neg e1]
    rw [er]
    refine pn_aload_n (q := 1) dX3_readLine_0 rfl rfl rfl ?_
    refine pn_upV0 (q := 4) (bc9 := 0) (bs9 := 0) (rs_advance adK d len b s hl h) lkX3_83 dX3_readLine_1 rfl rfl (pnSel_of (I := [0, 1, 2, 3, 4, 5, 6, 7, 8]) rfl rfl) (pnFree_none rfl) rfl rfl rfl (by omega) (by omega) (by omega) (Nat.le_of_ble_eq_true rfl) ?_
    refine pn_eq (h' := (hRS len b (advR len b s))) (st' := _) rfl rfl ?_
    refine pn_aload_n (q := 5) dX3_readLine_4 rfl rfl rfl ?_
    refine pn_iconst (q := 6) (v := nI 0) dX3_readLine_5 rfl (by decide) ?_
    refine pn_aload_n (q := 7) dX3_readLine_6 rfl rfl rfl ?_
    refine pn_get (q := 10) fX3_12 dX3_readLine_7 rfl rfl rfl ?_
    refine pn_get (q := 13) fX3_137 dX3_readLine_10 rfl rfl rfl ?_
    refine pn_iconst (q := 14) (v := nI 1) dX3_readLine_13 rfl (by decide) ?_
    first | with_reducible refine pn_isubN (q := 15) dX3_readLine_14 rfl (by omega) ?_ | refine pn_isub (q := 15) dX3_readLine_14 rfl ?_
    refine pn_upV1 (q := 18) (bc9 := 0) (bs9 := 0) (C1) lkX3_96 dX3_readLine_15 rfl rfl (pnSel_of (I := [0, 1, 2, 3, 4, 5, 6, 7, 8]) rfl rfl) (pnFree_none rfl) rfl rfl rfl (by omega) (by omega) (by omega) (Nat.le_of_ble_eq_true rfl) rfl ?_
    refine pn_eq (h' := (hRS len b (numR 0 ((rsD s).1 - 1) (advR len b s)))) (st' := _) rfl rfl ?_
    refine pn_bne (q := 21) (tgt := 23) dX3_readLine_18 (by decide) rfl (fun hc18 => ?_) (fun hc18 => ?_)
    · cases hc18
    · refine pn_iconst (q := 22) (v := nI 0) dX3_readLine_21 rfl (by decide) ?_
      refine pn_tret (b := false) _ ?_ dX3_readLine_22 rfl ?_
      · rfl
      · exact ⟨rfl, rfl⟩
