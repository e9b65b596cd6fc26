def nsR (D : NS) (f : Nat → Int32) : NS := (D.1, D.2.1, D.2.2.1, D.2.2.2.1, D.2.2.2.2.1, D.2.2.2.2.2.1, D.2.2.2.2.2.2.1, f, D.2.2.2.2.2.2.2.2)
abbrev RN : Type := Nat × Int32 × Nat × Nat × Nat × Nat × Nat × (Nat → Int32)
/-- numbers read into a row: how many (0 behind a fault), fault's place, fault, start, end, kind, value, row -/
def rnR (len : Nat) (b : Nat → Int32) (LEN fr most : Nat) : Nat → Nat → Int32 → Nat → Nat → Nat → Nat → Nat → (Nat → Int32) → RN
  | 0, _, fp, flt, st, en, kd, vl, row => (5, fp, flt, st, en, kd, vl, row)
  | z + 1, c, fp, flt, st, en, kd, vl, row =>
    if 0 < c ∧ ¬ kd = 2 then (c, fp, flt, st, en, kd, vl, row) else
    if nuB kd vl 0 most = true then rnR len b LEN fr most z (c + 1) fp flt (tkS len b en) (tkE len b en) (tkK len b en) (tkV len b en vl) (if fr + c < LEN then upd row (fr + c) (nI vl) else row)
    else (0, nuP kd vl 0 most st fp, nuF kd vl 0 most flt, st, en, kd, vl, row)
theorem nu_t {kd vl lo hi st flt : Nat} {fp : Int32} (h : nuB kd vl lo hi = true) : nuP kd vl lo hi st fp = fp ∧ nuF kd vl lo hi flt = flt := by
  have h1 := of_decide_eq_true h
  unfold nuP nuF
  rw [if_pos h1, if_pos h1.1, if_pos h1.2]
  exact ⟨rfl, rfl⟩
set_option maxRecDepth 100000 in
theorem c_readNodesP (adK : Nat → Nat) (d : Nat) (fp0 : Int32) (flt0 len st0 en0 kd0 vl0 : Nat) (shd : Bool) (pct bct : Nat) (D : NS) (pl bl b : Nat → Int32) (row0 : Nat → Int32) (fr most : Nat) (hl : len ≤ 300) (he0 : en0 ≤ len) (hk0 : kd0 ≤ 4) (hv0 : vl0 ≤ 1000) (hfr : fr ≤ 1000) (hm : most ≤ 1000) (RES : RN) (hRES : rnR len b 250 fr most 5 0 fp0 flt0 st0 en0 kd0 vl0 row0 = RES) (hRd0 : List pnE) (hh0 : ∀ row, row = row0 → hRd fp0 flt0 len st0 en0 kd0 vl0 shd pct bct D row pl bl b = hRd0) : pnCt mX3_readNodes adK (d + 2) 0 0 [.ref 0, .ref 5, .int (nI fr), .int (nI most)] hRd0 (pnIs (.inl (some (.int (nI RES.1)))) (hRd RES.2.1 RES.2.2.1 len RES.2.2.2.1 RES.2.2.2.2.1 RES.2.2.2.2.2.1 RES.2.2.2.2.2.2.1 shd pct bct D RES.2.2.2.2.2.2.2 pl bl b)) := by
  rw [← hh0 row0 rfl]
  refine pnCt_of (by decide) kX3_readNodes (Nat.le_of_ble_eq_true rfl) rfl (hRd_cl _ _ _ _ _ _ _ _ _ _ _ _ _ _ _) (pnCS_b rfl) ?_
  have loop : ∀ (z c : Nat) (fp : Int32) (flt st en kd vl : Nat) (row : Nat → Int32), c + z = 5 → en ≤ len → kd ≤ 4 → vl ≤ 1000 → rnR len b 250 fr most z c fp flt st en kd vl row = RES → pnWP mX3_readNodes adK (d + 2) (pnIs (.inl (some (.int (nI RES.1)))) (hRd RES.2.1 RES.2.2.1 len RES.2.2.2.1 RES.2.2.2.2.1 RES.2.2.2.2.2.1 RES.2.2.2.2.2.2.1 shd pct bct D RES.2.2.2.2.2.2.2 pl bl b)) 0 0 (hRd fp flt len st en kd vl shd pct bct D row pl bl b) [some (.ref 0), some (.ref 5), some (.int (nI fr)), some (.int (nI most)), some (.int (nI c))] [] 3 := by
    intro z
    induction z with
    | zero =>
      intro c fp flt st en kd vl row hz h1 h2 h3 e
      refine pn_iload (q := 5) dX3_readNodes_3 rfl rfl ?_
      refine pn_iconst (q := 6) (v := nI 5) dX3_readNodes_5 rfl (by decide) ?_
      first | refine pn_nge (q := 9) (tgt := 65) dX3_readNodes_6 (by decide) rfl (by omega) (by omega) (fun hc6 => ?_) (fun hc6 => ?_) | refine pn_icmp_ge (q := 9) (tgt := 65) dX3_readNodes_6 (by decide) rfl (fun hc6 => ?_) (fun hc6 => ?_)
      · refine pn_iconst (q := 66) (v := nI 5) dX3_readNodes_65 rfl (by decide) ?_
        refine pn_iret dX3_readNodes_66 rfl ?_
        rw [← e]; exact ⟨rfl, rfl⟩
      · omega
    | succ z ih =>
      intro c fp flt st en kd vl row hz h1 h2 h3 e
      have t1 := tk_le (b := b) (v := vl) h1 h3
      have e2 : rnR len b 250 fr most (z + 1) c fp flt st en kd vl row = (if 0 < c ∧ ¬ kd = 2 then (c, fp, flt, st, en, kd, vl, row) else if nuB kd vl 0 most = true then rnR len b 250 fr most z (c + 1) fp flt (tkS len b en) (tkE len b en) (tkK len b en) (tkV len b en vl) (if fr + c < 250 then upd row (fr + c) (nI vl) else row) else (0, nuP kd vl 0 most st fp, nuF kd vl 0 most flt, st, en, kd, vl, row)) := rfl
      rw [e2] at e
      have k25 : ¬ (0 < c ∧ ¬ kd = 2) → pnWP mX3_readNodes adK (d + 2) (pnIs (.inl (some (.int (nI RES.1)))) (hRd RES.2.1 RES.2.2.1 len RES.2.2.2.1 RES.2.2.2.2.1 RES.2.2.2.2.2.1 RES.2.2.2.2.2.2.1 shd pct bct D RES.2.2.2.2.2.2.2 pl bl b)) 0 0 (hRd fp flt len st en kd vl shd pct bct D row pl bl b) [some (.ref 0), some (.ref 5), some (.int (nI fr)), some (.int (nI most)), some (.int (nI c))] [] 25 := by
        intro hg
        rw [if_neg hg] at e
        have CN := c_isNumber adK d fp flt len st en kd vl shd pct bct D row pl bl b 0 most h2 h3 (by omega) hm
        by_cases hn : nuB kd vl 0 most = true
        · rw [if_pos hn] at e
          rw [hn, (nu_t hn (st := st) (flt := flt) (fp := fp)).1, (nu_t hn (st := st) (flt := flt) (fp := fp)).2] at CN
          have k55 : pnWP mX3_readNodes adK (d + 2) (pnIs (.inl (some (.int (nI RES.1)))) (hRd RES.2.1 RES.2.2.1 len RES.2.2.2.1 RES.2.2.2.2.1 RES.2.2.2.2.2.1 RES.2.2.2.2.2.2.1 shd pct bct D RES.2.2.2.2.2.2.2 pl bl b)) 0 0 (hRd fp flt len st en kd vl shd pct bct D (if fr + c < 250 then upd row (fr + c) (nI vl) else row) pl bl b) [some (.ref 0), some (.ref 5), some (.int (nI fr)), some (.int (nI most)), some (.int (nI c))] [] 55 := by
            refine pn_aload_n (q := 56) dX3_readNodes_55 rfl rfl rfl ?_
            refine pn_upV0 (q := 59) (bc9 := 0) (bs9 := 0) (c_advance adK d fp flt len st en kd vl shd pct bct D (if fr + c < 250 then upd row (fr + c) (nI vl) else row) pl bl b hl h1 h3) lkX3_83 dX3_readNodes_56 rfl rfl (pnSel_of (I := [0, 1, 2, 3, 4, 5, 6, 7, 8]) rfl rfl) (pnFree_none rfl) rfl rfl rfl (by omega) (by omega) (by omega) (Nat.le_of_ble_eq_true rfl) ?_
            refine pn_eq (h' := (hRd fp flt len (tkS len b en) (tkE len b en) (tkK len b en) (tkV len b en vl) shd pct bct D (if fr + c < 250 then upd row (fr + c) (nI vl) else row) pl bl b)) (st' := _) rfl rfl ?_
            first | refine pn_iinc1 (q := 62) dX3_readNodes_59 rfl rfl (by decide) ?_ | refine pn_iinc (q := 62) (mm := 1) dX3_readNodes_59 rfl rfl (by decide) (by decide) ?_
            refine pn_goto (q := 3) dX3_readNodes_62 (by decide) ?_
            exact ih (c + 1) _ _ _ _ _ _ _ (by omega) t1.2.2.2.1 t1.2.2.2.2.1 t1.2.2.2.2.2.1 e
          refine pn_aload_n (q := 26) dX3_readNodes_25 rfl rfl rfl ?_
          refine pn_iconst (q := 27) (v := nI 0) dX3_readNodes_26 rfl (by decide) ?_
          refine pn_iload_n (q := 28) dX3_readNodes_27 rfl rfl ?_
          refine pn_upV1 (q := 31) (bc9 := 0) (bs9 := 0) (CN) lkX3_96 dX3_readNodes_28 rfl rfl (pnSel_of (I := [0, 1, 2, 3, 4, 5, 6, 7, 8]) rfl rfl) (pnFree_none rfl) rfl rfl rfl (by omega) (by omega) (by omega) (Nat.le_of_ble_eq_true rfl) rfl ?_
          refine pn_eq (h' := (hRd fp flt len st en kd vl shd pct bct D row pl bl b)) (st' := _) rfl rfl ?_
          refine pn_bne (q := 34) (tgt := 36) dX3_readNodes_31 (by decide) rfl (fun hc31 => ?_) (fun hc31 => ?_)
          · refine pn_iload_n (q := 37) dX3_readNodes_36 rfl rfl ?_
            refine pn_iload (q := 39) dX3_readNodes_37 rfl rfl ?_
            first | with_reducible refine pn_iaddN (q := 40) dX3_readNodes_39 rfl ?_ | refine pn_iadd (q := 40) dX3_readNodes_39 rfl ?_
            refine pn_aload_n (q := 41) dX3_readNodes_40 rfl rfl rfl ?_
            refine pn_alen (q := 42) dX3_readNodes_41 rfl rfl (by decide) ?_
            first | refine pn_nge (q := 45) (tgt := 55) dX3_readNodes_42 (by decide) rfl (by omega) (by omega) (fun hc42 => ?_) (fun hc42 => ?_) | refine pn_icmp_ge (q := 45) (tgt := 55) dX3_readNodes_42 (by decide) rfl (fun hc42 => ?_) (fun hc42 => ?_)
            · first | (rw [if_pos (by omega)] at k55; exact k55) | (rw [if_neg (by omega)] at k55; exact k55)
            · refine pn_aload_n (q := 46) dX3_readNodes_45 rfl rfl rfl ?_
              refine pn_iload_n (q := 47) dX3_readNodes_46 rfl rfl ?_
              refine pn_iload (q := 49) dX3_readNodes_47 rfl rfl ?_
              first | with_reducible refine pn_iaddN (q := 50) dX3_readNodes_49 rfl ?_ | refine pn_iadd (q := 50) dX3_readNodes_49 rfl ?_
              refine pn_aload_n (q := 51) dX3_readNodes_50 rfl rfl rfl ?_
              refine pn_get (q := 54) fX3_41 dX3_readNodes_51 rfl rfl rfl ?_
              refine pn_iast (q := 55) dX3_readNodes_54 rfl rfl rfl (by omega) (by first | decide | omega) ?_
              first | (rw [if_pos (by omega)] at k55; exact k55) | (rw [if_neg (by omega)] at k55; exact k55)
          · cases hc31
        · rw [if_neg hn] at e
          have hf : nuB kd vl 0 most = false := Bool.eq_false_iff.mpr hn
          rw [hf] at CN
          refine pn_aload_n (q := 26) dX3_readNodes_25 rfl rfl rfl ?_
          refine pn_iconst (q := 27) (v := nI 0) dX3_readNodes_26 rfl (by decide) ?_
          refine pn_iload_n (q := 28) dX3_readNodes_27 rfl rfl ?_
          refine pn_upV1 (q := 31) (bc9 := 0) (bs9 := 0) (CN) lkX3_96 dX3_readNodes_28 rfl rfl (pnSel_of (I := [0, 1, 2, 3, 4, 5, 6, 7, 8]) rfl rfl) (pnFree_none rfl) rfl rfl rfl (by omega) (by omega) (by omega) (Nat.le_of_ble_eq_true rfl) rfl ?_
          refine pn_eq (h' := (hRd (nuP kd vl 0 most st fp) (nuF kd vl 0 most flt) len st en kd vl shd pct bct D row pl bl b)) (st' := _) rfl rfl ?_
          refine pn_bne (q := 34) (tgt := 36) dX3_readNodes_31 (by decide) rfl (fun hc31 => ?_) (fun hc31 => ?_)
          · cases hc31
          · refine pn_iconst (q := 35) (v := nI 0) dX3_readNodes_34 rfl (by decide) ?_
            refine pn_iret dX3_readNodes_35 rfl ?_
            rw [← e]; exact ⟨rfl, rfl⟩
      refine pn_iload (q := 5) dX3_readNodes_3 rfl rfl ?_
      refine pn_iconst (q := 6) (v := nI 5) dX3_readNodes_5 rfl (by decide) ?_
      first | refine pn_nge (q := 9) (tgt := 65) dX3_readNodes_6 (by decide) rfl (by omega) (by omega) (fun hc6 => ?_) (fun hc6 => ?_) | refine pn_icmp_ge (q := 9) (tgt := 65) dX3_readNodes_6 (by decide) rfl (fun hc6 => ?_) (fun hc6 => ?_)
      · omega
      · refine pn_iload (q := 11) dX3_readNodes_9 rfl rfl ?_
        first | refine pn_zle (q := 14) (tgt := 25) dX3_readNodes_11 (by decide) rfl (by omega) (fun hc11 => ?_) (fun hc11 => ?_) | refine pn_if_le (q := 14) (tgt := 25) dX3_readNodes_11 (by decide) rfl (fun hc11 => ?_) (fun hc11 => ?_)
        · exact k25 (by omega)
        · refine pn_aload_n (q := 15) dX3_readNodes_14 rfl rfl rfl ?_
          refine pn_get (q := 18) fX3_38 dX3_readNodes_15 rfl rfl rfl ?_
          refine pn_iconst (q := 19) (v := nI 2) dX3_readNodes_18 rfl (by decide) ?_
          first | refine pn_neq (q := 22) (tgt := 25) dX3_readNodes_19 (by decide) rfl (by omega) (by omega) (fun hc19 => ?_) (fun hc19 => ?_) | refine pn_icmp_eq (q := 22) (tgt := 25) dX3_readNodes_19 (by decide) rfl (fun hc19 => ?_) (fun hc19 => ?_)
          · exact k25 (by omega)
          · refine pn_iload (q := 24) dX3_readNodes_22 rfl rfl ?_
            refine pn_iret dX3_readNodes_24 rfl ?_
            rw [if_pos (by omega)] at e; rw [← e]; exact ⟨rfl, rfl⟩
  refine pn_iconst (q := 1) (v := nI 0) dX3_readNodes_0 rfl (by decide) ?_
  refine pn_istore (q := 3) dX3_readNodes_1 rfl (by decide) ?_
  exact loop 5 0 _ _ _ _ _ _ _ (by omega) he0 hk0 hv0 hRES
set_option maxRecDepth 100000 in
theorem c_readNodesB (adK : Nat → Nat) (d : Nat) (fp0 : Int32) (flt0 len st0 en0 kd0 vl0 : Nat) (shd : Bool) (pct bct : Nat) (D : NS) (pn pl bl b : Nat → Int32) (row0 : Nat → Int32) (fr most : Nat) (hl : len ≤ 300) (he0 : en0 ≤ len) (hk0 : kd0 ≤ 4) (hv0 : vl0 ≤ 1000) (hfr : fr ≤ 1000) (hm : most ≤ 1000) (RES : RN) (hRES : rnR len b 20 fr most 5 0 fp0 flt0 st0 en0 kd0 vl0 row0 = RES) (hRd0 : List pnE) (hh0 : ∀ row, row = row0 → hRd fp0 flt0 len st0 en0 kd0 vl0 shd pct bct (nsR D row) pn pl bl b = hRd0) : pnCt mX3_readNodes adK (d + 2) 0 0 [.ref 0, .ref 3, .int (nI fr), .int (nI most)] hRd0 (pnIs (.inl (some (.int (nI RES.1)))) (hRd RES.2.1 RES.2.2.1 len RES.2.2.2.1 RES.2.2.2.2.1 RES.2.2.2.2.2.1 RES.2.2.2.2.2.2.1 shd pct bct (nsR D RES.2.2.2.2.2.2.2) pn pl bl b)) := by
  rw [← hh0 row0 rfl]
  refine pnCt_of (by decide) kX3_readNodes (Nat.le_of_ble_eq_true rfl) rfl (hRd_cl _ _ _ _ _ _ _ _ _ _ _ _ _ _ _) (pnCS_b rfl) ?_
  have loop : ∀ (z c : Nat) (fp : Int32) (flt st en kd vl : Nat) (row : Nat → Int32), c + z = 5 → en ≤ len → kd ≤ 4 → vl ≤ 1000 → rnR len b 20 fr most z c fp flt st en kd vl row = RES → pnWP mX3_readNodes adK (d + 2) (pnIs (.inl (some (.int (nI RES.1)))) (hRd RES.2.1 RES.2.2.1 len RES.2.2.2.1 RES.2.2.2.2.1 RES.2.2.2.2.2.1 RES.2.2.2.2.2.2.1 shd pct bct (nsR D RES.2.2.2.2.2.2.2) pn pl bl b)) 0 0 (hRd fp flt len st en kd vl shd pct bct (nsR D row) pn pl bl b) [some (.ref 0), some (.ref 3), some (.int (nI fr)), some (.int (nI most)), some (.int (nI c))] [] 3 := by
    intro z
    induction z with
    | zero =>
      intro c fp flt st en kd vl row hz h1 h2 h3 e
      refine pn_iload (q := 5) dX3_readNodes_3 rfl rfl ?_
      refine pn_iconst (q := 6) (v := nI 5) dX3_readNodes_5 rfl (by decide) ?_
      first | refine pn_nge (q := 9) (tgt := 65) dX3_readNodes_6 (by decide) rfl (by omega) (by omega) (fun hc6 => ?_) (fun hc6 => ?_) | refine pn_icmp_ge (q := 9) (tgt := 65) dX3_readNodes_6 (by decide) rfl (fun hc6 => ?_) (fun hc6 => ?_)
      · refine pn_iconst (q := 66) (v := nI 5) dX3_readNodes_65 rfl (by decide) ?_
        refine pn_iret dX3_readNodes_66 rfl ?_
        rw [← e]; exact ⟨rfl, rfl⟩
      · omega
    | succ z ih =>
      intro c fp flt st en kd vl row hz h1 h2 h3 e
      have t1 := tk_le (b := b) (v := vl) h1 h3
      have e2 : rnR len b 20 fr most (z + 1) c fp flt st en kd vl row = (if 0 < c ∧ ¬ kd = 2 then (c, fp, flt, st, en, kd, vl, row) else if nuB kd vl 0 most = true then rnR len b 20 fr most z (c + 1) fp flt (tkS len b en) (tkE len b en) (tkK len b en) (tkV len b en vl) (if fr + c < 20 then upd row (fr + c) (nI vl) else row) else (0, nuP kd vl 0 most st fp, nuF kd vl 0 most flt, st, en, kd, vl, row)) := rfl
      rw [e2] at e
      have k25 : ¬ (0 < c ∧ ¬ kd = 2) → pnWP mX3_readNodes adK (d + 2) (pnIs (.inl (some (.int (nI RES.1)))) (hRd RES.2.1 RES.2.2.1 len RES.2.2.2.1 RES.2.2.2.2.1 RES.2.2.2.2.2.1 RES.2.2.2.2.2.2.1 shd pct bct (nsR D RES.2.2.2.2.2.2.2) pn pl bl b)) 0 0 (hRd fp flt len st en kd vl shd pct bct (nsR D row) pn pl bl b) [some (.ref 0), some (.ref 3), some (.int (nI fr)), some (.int (nI most)), some (.int (nI c))] [] 25 := by
        intro hg
        rw [if_neg hg] at e
        have CN := c_isNumber adK d fp flt len st en kd vl shd pct bct (nsR D row) pn pl bl b 0 most h2 h3 (by omega) hm
        by_cases hn : nuB kd vl 0 most = true
        · rw [if_pos hn] at e
          rw [hn, (nu_t hn (st := st) (flt := flt) (fp := fp)).1, (nu_t hn (st := st) (flt := flt) (fp := fp)).2] at CN
          have k55 : pnWP mX3_readNodes adK (d + 2) (pnIs (.inl (some (.int (nI RES.1)))) (hRd RES.2.1 RES.2.2.1 len RES.2.2.2.1 RES.2.2.2.2.1 RES.2.2.2.2.2.1 RES.2.2.2.2.2.2.1 shd pct bct (nsR D RES.2.2.2.2.2.2.2) pn pl bl b)) 0 0 (hRd fp flt len st en kd vl shd pct bct (nsR D (if fr + c < 20 then upd row (fr + c) (nI vl) else row)) pn pl bl b) [some (.ref 0), some (.ref 3), some (.int (nI fr)), some (.int (nI most)), some (.int (nI c))] [] 55 := by
            refine pn_aload_n (q := 56) dX3_readNodes_55 rfl rfl rfl ?_
            refine pn_upV0 (q := 59) (bc9 := 0) (bs9 := 0) (c_advance adK d fp flt len st en kd vl shd pct bct (nsR D (if fr + c < 20 then upd row (fr + c) (nI vl) else row)) pn pl bl b hl h1 h3) lkX3_83 dX3_readNodes_56 rfl rfl (pnSel_of (I := [0, 1, 2, 3, 4, 5, 6, 7, 8]) rfl rfl) (pnFree_none rfl) rfl rfl rfl (by omega) (by omega) (by omega) (Nat.le_of_ble_eq_true rfl) ?_
            refine pn_eq (h' := (hRd fp flt len (tkS len b en) (tkE len b en) (tkK len b en) (tkV len b en vl) shd pct bct (nsR D (if fr + c < 20 then upd row (fr + c) (nI vl) else row)) pn pl bl b)) (st' := _) rfl rfl ?_
            first | refine pn_iinc1 (q := 62) dX3_readNodes_59 rfl rfl (by decide) ?_ | refine pn_iinc (q := 62) (mm := 1) dX3_readNodes_59 rfl rfl (by decide) (by decide) ?_
            refine pn_goto (q := 3) dX3_readNodes_62 (by decide) ?_
            exact ih (c + 1) _ _ _ _ _ _ _ (by omega) t1.2.2.2.1 t1.2.2.2.2.1 t1.2.2.2.2.2.1 e
          refine pn_aload_n (q := 26) dX3_readNodes_25 rfl rfl rfl ?_
          refine pn_iconst (q := 27) (v := nI 0) dX3_readNodes_26 rfl (by decide) ?_
          refine pn_iload_n (q := 28) dX3_readNodes_27 rfl rfl ?_
          refine pn_upV1 (q := 31) (bc9 := 0) (bs9 := 0) (CN) lkX3_96 dX3_readNodes_28 rfl rfl (pnSel_of (I := [0, 1, 2, 3, 4, 5, 6, 7, 8]) rfl rfl) (pnFree_none rfl) rfl rfl rfl (by omega) (by omega) (by omega) (Nat.le_of_ble_eq_true rfl) rfl ?_
          refine pn_eq (h' := (hRd fp flt len st en kd vl shd pct bct (nsR D row) pn pl bl b)) (st' := _) rfl rfl ?_
          refine pn_bne (q := 34) (tgt := 36) dX3_readNodes_31 (by decide) rfl (fun hc31 => ?_) (fun hc31 => ?_)
          · refine pn_iload_n (q := 37) dX3_readNodes_36 rfl rfl ?_
            refine pn_iload (q := 39) dX3_readNodes_37 rfl rfl ?_
            first | with_reducible refine pn_iaddN (q := 40) dX3_readNodes_39 rfl ?_ | refine pn_iadd (q := 40) dX3_readNodes_39 rfl ?_
            refine pn_aload_n (q := 41) dX3_readNodes_40 rfl rfl rfl ?_
            refine pn_alen (q := 42) dX3_readNodes_41 rfl rfl (by decide) ?_
            first | refine pn_nge (q := 45) (tgt := 55) dX3_readNodes_42 (by decide) rfl (by omega) (by omega) (fun hc42 => ?_) (fun hc42 => ?_) | refine pn_icmp_ge (q := 45) (tgt := 55) dX3_readNodes_42 (by decide) rfl (fun hc42 => ?_) (fun hc42 => ?_)
            · first | (rw [if_pos (by omega)] at k55; exact k55) | (rw [if_neg (by omega)] at k55; exact k55)
            · refine pn_aload_n (q := 46) dX3_readNodes_45 rfl rfl rfl ?_
              refine pn_iload_n (q := 47) dX3_readNodes_46 rfl rfl ?_
              refine pn_iload (q := 49) dX3_readNodes_47 rfl rfl ?_
              first | with_reducible refine pn_iaddN (q := 50) dX3_readNodes_49 rfl ?_ | refine pn_iadd (q := 50) dX3_readNodes_49 rfl ?_
              refine pn_aload_n (q := 51) dX3_readNodes_50 rfl rfl rfl ?_
              refine pn_get (q := 54) fX3_41 dX3_readNodes_51 rfl rfl rfl ?_
              refine pn_iast (q := 55) dX3_readNodes_54 rfl rfl rfl (by omega) (by first | decide | omega) ?_
              first | (rw [if_pos (by omega)] at k55; exact k55) | (rw [if_neg (by omega)] at k55; exact k55)
          · cases hc31
        · rw [if_neg hn] at e
          have hf : nuB kd vl 0 most = false := Bool.eq_false_iff.mpr hn
          rw [hf] at CN
          refine pn_aload_n (q := 26) dX3_readNodes_25 rfl rfl rfl ?_
          refine pn_iconst (q := 27) (v := nI 0) dX3_readNodes_26 rfl (by decide) ?_
          refine pn_iload_n (q := 28) dX3_readNodes_27 rfl rfl ?_
          refine pn_upV1 (q := 31) (bc9 := 0) (bs9 := 0) (CN) lkX3_96 dX3_readNodes_28 rfl rfl (pnSel_of (I := [0, 1, 2, 3, 4, 5, 6, 7, 8]) rfl rfl) (pnFree_none rfl) rfl rfl rfl (by omega) (by omega) (by omega) (Nat.le_of_ble_eq_true rfl) rfl ?_
          refine pn_eq (h' := (hRd (nuP kd vl 0 most st fp) (nuF kd vl 0 most flt) len st en kd vl shd pct bct (nsR D row) pn pl bl b)) (st' := _) rfl rfl ?_
          refine pn_bne (q := 34) (tgt := 36) dX3_readNodes_31 (by decide) rfl (fun hc31 => ?_) (fun hc31 => ?_)
          · cases hc31
          · refine pn_iconst (q := 35) (v := nI 0) dX3_readNodes_34 rfl (by decide) ?_
            refine pn_iret dX3_readNodes_35 rfl ?_
            rw [← e]; exact ⟨rfl, rfl⟩
      refine pn_iload (q := 5) dX3_readNodes_3 rfl rfl ?_
      refine pn_iconst (q := 6) (v := nI 5) dX3_readNodes_5 rfl (by decide) ?_
      first | refine pn_nge (q := 9) (tgt := 65) dX3_readNodes_6 (by decide) rfl (by omega) (by omega) (fun hc6 => ?_) (fun hc6 => ?_) | refine pn_icmp_ge (q := 9) (tgt := 65) dX3_readNodes_6 (by decide) rfl (fun hc6 => ?_) (fun hc6 => ?_)
      · omega
      · refine pn_iload (q := 11) dX3_readNodes_9 rfl rfl ?_
        first | refine pn_zle (q := 14) (tgt := 25) dX3_readNodes_11 (by decide) rfl (by omega) (fun hc11 => ?_) (fun hc11 => ?_) | refine pn_if_le (q := 14) (tgt := 25) dX3_readNodes_11 (by decide) rfl (fun hc11 => ?_) (fun hc11 => ?_)
        · exact k25 (by omega)
        · refine pn_aload_n (q := 15) dX3_readNodes_14 rfl rfl rfl ?_
          refine pn_get (q := 18) fX3_38 dX3_readNodes_15 rfl rfl rfl ?_
          refine pn_iconst (q := 19) (v := nI 2) dX3_readNodes_18 rfl (by decide) ?_
          first | refine pn_neq (q := 22) (tgt := 25) dX3_readNodes_19 (by decide) rfl (by omega) (by omega) (fun hc19 => ?_) (fun hc19 => ?_) | refine pn_icmp_eq (q := 22) (tgt := 25) dX3_readNodes_19 (by decide) rfl (fun hc19 => ?_) (fun hc19 => ?_)
          · exact k25 (by omega)
          · refine pn_iload (q := 24) dX3_readNodes_22 rfl rfl ?_
            refine pn_iret dX3_readNodes_24 rfl ?_
            rw [if_pos (by omega)] at e; rw [← e]; exact ⟨rfl, rfl⟩
  refine pn_iconst (q := 1) (v := nI 0) dX3_readNodes_0 rfl (by decide) ?_
  refine pn_istore (q := 3) dX3_readNodes_1 rfl (by decide) ?_
  exact loop 5 0 _ _ _ _ _ _ _ (by omega) he0 hk0 hv0 hRES
