/-! words -/
theorem pnStr_len : ∀ x ∈ pnStr, x.2.2.length < 1000 := by decide +kernel
theorem pnStr_ch : ∀ x ∈ pnStr, ∀ c ∈ x.2.2.toList, c.toNat < 128 := by decide +kernel
theorem pnStr_at {j : Nat} {x : String × Nat × String} (hj : pnStr[j]? = some x) : x.2.2.length < 1000 ∧ ∀ i, i < x.2.2.length → (x.2.2.toList.getD i 'a').toNat < 128 := by
  have hm := List.mem_of_getElem? hj
  refine ⟨pnStr_len x hm, fun i hi => ?_⟩
  have hi2 : i < x.2.2.toList.length := by rw [String.length_toList]; exact hi
  rw [List.getD_eq_getElem?_getD, List.getElem?_eq_getElem hi2]
  exact pnStr_ch x hm _ (List.getElem_mem hi2)
def wrdR (b : Nat → Int32) (w : String) (s : RS) : Bool := wdB b s.2.2.1 s.2.2.2.1 s.2.2.2.2.1 w.toList
theorem rs_isWord (adK : Nat → Nat) (d len : Nat) (b : Nat → Int32) (s : RS) (j : Nat) (x : String × Nat × String) (hj : pnStr[j]? = some x) (hl : len ≤ 300) (h : rsT len s) : pnCt mX3_isWord adK (d + 4) 0 0 [.ref 0, .retAddr (adK j)] (hRS len b s) (pnIs (.inl (some (.int (nB (wrdR b x.2.2 s))))) (hRS len b s)) := c_isWord adK d s.1 s.2.1 len s.2.2.1 s.2.2.2.1 s.2.2.2.2.1 s.2.2.2.2.2.1 s.2.2.2.2.2.2.1 s.2.2.2.2.2.2.2.1 s.2.2.2.2.2.2.2.2.1 s.2.2.2.2.2.2.2.2.2.1 s.2.2.2.2.2.2.2.2.2.2.1 (fun j => nI (s.2.2.2.2.2.2.2.2.2.2.2.1 j)) (fun j => nI (s.2.2.2.2.2.2.2.2.2.2.2.2 j)) b j x hj (pnStr_at hj).1 (pnStr_at hj).2 hl h.2.2.2 h.1 h.2.1
def pasR (len : Nat) (b : Nat → Int32) (s : RS) : Bool × RS := if s.2.2.2.2.1 = 3 then (true, advR len b s) else (false, refR 1 s)
theorem rs_passStop (adK : Nat → Nat) (d len : Nat) (b : Nat → Int32) (s : RS) (hl : len ≤ 300) (h : rsT len s) : pnCt mX3_passStop adK (d + 2) 0 0 [.ref 0] (hRS len b s) (pnIs (.inl (some (.int (nB (pasR len b s).1)))) (hRS len b (pasR len b s).2)) := by
  have := c_passStop adK d s.1 s.2.1 len s.2.2.1 s.2.2.2.1 s.2.2.2.2.1 s.2.2.2.2.2.1 s.2.2.2.2.2.2.1 s.2.2.2.2.2.2.2.1 s.2.2.2.2.2.2.2.2.1 s.2.2.2.2.2.2.2.2.2.1 s.2.2.2.2.2.2.2.2.2.2.1 (fun j => nI (s.2.2.2.2.2.2.2.2.2.2.2.1 j)) (fun j => nI (s.2.2.2.2.2.2.2.2.2.2.2.2 j)) b hl h.1 h.2.1 h.2.2.1
  unfold pasR
  by_cases e : s.2.2.2.2.1 = 3
  · rw [if_pos e] at this ⊢; exact this
  · rw [if_neg e] at this ⊢; exact this
/-! the shape -/
def setS (s : RS) : RS := (s.1, s.2.1, s.2.2.1, s.2.2.2.1, s.2.2.2.2.1, s.2.2.2.2.2.1, true, s.2.2.2.2.2.2.2)
def shpN (len : Nat) (b : Nat → Int32) (s : RS) : Bool × RS :=
  if wrdR b "triangle" s = true then (true, advR len b s) else if wrdR b "path" s = true then sizR len b 1 1 4 s else if wrdR b "star" s = true then sizR len b 2 1 4 s else if wrdR b "ring" s = true then sizR len b 3 3 5 s else (false, refR 1 s)
def shpR (len : Nat) (b : Nat → Int32) (s : RS) : Bool × RS := if s.2.2.2.2.2.2.1 = true then (false, refR 1 s) else shpN len b (advR len b (setS s))
set_option maxRecDepth 100000 in
theorem c_readShape (adK : Nat → Nat) (d len : Nat) (b : Nat → Int32) (s : RS) (hl : len ≤ 300) (h : rsT len s) : pnCt mX3_readShape adK (d + 5) 0 0 [.ref 0] (hRS len b s) (pnIs (.inl (some (.int (nB (shpR len b s).1)))) (hRS len b (shpR len b s).2)) := by
  refine pnCt_of (by decide) kX3_readShape (Nat.le_of_ble_eq_true rfl) rfl (hRS_cl _ _ _) (pnCS_b rfl) ?_
  have h0 : rsT len (setS s) := h
  have h1 := rsT_adv (b := b) h0
  have key : pnWP mX3_readShape adK (d + 5) (pnIs (.inl (some (.int (nB (shpN len b (advR len b (setS s))).1)))) (hRS len b (shpN len b (advR len b (setS s))).2)) 0 0 (hRS len b (advR len b (setS s))) [some (.ref 0)] [] 22 := by
    generalize advR len b (setS s) = u at h1
    unfold shpN
    refine pn_aload_n (q := 23) dX3_readShape_22 rfl rfl rfl ?_
    refine pn_ldcS (q := 25) (j := 6) rfl dX3_readShape_23 rfl ?_
    refine pn_roV1 (q := 28) (rs_isWord adK d len b u 6 _ rfl hl h1) lkX3_88 dX3_readShape_25 rfl rfl (pnSel_of (I := [0, 1, 2, 3, 4, 5, 6, 7, 8]) rfl rfl) (pnFree_none rfl) rfl rfl rfl (by omega) (Nat.le_of_ble_eq_true rfl) rfl ?_
    refine pn_beq (q := 31) (tgt := 37) dX3_readShape_28 (by decide) rfl (fun hc28 => ?_) (fun hc28 => ?_)
    · refine pn_aload_n (q := 38) dX3_readShape_37 rfl rfl rfl ?_
      refine pn_ldcS (q := 40) (j := 7) rfl dX3_readShape_38 rfl ?_
      refine pn_roV1 (q := 43) (rs_isWord adK d len b u 7 _ rfl hl h1) lkX3_88 dX3_readShape_40 rfl rfl (pnSel_of (I := [0, 1, 2, 3, 4, 5, 6, 7, 8]) rfl rfl) (pnFree_none rfl) rfl rfl rfl (by omega) (Nat.le_of_ble_eq_true rfl) rfl ?_
      refine pn_beq (q := 46) (tgt := 54) dX3_readShape_43 (by decide) rfl (fun hc43 => ?_) (fun hc43 => ?_)
      · refine pn_aload_n (q := 55) dX3_readShape_54 rfl rfl rfl ?_
        refine pn_ldcS (q := 57) (j := 8) rfl dX3_readShape_55 rfl ?_
        refine pn_roV1 (q := 60) (rs_isWord adK d len b u 8 _ rfl hl h1) lkX3_88 dX3_readShape_57 rfl rfl (pnSel_of (I := [0, 1, 2, 3, 4, 5, 6, 7, 8]) rfl rfl) (pnFree_none rfl) rfl rfl rfl (by omega) (Nat.le_of_ble_eq_true rfl) rfl ?_
        refine pn_beq (q := 63) (tgt := 71) dX3_readShape_60 (by decide) rfl (fun hc60 => ?_) (fun hc60 => ?_)
        · refine pn_aload_n (q := 72) dX3_readShape_71 rfl rfl rfl ?_
          refine pn_ldcS (q := 74) (j := 9) rfl dX3_readShape_72 rfl ?_
          refine pn_roV1 (q := 77) (rs_isWord adK d len b u 9 _ rfl hl h1) lkX3_88 dX3_readShape_74 rfl rfl (pnSel_of (I := [0, 1, 2, 3, 4, 5, 6, 7, 8]) rfl rfl) (pnFree_none rfl) rfl rfl rfl (by omega) (Nat.le_of_ble_eq_true rfl) rfl ?_
          refine pn_beq (q := 80) (tgt := 88) dX3_readShape_77 (by decide) rfl (fun hc77 => ?_) (fun hc77 => ?_)
          · refine pn_aload_n (q := 89) dX3_readShape_88 rfl rfl rfl ?_
            refine pn_iconst (q := 90) (v := nI 1) dX3_readShape_89 rfl (by decide) ?_
            refine pn_upV1 (q := 93) (bc9 := 0) (bs9 := 0) (rs_refuse adK d len b u 1) lkX3_92 dX3_readShape_90 rfl rfl (pnSel_of (I := [0, 1, 2, 3, 4, 5, 6, 7, 8]) rfl rfl) (pnFree_none rfl) rfl rfl rfl (by omega) (by omega) (by omega) (Nat.le_of_ble_eq_true rfl) rfl ?_
            refine pn_eq (h' := (hRS len b (refR 1 u))) (st' := _) rfl rfl ?_
            refine pn_tret (b := false) _ ?_ dX3_readShape_93 rfl ?_
            · rfl
            · rw [if_neg (by rw [hc28]; exact Bool.false_ne_true), if_neg (by rw [hc43]; exact Bool.false_ne_true), if_neg (by rw [hc60]; exact Bool.false_ne_true), if_neg (by rw [hc77]; exact Bool.false_ne_true)]; exact ⟨rfl, rfl⟩
          · refine pn_aload_n (q := 81) dX3_readShape_80 rfl rfl rfl ?_
            refine pn_iconst (q := 82) (v := nI 3) dX3_readShape_81 rfl (by decide) ?_
            refine pn_iconst (q := 83) (v := nI 3) dX3_readShape_82 rfl (by decide) ?_
            refine pn_iconst (q := 84) (v := nI 5) dX3_readShape_83 rfl (by decide) ?_
            refine pn_upV1 (q := 87) (bc9 := 0) (bs9 := 0) (c_readSize adK d len b u 3 3 5 hl h1 (by omega) (by omega)) lkX3_148 dX3_readShape_84 rfl rfl (pnSel_of (I := [0, 1, 2, 3, 4, 5, 6, 7, 8]) rfl rfl) (pnFree_none rfl) rfl rfl rfl (by omega) (by omega) (by omega) (Nat.le_of_ble_eq_true rfl) rfl ?_
            refine pn_eq (h' := (hRS len b (sizR len b 3 3 5 u).2)) (st' := _) rfl rfl ?_
            refine pn_tret (b := (sizR len b 3 3 5 u).1) _ ?_ dX3_readShape_87 rfl ?_
            · rfl
            · rw [if_neg (by rw [hc28]; exact Bool.false_ne_true), if_neg (by rw [hc43]; exact Bool.false_ne_true), if_neg (by rw [hc60]; exact Bool.false_ne_true), if_pos hc77]; exact ⟨rfl, rfl⟩
        · refine pn_aload_n (q := 64) dX3_readShape_63 rfl rfl rfl ?_
          refine pn_iconst (q := 65) (v := nI 2) dX3_readShape_64 rfl (by decide) ?_
          refine pn_iconst (q := 66) (v := nI 1) dX3_readShape_65 rfl (by decide) ?_
          refine pn_iconst (q := 67) (v := nI 4) dX3_readShape_66 rfl (by decide) ?_
          refine pn_upV1 (q := 70) (bc9 := 0) (bs9 := 0) (c_readSize adK d len b u 2 1 4 hl h1 (by omega) (by omega)) lkX3_148 dX3_readShape_67 rfl rfl (pnSel_of (I := [0, 1, 2, 3, 4, 5, 6, 7, 8]) rfl rfl) (pnFree_none rfl) rfl rfl rfl (by omega) (by omega) (by omega) (Nat.le_of_ble_eq_true rfl) rfl ?_
          refine pn_eq (h' := (hRS len b (sizR len b 2 1 4 u).2)) (st' := _) rfl rfl ?_
          refine pn_tret (b := (sizR len b 2 1 4 u).1) _ ?_ dX3_readShape_70 rfl ?_
          · rfl
          · rw [if_neg (by rw [hc28]; exact Bool.false_ne_true), if_neg (by rw [hc43]; exact Bool.false_ne_true), if_pos hc60]; exact ⟨rfl, rfl⟩
      · refine pn_aload_n (q := 47) dX3_readShape_46 rfl rfl rfl ?_
        refine pn_iconst (q := 48) (v := nI 1) dX3_readShape_47 rfl (by decide) ?_
        refine pn_iconst (q := 49) (v := nI 1) dX3_readShape_48 rfl (by decide) ?_
        refine pn_iconst (q := 50) (v := nI 4) dX3_readShape_49 rfl (by decide) ?_
        refine pn_upV1 (q := 53) (bc9 := 0) (bs9 := 0) (c_readSize adK d len b u 1 1 4 hl h1 (by omega) (by omega)) lkX3_148 dX3_readShape_50 rfl rfl (pnSel_of (I := [0, 1, 2, 3, 4, 5, 6, 7, 8]) rfl rfl) (pnFree_none rfl) rfl rfl rfl (by omega) (by omega) (by omega) (Nat.le_of_ble_eq_true rfl) rfl ?_
        refine pn_eq (h' := (hRS len b (sizR len b 1 1 4 u).2)) (st' := _) rfl rfl ?_
        refine pn_tret (b := (sizR len b 1 1 4 u).1) _ ?_ dX3_readShape_53 rfl ?_
        · rfl
        · rw [if_neg (by rw [hc28]; exact Bool.false_ne_true), if_pos hc43]; exact ⟨rfl, rfl⟩
    · refine pn_aload_n (q := 32) dX3_readShape_31 rfl rfl rfl ?_
      refine pn_upV0 (q := 35) (bc9 := 0) (bs9 := 0) (rs_advance adK d len b u hl h1) lkX3_83 dX3_readShape_32 rfl rfl (pnSel_of (I := [0, 1, 2, 3, 4, 5, 6, 7, 8]) rfl rfl) (pnFree_none rfl) rfl rfl rfl (by omega) (by omega) (by omega) (Nat.le_of_ble_eq_true rfl) ?_
      refine pn_eq (h' := (hRS len b (advR len b u))) (st' := _) rfl rfl ?_
      refine pn_iconst (q := 36) (v := nI 1) dX3_readShape_35 rfl (by decide) ?_
      refine pn_tret (b := true) _ ?_ dX3_readShape_36 rfl ?_
      · rfl
      · rw [if_pos hc28]; exact ⟨rfl, rfl⟩
  unfold shpR
  refine pn_aload_n (q := 1) dX3_readShape_0 rfl rfl rfl ?_
  refine pn_get (q := 4) fX3_44 dX3_readShape_1 rfl rfl rfl ?_
  refine pn_beq (q := 7) (tgt := 13) dX3_readShape_4 (by decide) rfl (fun hc4 => ?_) (fun hc4 => ?_)
  · refine pn_aload_n (q := 14) dX3_readShape_13 rfl rfl rfl ?_
    refine pn_iconst (q := 15) (v := nI 1) dX3_readShape_14 rfl (by decide) ?_
    refine pn_put (q := 18) fX3_44 dX3_readShape_15 rfl rfl (Nat.le_of_ble_eq_true rfl) (pnF_bool (by first | exact Or.inl rfl | exact Or.inr rfl | assumption)) ?_
    refine pn_aload_n (q := 19) dX3_readShape_18 rfl rfl rfl ?_
    refine pn_upV0 (q := 22) (bc9 := 0) (bs9 := 0) (rs_advance adK d len b (setS s) hl h0) lkX3_83 dX3_readShape_19 rfl rfl (pnSel_of (I := [0, 1, 2, 3, 4, 5, 6, 7, 8]) rfl rfl) (pnFree_none rfl) rfl rfl rfl (by omega) (by omega) (by omega) (Nat.le_of_ble_eq_true rfl) ?_
    refine pn_eq (h' := (hRS len b (advR len b (setS s)))) (st' := _) rfl rfl ?_
    rw [if_neg (by rw [hc4]; exact Bool.false_ne_true)]; exact key
  · refine pn_aload_n (q := 8) dX3_readShape_7 rfl rfl rfl ?_
    refine pn_iconst (q := 9) (v := nI 1) dX3_readShape_8 rfl (by decide) ?_
    refine pn_upV1 (q := 12) (bc9 := 0) (bs9 := 0) (rs_refuse adK d len b s 1) lkX3_92 dX3_readShape_9 rfl rfl (pnSel_of (I := [0, 1, 2, 3, 4, 5, 6, 7, 8]) rfl rfl) (pnFree_none rfl) rfl rfl rfl (by omega) (by omega) (by omega) (Nat.le_of_ble_eq_true rfl) rfl ?_
    refine pn_eq (h' := (hRS len b (refR 1 s))) (st' := _) rfl rfl ?_
    refine pn_tret (b := false) _ ?_ dX3_readShape_12 rfl ?_
    · rfl
    · rw [if_pos hc4]; exact ⟨rfl, rfl⟩
/-! a part, a base: nodes into a row -/
def rnS (len : Nat) (b : Nat → Int32) (LEN fr most : Nat) (s : RS) (row : Nat → Int32) : RN := rnR len b LEN fr most 5 0 s.1 s.2.1 s.2.2.1 s.2.2.2.1 s.2.2.2.2.1 s.2.2.2.2.2.1 row
def rsP (s : RS) (r : RN) : RS := (r.2.1, r.2.2.1, r.2.2.2.1, r.2.2.2.2.1, r.2.2.2.2.2.1, r.2.2.2.2.2.2.1, s.2.2.2.2.2.2.1, s.2.2.2.2.2.2.2.1, s.2.2.2.2.2.2.2.2.1, s.2.2.2.2.2.2.2.2.2.1, r.2.2.2.2.2.2.2, s.2.2.2.2.2.2.2.2.2.2.2)
def rsB (s : RS) (r : RN) : RS := (r.2.1, r.2.2.1, r.2.2.2.1, r.2.2.2.2.1, r.2.2.2.2.2.1, r.2.2.2.2.2.2.1, s.2.2.2.2.2.2.1, s.2.2.2.2.2.2.2.1, s.2.2.2.2.2.2.2.2.1, nsR s.2.2.2.2.2.2.2.2.2.1 r.2.2.2.2.2.2.2, s.2.2.2.2.2.2.2.2.2.2)
def addP (s : RS) (c : Nat) : RS := (s.1, s.2.1, s.2.2.1, s.2.2.2.1, s.2.2.2.2.1, s.2.2.2.2.2.1, s.2.2.2.2.2.2.1, s.2.2.2.2.2.2.2.1 + 1, s.2.2.2.2.2.2.2.2.1, s.2.2.2.2.2.2.2.2.2.1, s.2.2.2.2.2.2.2.2.2.2.1, updN s.2.2.2.2.2.2.2.2.2.2.2.1 s.2.2.2.2.2.2.2.1 c, s.2.2.2.2.2.2.2.2.2.2.2.2)
def addB (s : RS) (c : Nat) : RS := (s.1, s.2.1, s.2.2.1, s.2.2.2.1, s.2.2.2.2.1, s.2.2.2.2.2.1, s.2.2.2.2.2.2.1, s.2.2.2.2.2.2.2.1, s.2.2.2.2.2.2.2.2.1 + 1, s.2.2.2.2.2.2.2.2.2.1, s.2.2.2.2.2.2.2.2.2.2.1, s.2.2.2.2.2.2.2.2.2.2.2.1, updN s.2.2.2.2.2.2.2.2.2.2.2.2 s.2.2.2.2.2.2.2.2.1 c)
def rsPc (s : RS) : Nat := s.2.2.2.2.2.2.2.1
def rsBc (s : RS) : Nat := s.2.2.2.2.2.2.2.2.1
theorem rs_readNodesP (adK : Nat → Nat) (d len : Nat) (b : Nat → Int32) (s : RS) (fr most : Nat) (hl : len ≤ 300) (h : rsT len s) (hfr : fr ≤ 1000) (hm : most ≤ 1000) (r : RN) (hr : rnS len b 250 fr most s s.2.2.2.2.2.2.2.2.2.2.1 = r) : pnCt mX3_readNodes adK (d + 2) 0 0 [.ref 0, .ref 5, .int (nI fr), .int (nI most)] (hRS len b s) (pnIs (.inl (some (.int (nI r.1)))) (hRS len b (rsP s r))) :=
  c_readNodesP adK d s.1 s.2.1 len s.2.2.1 s.2.2.2.1 s.2.2.2.2.1 s.2.2.2.2.2.1 s.2.2.2.2.2.2.1 s.2.2.2.2.2.2.2.1 s.2.2.2.2.2.2.2.2.1 s.2.2.2.2.2.2.2.2.2.1 (fun j => nI (s.2.2.2.2.2.2.2.2.2.2.2.1 j)) (fun j => nI (s.2.2.2.2.2.2.2.2.2.2.2.2 j)) b s.2.2.2.2.2.2.2.2.2.2.1 fr most hl h.1 h.2.1 h.2.2.1 hfr hm r hr (hRS len b s) (fun row e => by subst e; rfl)
theorem rs_readNodesB (adK : Nat → Nat) (d len : Nat) (b : Nat → Int32) (s : RS) (fr most : Nat) (hl : len ≤ 300) (h : rsT len s) (hfr : fr ≤ 1000) (hm : most ≤ 1000) (r : RN) (hr : rnS len b 20 fr most s (rsD s).2.2.2.2.2.2.2.1 = r) : pnCt mX3_readNodes adK (d + 2) 0 0 [.ref 0, .ref 3, .int (nI fr), .int (nI most)] (hRS len b s) (pnIs (.inl (some (.int (nI r.1)))) (hRS len b (rsB s r))) :=
  c_readNodesB adK d s.1 s.2.1 len s.2.2.1 s.2.2.2.1 s.2.2.2.2.1 s.2.2.2.2.2.1 s.2.2.2.2.2.2.1 s.2.2.2.2.2.2.2.1 s.2.2.2.2.2.2.2.2.1 s.2.2.2.2.2.2.2.2.2.1 s.2.2.2.2.2.2.2.2.2.2.1 (fun j => nI (s.2.2.2.2.2.2.2.2.2.2.2.1 j)) (fun j => nI (s.2.2.2.2.2.2.2.2.2.2.2.2 j)) b (rsD s).2.2.2.2.2.2.2.1 fr most hl h.1 h.2.1 h.2.2.1 hfr hm r hr (hRS len b s) (fun row e => by subst e; rfl)
theorem rnR_le {len : Nat} {b : Nat → Int32} {LEN fr most : Nat} : ∀ (z c : Nat) (fp : Int32) (flt st en kd vl : Nat) (row : Nat → Int32), c + z = 5 → (rnR len b LEN fr most z c fp flt st en kd vl row).1 ≤ 5
  | 0, c, fp, flt, st, en, kd, vl, row, hz => Nat.le_refl _
  | z + 1, c, fp, flt, st, en, kd, vl, row, hz => by
    unfold rnR
    split
    · show c ≤ 5; omega
    · split
      · exact rnR_le z (c + 1) _ _ _ _ _ _ _ (by omega)
      · show 0 ≤ 5; omega
def prtR (len : Nat) (b : Nat → Int32) (s : RS) : Bool × RS :=
  if 0 < (rnS len b 250 (rsPc s * 5) ((rsD s).1 - 1) (advR len b s) s.2.2.2.2.2.2.2.2.2.2.1).1 then
    (true, if rsPc s < 50 then addP (rsP (advR len b s) (rnS len b 250 (rsPc s * 5) ((rsD s).1 - 1) (advR len b s) s.2.2.2.2.2.2.2.2.2.2.1)) (rnS len b 250 (rsPc s * 5) ((rsD s).1 - 1) (advR len b s) s.2.2.2.2.2.2.2.2.2.2.1).1 else rsP (advR len b s) (rnS len b 250 (rsPc s * 5) ((rsD s).1 - 1) (advR len b s) s.2.2.2.2.2.2.2.2.2.2.1))
  else (false, rsP (advR len b s) (rnS len b 250 (rsPc s * 5) ((rsD s).1 - 1) (advR len b s) s.2.2.2.2.2.2.2.2.2.2.1))
set_option maxRecDepth 100000 in
theorem c_readPart (adK : Nat → Nat) (d len : Nat) (b : Nat → Int32) (s : RS) (hl : len ≤ 300) (h : rsT len s) (hn : (rsD s).1 ≤ 11) (hn1 : 1 ≤ (rsD s).1) (hpc : rsPc s ≤ 50) : pnCt mX3_readPart adK (d + 3) 0 0 [.ref 0] (hRS len b s) (pnIs (.inl (some (.int (nB (prtR len b s).1)))) (hRS len b (prtR len b s).2)) := by
  refine pnCt_of (by decide) kX3_readPart (Nat.le_of_ble_eq_true rfl) rfl (hRS_cl _ _ _) (pnCS_b rfl) ?_
  have h1 := rsT_adv (b := b) h
  unfold prtR
  have CR := rs_readNodesP adK d len b (advR len b s) (rsPc s * 5) ((rsD s).1 - 1) hl h1 (by omega) (by omega) _ rfl
  have hr5 : (rnS len b 250 (rsPc s * 5) ((rsD s).1 - 1) (advR len b s) s.2.2.2.2.2.2.2.2.2.2.1).1 ≤ 5 := rnR_le 5 0 _ _ _ _ _ _ _ (by omega)
  have ea : (advR len b s).2.2.2.2.2.2.2.2.2.2.1 = s.2.2.2.2.2.2.2.2.2.2.1 := rfl
  rw [ea] at CR
  have hn2 : 1 ≤ (advR len b s).2.2.2.2.2.2.2.2.2.1.1 := hn1
  generalize rnS len b 250 (rsPc s * 5) ((rsD s).1 - 1) (advR len b s) s.2.2.2.2.2.2.2.2.2.2.1 = r at *
  have f1 : (rsP (advR len b s) r).2.2.2.2.2.2.2.1 = rsPc s := rfl
  by_cases e1 : 0 < r.1
  · rw [if_pos e1]
    by_cases e2 : rsPc s < 50
    · rw [if_pos e2]
      refine pn_aload_n (q := 1) dX3_readPart_0 rfl rfl rfl ?_
      refine pn_upV0 (q := 4) (bc9 := 0) (bs9 := 0) (rs_advance adK (d + 1) len b s hl h) lkX3_83 dX3_readPart_1 rfl rfl (pnSel_of (I := [0, 1, 2, 3, 4, 5, 6, 7, 8]) rfl rfl) (pnFree_none rfl) rfl rfl rfl (by omega) (by omega) (by omega) (Nat.le_of_ble_eq_true rfl) ?_
      refine pn_eq (h' := (hRS len b (advR len b s))) (st' := _) rfl rfl ?_
      refine pn_aload_n (q := 5) dX3_readPart_4 rfl rfl rfl ?_
      refine pn_aload_n (q := 6) dX3_readPart_5 rfl rfl rfl ?_
      refine pn_get (q := 9) fX3_54 dX3_readPart_6 rfl rfl rfl ?_
      refine pn_aload_n (q := 10) dX3_readPart_9 rfl rfl rfl ?_
      refine pn_get (q := 13) fX3_48 dX3_readPart_10 rfl rfl rfl ?_
      refine pn_iconst (q := 14) (v := nI 5) dX3_readPart_13 rfl (by decide) ?_
      first | with_reducible refine pn_imulN (q := 15) dX3_readPart_14 rfl ?_ | refine pn_imul (q := 15) dX3_readPart_14 rfl ?_
      refine pn_aload_n (q := 16) dX3_readPart_15 rfl rfl rfl ?_
      refine pn_get (q := 19) fX3_12 dX3_readPart_16 rfl rfl rfl ?_
      refine pn_get (q := 22) fX3_137 dX3_readPart_19 rfl rfl rfl ?_
      refine pn_iconst (q := 23) (v := nI 1) dX3_readPart_22 rfl (by decide) ?_
      first | with_reducible refine pn_isubN (q := 24) dX3_readPart_23 rfl (by omega) ?_ | refine pn_isub (q := 24) dX3_readPart_23 rfl ?_
      refine pn_upV1 (q := 27) (bc9 := 0) (bs9 := 0) (CR) lkX3_161 dX3_readPart_24 rfl rfl (pnSel_of (I := [0, 1, 2, 3, 4, 5, 6, 7, 8]) rfl rfl) (pnFree_none rfl) rfl rfl rfl (by omega) (by omega) (by omega) (Nat.le_of_ble_eq_true rfl) rfl ?_
      refine pn_eq (h' := (hRS len b (rsP (advR len b s) r))) (st' := _) rfl rfl ?_
      refine pn_istore_n (q := 28) dX3_readPart_27 rfl (by decide) ?_
      refine pn_iload_n (q := 29) dX3_readPart_28 rfl rfl ?_
      first | refine pn_zle (q := 32) (tgt := 61) dX3_readPart_29 (by decide) rfl (by omega) (fun hc29 => ?_) (fun hc29 => ?_) | refine pn_if_le (q := 32) (tgt := 61) dX3_readPart_29 (by decide) rfl (fun hc29 => ?_) (fun hc29 => ?_)
      · omega
      · refine pn_aload_n (q := 33) dX3_readPart_32 rfl rfl rfl ?_
        refine pn_get (q := 36) fX3_48 dX3_readPart_33 rfl rfl rfl ?_
        refine pn_bipush (q := 38) (v := nI 50) dX3_readPart_36 rfl (by decide) ?_
        first | refine pn_nge (q := 41) (tgt := 61) dX3_readPart_38 (by decide) rfl (by omega) (by omega) (fun hc38 => ?_) (fun hc38 => ?_) | refine pn_icmp_ge (q := 41) (tgt := 61) dX3_readPart_38 (by decide) rfl (fun hc38 => ?_) (fun hc38 => ?_)
        · omega
        · refine pn_aload_n (q := 42) dX3_readPart_41 rfl rfl rfl ?_
          refine pn_get (q := 45) fX3_58 dX3_readPart_42 rfl rfl rfl ?_
          refine pn_aload_n (q := 46) dX3_readPart_45 rfl rfl rfl ?_
          refine pn_get (q := 49) fX3_48 dX3_readPart_46 rfl rfl rfl ?_
          refine pn_iload_n (q := 50) dX3_readPart_49 rfl rfl ?_
          refine pn_iast (q := 51) dX3_readPart_50 rfl rfl rfl (by omega) (by decide) ?_; rw [updN_nI]
          refine pn_aload_n (q := 52) dX3_readPart_51 rfl rfl rfl ?_
          refine pn_dup (q := 53) dX3_readPart_52 rfl rfl ?_
          refine pn_get (q := 56) fX3_48 dX3_readPart_53 rfl rfl rfl ?_
          refine pn_iconst (q := 57) (v := nI 1) dX3_readPart_56 rfl (by decide) ?_
          first | with_reducible refine pn_iaddN (q := 58) dX3_readPart_57 rfl ?_ | refine pn_iadd (q := 58) dX3_readPart_57 rfl ?_
          refine pn_put (q := 61) fX3_48 dX3_readPart_58 rfl rfl (Nat.le_of_ble_eq_true rfl) (pnF_int _) ?_
          refine pn_iload_n (q := 62) dX3_readPart_61 rfl rfl ?_
          first | refine pn_zle (q := 65) (tgt := 69) dX3_readPart_62 (by decide) rfl (by omega) (fun hc62 => ?_) (fun hc62 => ?_) | refine pn_if_le (q := 65) (tgt := 69) dX3_readPart_62 (by decide) rfl (fun hc62 => ?_) (fun hc62 => ?_)
          · omega
          · refine pn_iconst (q := 66) (v := nI 1) dX3_readPart_65 rfl (by decide) ?_
            refine pn_goto (q := 70) dX3_readPart_66 (by decide) ?_
            refine pn_tret (b := true) _ ?_ dX3_readPart_70 rfl ?_
            · rfl
            · exact ⟨rfl, rfl⟩
    · rw [if_neg e2]
      refine pn_aload_n (q := 1) dX3_readPart_0 rfl rfl rfl ?_
      refine pn_upV0 (q := 4) (bc9 := 0) (bs9 := 0) (rs_advance adK (d + 1) len b s hl h) lkX3_83 dX3_readPart_1 rfl rfl (pnSel_of (I := [0, 1, 2, 3, 4, 5, 6, 7, 8]) rfl rfl) (pnFree_none rfl) rfl rfl rfl (by omega) (by omega) (by omega) (Nat.le_of_ble_eq_true rfl) ?_
      refine pn_eq (h' := (hRS len b (advR len b s))) (st' := _) rfl rfl ?_
      refine pn_aload_n (q := 5) dX3_readPart_4 rfl rfl rfl ?_
      refine pn_aload_n (q := 6) dX3_readPart_5 rfl rfl rfl ?_
      refine pn_get (q := 9) fX3_54 dX3_readPart_6 rfl rfl rfl ?_
      refine pn_aload_n (q := 10) dX3_readPart_9 rfl rfl rfl ?_
      refine pn_get (q := 13) fX3_48 dX3_readPart_10 rfl rfl rfl ?_
      refine pn_iconst (q := 14) (v := nI 5) dX3_readPart_13 rfl (by decide) ?_
      first | with_reducible refine pn_imulN (q := 15) dX3_readPart_14 rfl ?_ | refine pn_imul (q := 15) dX3_readPart_14 rfl ?_
      refine pn_aload_n (q := 16) dX3_readPart_15 rfl rfl rfl ?_
      refine pn_get (q := 19) fX3_12 dX3_readPart_16 rfl rfl rfl ?_
      refine pn_get (q := 22) fX3_137 dX3_readPart_19 rfl rfl rfl ?_
      refine pn_iconst (q := 23) (v := nI 1) dX3_readPart_22 rfl (by decide) ?_
      first | with_reducible refine pn_isubN (q := 24) dX3_readPart_23 rfl (by omega) ?_ | refine pn_isub (q := 24) dX3_readPart_23 rfl ?_
      refine pn_upV1 (q := 27) (bc9 := 0) (bs9 := 0) (CR) lkX3_161 dX3_readPart_24 rfl rfl (pnSel_of (I := [0, 1, 2, 3, 4, 5, 6, 7, 8]) rfl rfl) (pnFree_none rfl) rfl rfl rfl (by omega) (by omega) (by omega) (Nat.le_of_ble_eq_true rfl) rfl ?_
      refine pn_eq (h' := (hRS len b (rsP (advR len b s) r))) (st' := _) rfl rfl ?_
      refine pn_istore_n (q := 28) dX3_readPart_27 rfl (by decide) ?_
      refine pn_iload_n (q := 29) dX3_readPart_28 rfl rfl ?_
      first | refine pn_zle (q := 32) (tgt := 61) dX3_readPart_29 (by decide) rfl (by omega) (fun hc29 => ?_) (fun hc29 => ?_) | refine pn_if_le (q := 32) (tgt := 61) dX3_readPart_29 (by decide) rfl (fun hc29 => ?_) (fun hc29 => ?_)
      · omega
      · refine pn_aload_n (q := 33) dX3_readPart_32 rfl rfl rfl ?_
        refine pn_get (q := 36) fX3_48 dX3_readPart_33 rfl rfl rfl ?_
        refine pn_bipush (q := 38) (v := nI 50) dX3_readPart_36 rfl (by decide) ?_
        first | refine pn_nge (q := 41) (tgt := 61) dX3_readPart_38 (by decide) rfl (by omega) (by omega) (fun hc38 => ?_) (fun hc38 => ?_) | refine pn_icmp_ge (q := 41) (tgt := 61) dX3_readPart_38 (by decide) rfl (fun hc38 => ?_) (fun hc38 => ?_)
        · refine pn_iload_n (q := 62) dX3_readPart_61 rfl rfl ?_
          first | refine pn_zle (q := 65) (tgt := 69) dX3_readPart_62 (by decide) rfl (by omega) (fun hc62 => ?_) (fun hc62 => ?_) | refine pn_if_le (q := 65) (tgt := 69) dX3_readPart_62 (by decide) rfl (fun hc62 => ?_) (fun hc62 => ?_)
          · omega
          · refine pn_iconst (q := 66) (v := nI 1) dX3_readPart_65 rfl (by decide) ?_
            refine pn_goto (q := 70) dX3_readPart_66 (by decide) ?_
            refine pn_tret (b := true) _ ?_ dX3_readPart_70 rfl ?_
            · rfl
            · exact ⟨rfl, rfl⟩
        · omega
  · rw [if_neg e1]
    refine pn_aload_n (q := 1) dX3_readPart_0 rfl rfl rfl ?_
    refine pn_upV0 (q := 4) (bc9 := 0) (bs9 := 0) (rs_advance adK (d + 1) len b s hl h) lkX3_83 dX3_readPart_1 rfl rfl (pnSel_of (I := [0, 1, 2, 3, 4, 5, 6, 7, 8]) rfl rfl) (pnFree_none rfl) rfl rfl rfl (by omega) (by omega) (by omega) (Nat.le_of_ble_eq_true rfl) ?_
    refine pn_eq (h' := (hRS len b (advR len b s))) (st' := _) rfl rfl ?_
    refine pn_aload_n (q := 5) dX3_readPart_4 rfl rfl rfl ?_
    refine pn_aload_n (q := 6) dX3_readPart_5 rfl rfl rfl ?_
    refine pn_get (q := 9) fX3_54 dX3_readPart_6 rfl rfl rfl ?_
    refine pn_aload_n (q := 10) dX3_readPart_9 rfl rfl rfl ?_
    refine pn_get (q := 13) fX3_48 dX3_readPart_10 rfl rfl rfl ?_
    refine pn_iconst (q := 14) (v := nI 5) dX3_readPart_13 rfl (by decide) ?_
    first | with_reducible refine pn_imulN (q := 15) dX3_readPart_14 rfl ?_ | refine pn_imul (q := 15) dX3_readPart_14 rfl ?_
    refine pn_aload_n (q := 16) dX3_readPart_15 rfl rfl rfl ?_
    refine pn_get (q := 19) fX3_12 dX3_readPart_16 rfl rfl rfl ?_
    refine pn_get (q := 22) fX3_137 dX3_readPart_19 rfl rfl rfl ?_
    refine pn_iconst (q := 23) (v := nI 1) dX3_readPart_22 rfl (by decide) ?_
    first | with_reducible refine pn_isubN (q := 24) dX3_readPart_23 rfl (by omega) ?_ | refine pn_isub (q := 24) dX3_readPart_23 rfl ?_
    refine pn_upV1 (q := 27) (bc9 := 0) (bs9 := 0) (CR) lkX3_161 dX3_readPart_24 rfl rfl (pnSel_of (I := [0, 1, 2, 3, 4, 5, 6, 7, 8]) rfl rfl) (pnFree_none rfl) rfl rfl rfl (by omega) (by omega) (by omega) (Nat.le_of_ble_eq_true rfl) rfl ?_
    refine pn_eq (h' := (hRS len b (rsP (advR len b s) r))) (st' := _) rfl rfl ?_
    refine pn_istore_n (q := 28) dX3_readPart_27 rfl (by decide) ?_
    refine pn_iload_n (q := 29) dX3_readPart_28 rfl rfl ?_
    first | refine pn_zle (q := 32) (tgt := 61) dX3_readPart_29 (by decide) rfl (by omega) (fun hc29 => ?_) (fun hc29 => ?_) | refine pn_if_le (q := 32) (tgt := 61) dX3_readPart_29 (by decide) rfl (fun hc29 => ?_) (fun hc29 => ?_)
    · refine pn_iload_n (q := 62) dX3_readPart_61 rfl rfl ?_
      first | refine pn_zle (q := 65) (tgt := 69) dX3_readPart_62 (by decide) rfl (by omega) (fun hc62 => ?_) (fun hc62 => ?_) | refine pn_if_le (q := 65) (tgt := 69) dX3_readPart_62 (by decide) rfl (fun hc62 => ?_) (fun hc62 => ?_)
      · refine pn_iconst (q := 70) (v := nI 0) dX3_readPart_69 rfl (by decide) ?_
        refine pn_tret (b := false) _ ?_ dX3_readPart_70 rfl ?_
        · rfl
        · exact ⟨rfl, rfl⟩
      · omega
    · omega
def basR (len : Nat) (b : Nat → Int32) (s : RS) : Bool × RS :=
  if rsBc s < 4 then (if 0 < (rnS len b 20 (rsBc s * 5) 30 (advR len b s) (rsD s).2.2.2.2.2.2.2.1).1 then (true, addB (rsB (advR len b s) (rnS len b 20 (rsBc s * 5) 30 (advR len b s) (rsD s).2.2.2.2.2.2.2.1)) (rnS len b 20 (rsBc s * 5) 30 (advR len b s) (rsD s).2.2.2.2.2.2.2.1).1) else (false, rsB (advR len b s) (rnS len b 20 (rsBc s * 5) 30 (advR len b s) (rsD s).2.2.2.2.2.2.2.1))) else (false, refR 3 s)
set_option maxRecDepth 100000 in
theorem c_readBase (adK : Nat → Nat) (d len : Nat) (b : Nat → Int32) (s : RS) (hl : len ≤ 300) (h : rsT len s) (hbc : rsBc s ≤ 4) : pnCt mX3_readBase adK (d + 3) 0 0 [.ref 0] (hRS len b s) (pnIs (.inl (some (.int (nB (basR len b s).1)))) (hRS len b (basR len b s).2)) := by
  refine pnCt_of (by decide) kX3_readBase (Nat.le_of_ble_eq_true rfl) rfl (hRS_cl _ _ _) (pnCS_b rfl) ?_
  have h1 := rsT_adv (b := b) h
  unfold basR
  have f0 : s.2.2.2.2.2.2.2.2.1 = rsBc s := rfl
  by_cases e0 : rsBc s < 4
  · rw [if_pos e0]
    have CR := rs_readNodesB adK d len b (advR len b s) (rsBc s * 5) 30 hl h1 (by omega) (by omega) _ rfl
    have hr5 : (rnS len b 20 (rsBc s * 5) 30 (advR len b s) (rsD s).2.2.2.2.2.2.2.1).1 ≤ 5 := rnR_le 5 0 _ _ _ _ _ _ _ (by omega)
    have ea : (rsD (advR len b s)).2.2.2.2.2.2.2.1 = (rsD s).2.2.2.2.2.2.2.1 := rfl
    rw [ea] at CR
    generalize rnS len b 20 (rsBc s * 5) 30 (advR len b s) (rsD s).2.2.2.2.2.2.2.1 = r at *
    have f1 : (rsB (advR len b s) r).2.2.2.2.2.2.2.2.1 = rsBc s := rfl
    by_cases e1 : 0 < r.1
    · rw [if_pos e1]
      refine pn_aload_n (q := 1) dX3_readBase_0 rfl rfl rfl ?_
      refine pn_get (q := 4) fX3_51 dX3_readBase_1 rfl rfl rfl ?_
      refine pn_iconst (q := 5) (v := nI 4) dX3_readBase_4 rfl (by decide) ?_
      first | refine pn_nlt (q := 8) (tgt := 14) dX3_readBase_5 (by decide) rfl (by omega) (by omega) (fun hc5 => ?_) (fun hc5 => ?_) | refine pn_icmp_lt (q := 8) (tgt := 14) dX3_readBase_5 (by decide) rfl (fun hc5 => ?_) (fun hc5 => ?_)
      · refine pn_aload_n (q := 15) dX3_readBase_14 rfl rfl rfl ?_
        refine pn_upV0 (q := 18) (bc9 := 0) (bs9 := 0) (rs_advance adK (d + 1) len b s hl h) lkX3_83 dX3_readBase_15 rfl rfl (pnSel_of (I := [0, 1, 2, 3, 4, 5, 6, 7, 8]) rfl rfl) (pnFree_none rfl) rfl rfl rfl (by omega) (by omega) (by omega) (Nat.le_of_ble_eq_true rfl) ?_
        refine pn_eq (h' := (hRS len b (advR len b s))) (st' := _) rfl rfl ?_
        refine pn_aload_n (q := 19) dX3_readBase_18 rfl rfl rfl ?_
        refine pn_aload_n (q := 20) dX3_readBase_19 rfl rfl rfl ?_
        refine pn_get (q := 23) fX3_12 dX3_readBase_20 rfl rfl rfl ?_
        refine pn_get (q := 26) fX3_165 dX3_readBase_23 rfl rfl rfl ?_
        refine pn_aload_n (q := 27) dX3_readBase_26 rfl rfl rfl ?_
        refine pn_get (q := 30) fX3_51 dX3_readBase_27 rfl rfl rfl ?_
        refine pn_iconst (q := 31) (v := nI 5) dX3_readBase_30 rfl (by decide) ?_
        first | with_reducible refine pn_imulN (q := 32) dX3_readBase_31 rfl ?_ | refine pn_imul (q := 32) dX3_readBase_31 rfl ?_
        refine pn_bipush (q := 34) (v := nI 30) dX3_readBase_32 rfl (by decide) ?_
        refine pn_upV1 (q := 37) (bc9 := 0) (bs9 := 0) (CR) lkX3_161 dX3_readBase_34 rfl rfl (pnSel_of (I := [0, 1, 2, 3, 4, 5, 6, 7, 8]) rfl rfl) (pnFree_none rfl) rfl rfl rfl (by omega) (by omega) (by omega) (Nat.le_of_ble_eq_true rfl) rfl ?_
        refine pn_eq (h' := (hRS len b (rsB (advR len b s) r))) (st' := _) rfl rfl ?_
        refine pn_istore_n (q := 38) dX3_readBase_37 rfl (by decide) ?_
        refine pn_iload_n (q := 39) dX3_readBase_38 rfl rfl ?_
        first | refine pn_zle (q := 42) (tgt := 62) dX3_readBase_39 (by decide) rfl (by omega) (fun hc39 => ?_) (fun hc39 => ?_) | refine pn_if_le (q := 42) (tgt := 62) dX3_readBase_39 (by decide) rfl (fun hc39 => ?_) (fun hc39 => ?_)
        · omega
        · refine pn_aload_n (q := 43) dX3_readBase_42 rfl rfl rfl ?_
          refine pn_get (q := 46) fX3_61 dX3_readBase_43 rfl rfl rfl ?_
          refine pn_aload_n (q := 47) dX3_readBase_46 rfl rfl rfl ?_
          refine pn_get (q := 50) fX3_51 dX3_readBase_47 rfl rfl rfl ?_
          refine pn_iload_n (q := 51) dX3_readBase_50 rfl rfl ?_
          refine pn_iast (q := 52) dX3_readBase_51 rfl rfl rfl (by omega) (by decide) ?_; rw [updN_nI]
          refine pn_aload_n (q := 53) dX3_readBase_52 rfl rfl rfl ?_
          refine pn_dup (q := 54) dX3_readBase_53 rfl rfl ?_
          refine pn_get (q := 57) fX3_51 dX3_readBase_54 rfl rfl rfl ?_
          refine pn_iconst (q := 58) (v := nI 1) dX3_readBase_57 rfl (by decide) ?_
          first | with_reducible refine pn_iaddN (q := 59) dX3_readBase_58 rfl ?_ | refine pn_iadd (q := 59) dX3_readBase_58 rfl ?_
          refine pn_put (q := 62) fX3_51 dX3_readBase_59 rfl rfl (Nat.le_of_ble_eq_true rfl) (pnF_int _) ?_
          refine pn_iload_n (q := 63) dX3_readBase_62 rfl rfl ?_
          first | refine pn_zle (q := 66) (tgt := 70) dX3_readBase_63 (by decide) rfl (by omega) (fun hc63 => ?_) (fun hc63 => ?_) | refine pn_if_le (q := 66) (tgt := 70) dX3_readBase_63 (by decide) rfl (fun hc63 => ?_) (fun hc63 => ?_)
          · omega
          · refine pn_iconst (q := 67) (v := nI 1) dX3_readBase_66 rfl (by decide) ?_
            refine pn_goto (q := 71) dX3_readBase_67 (by decide) ?_
            refine pn_tret (b := true) _ ?_ dX3_readBase_71 rfl ?_
            · rfl
            · exact ⟨rfl, rfl⟩
      · omega
    · rw [if_neg e1]
      refine pn_aload_n (q := 1) dX3_readBase_0 rfl rfl rfl ?_
      refine pn_get (q := 4) fX3_51 dX3_readBase_1 rfl rfl rfl ?_
      refine pn_iconst (q := 5) (v := nI 4) dX3_readBase_4 rfl (by decide) ?_
      first | refine pn_nlt (q := 8) (tgt := 14) dX3_readBase_5 (by decide) rfl (by omega) (by omega) (fun hc5 => ?_) (fun hc5 => ?_) | refine pn_icmp_lt (q := 8) (tgt := 14) dX3_readBase_5 (by decide) rfl (fun hc5 => ?_) (fun hc5 => ?_)
      · refine pn_aload_n (q := 15) dX3_readBase_14 rfl rfl rfl ?_
        refine pn_upV0 (q := 18) (bc9 := 0) (bs9 := 0) (rs_advance adK (d + 1) len b s hl h) lkX3_83 dX3_readBase_15 rfl rfl (pnSel_of (I := [0, 1, 2, 3, 4, 5, 6, 7, 8]) rfl rfl) (pnFree_none rfl) rfl rfl rfl (by omega) (by omega) (by omega) (Nat.le_of_ble_eq_true rfl) ?_
        refine pn_eq (h' := (hRS len b (advR len b s))) (st' := _) rfl rfl ?_
        refine pn_aload_n (q := 19) dX3_readBase_18 rfl rfl rfl ?_
        refine pn_aload_n (q := 20) dX3_readBase_19 rfl rfl rfl ?_
        refine pn_get (q := 23) fX3_12 dX3_readBase_20 rfl rfl rfl ?_
        refine pn_get (q := 26) fX3_165 dX3_readBase_23 rfl rfl rfl ?_
        refine pn_aload_n (q := 27) dX3_readBase_26 rfl rfl rfl ?_
        refine pn_get (q := 30) fX3_51 dX3_readBase_27 rfl rfl rfl ?_
        refine pn_iconst (q := 31) (v := nI 5) dX3_readBase_30 rfl (by decide) ?_
        first | with_reducible refine pn_imulN (q := 32) dX3_readBase_31 rfl ?_ | refine pn_imul (q := 32) dX3_readBase_31 rfl ?_
        refine pn_bipush (q := 34) (v := nI 30) dX3_readBase_32 rfl (by decide) ?_
        refine pn_upV1 (q := 37) (bc9 := 0) (bs9 := 0) (CR) lkX3_161 dX3_readBase_34 rfl rfl (pnSel_of (I := [0, 1, 2, 3, 4, 5, 6, 7, 8]) rfl rfl) (pnFree_none rfl) rfl rfl rfl (by omega) (by omega) (by omega) (Nat.le_of_ble_eq_true rfl) rfl ?_
        refine pn_eq (h' := (hRS len b (rsB (advR len b s) r))) (st' := _) rfl rfl ?_
        refine pn_istore_n (q := 38) dX3_readBase_37 rfl (by decide) ?_
        refine pn_iload_n (q := 39) dX3_readBase_38 rfl rfl ?_
        first | refine pn_zle (q := 42) (tgt := 62) dX3_readBase_39 (by decide) rfl (by omega) (fun hc39 => ?_) (fun hc39 => ?_) | refine pn_if_le (q := 42) (tgt := 62) dX3_readBase_39 (by decide) rfl (fun hc39 => ?_) (fun hc39 => ?_)
        · refine pn_iload_n (q := 63) dX3_readBase_62 rfl rfl ?_
          first | refine pn_zle (q := 66) (tgt := 70) dX3_readBase_63 (by decide) rfl (by omega) (fun hc63 => ?_) (fun hc63 => ?_) | refine pn_if_le (q := 66) (tgt := 70) dX3_readBase_63 (by decide) rfl (fun hc63 => ?_) (fun hc63 => ?_)
          · refine pn_iconst (q := 71) (v := nI 0) dX3_readBase_70 rfl (by decide) ?_
            refine pn_tret (b := false) _ ?_ dX3_readBase_71 rfl ?_
            · rfl
            · exact ⟨rfl, rfl⟩
          · omega
        · omega
      · omega
  · rw [if_neg e0]
    refine pn_aload_n (q := 1) dX3_readBase_0 rfl rfl rfl ?_
    refine pn_get (q := 4) fX3_51 dX3_readBase_1 rfl rfl rfl ?_
    refine pn_iconst (q := 5) (v := nI 4) dX3_readBase_4 rfl (by decide) ?_
    first | refine pn_nlt (q := 8) (tgt := 14) dX3_readBase_5 (by decide) rfl (by omega) (by omega) (fun hc5 => ?_) (fun hc5 => ?_) | refine pn_icmp_lt (q := 8) (tgt := 14) dX3_readBase_5 (by decide) rfl (fun hc5 => ?_) (fun hc5 => ?_)
    · omega
    · refine pn_aload_n (q := 9) dX3_readBase_8 rfl rfl rfl ?_
      refine pn_iconst (q := 10) (v := nI 3) dX3_readBase_9 rfl (by decide) ?_
      refine pn_upV1 (q := 13) (bc9 := 0) (bs9 := 0) (rs_refuse adK d len b s 3) lkX3_92 dX3_readBase_10 rfl rfl (pnSel_of (I := [0, 1, 2, 3, 4, 5, 6, 7, 8]) rfl rfl) (pnFree_none rfl) rfl rfl rfl (by omega) (by omega) (by omega) (Nat.le_of_ble_eq_true rfl) rfl ?_
      refine pn_eq (h' := (hRS len b (refR 3 s))) (st' := _) rfl rfl ?_
      refine pn_tret (b := false) _ ?_ dX3_readBase_13 rfl ?_
      · rfl
      · exact ⟨rfl, rfl⟩
