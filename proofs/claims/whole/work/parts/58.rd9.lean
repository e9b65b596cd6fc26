/-! what holds of the reader's state between entries -/
def rsG (len : Nat) (s : RS) : Prop := rsT len s ∧ 2 ≤ (rsD s).1 ∧ (rsD s).1 ≤ 11 ∧ shOk (rsD s).2.2.1 (rsD s).2.2.2.1 ∧ rsPc s ≤ 50 ∧ rsBc s ≤ 4 ∧ (∀ j, s.2.2.2.2.2.2.2.2.2.2.2.1 j ≤ 5) ∧ (∀ j, s.2.2.2.2.2.2.2.2.2.2.2.2 j ≤ 5) ∧ (rsD s).2.2.2.2.1 = 0
theorem rnR_T {len : Nat} {b : Nat → Int32} {LEN fr most : Nat} : ∀ (z c : Nat) (fp : Int32) (flt st en kd vl : Nat) (row : Nat → Int32), en ≤ len → kd ≤ 4 → vl ≤ 1000 → st ≤ en → (rnR len b LEN fr most z c fp flt st en kd vl row).2.2.2.2.1 ≤ len ∧ (rnR len b LEN fr most z c fp flt st en kd vl row).2.2.2.2.2.1 ≤ 4 ∧ (rnR len b LEN fr most z c fp flt st en kd vl row).2.2.2.2.2.2.1 ≤ 1000 ∧ (rnR len b LEN fr most z c fp flt st en kd vl row).2.2.2.1 ≤ (rnR len b LEN fr most z c fp flt st en kd vl row).2.2.2.2.1
  | 0, c, fp, flt, st, en, kd, vl, row, h1, h2, h3, h4 => ⟨h1, h2, h3, h4⟩
  | z + 1, c, fp, flt, st, en, kd, vl, row, h1, h2, h3, h4 => by
    unfold rnR
    split
    · exact ⟨h1, h2, h3, h4⟩
    · split
      · have t := tk_le (b := b) h1 h3
        exact rnR_T z (c + 1) _ _ _ _ _ _ _ t.2.2.2.1 t.2.2.2.2.1 t.2.2.2.2.2.1 t.2.2.1
      · exact ⟨h1, h2, h3, h4⟩
theorem rsG_adv {len : Nat} {b : Nat → Int32} {s : RS} (h : rsG len s) : rsG len (advR len b s) := ⟨rsT_adv h.1, h.2⟩
theorem updN_le {f : Nat → Nat} {i v m : Nat} (hf : ∀ j, f j ≤ m) (hv : v ≤ m) (j : Nat) : updN f i v j ≤ m := by
  unfold updN; split
  · exact hv
  · exact hf j
theorem sizR_G {len : Nat} {b : Nat → Int32} {sh lo hi : Nat} {s : RS} (h : rsG len s) (hS : ∀ k, lo ≤ k → k ≤ hi → shOk sh k) (e : (sizR len b sh lo hi s).1 = true) : rsG len (sizR len b sh lo hi s).2 := by
  unfold sizR at e ⊢
  by_cases q : numB lo hi (advR len b s) = true
  · rw [if_pos q] at e ⊢
    have q1 := of_decide_eq_true q
    refine rsG_adv ⟨(rsT_adv h.1 : rsT len (advR len b s)), h.2.1, h.2.2.1, hS _ q1.2.1 q1.2.2, h.2.2.2.2⟩
  · rw [if_neg q] at e; cases e
theorem shpR_G {len : Nat} {b : Nat → Int32} {s : RS} (h : rsG len s) (e : (shpR len b s).1 = true) : rsG len (shpR len b s).2 := by
  unfold shpR at e ⊢
  have h0 : rsG len (advR len b (setS s)) := rsG_adv (s := setS s) h
  by_cases q : s.2.2.2.2.2.2.1 = true
  · rw [if_pos q] at e; cases e
  · rw [if_neg q] at e ⊢
    generalize advR len b (setS s) = u at h0 e ⊢
    unfold shpN at e ⊢
    by_cases q1 : wrdR b "triangle" u = true
    · rw [if_pos q1] at e ⊢; exact rsG_adv h0
    · rw [if_neg q1] at e ⊢
      by_cases q2 : wrdR b "path" u = true
      · rw [if_pos q2] at e ⊢; exact sizR_G h0 (fun k h1 h2 => by unfold shOk; omega) e
      · rw [if_neg q2] at e ⊢
        by_cases q3 : wrdR b "star" u = true
        · rw [if_pos q3] at e ⊢; exact sizR_G h0 (fun k h1 h2 => by unfold shOk; omega) e
        · rw [if_neg q3] at e ⊢
          by_cases q4 : wrdR b "ring" u = true
          · rw [if_pos q4] at e ⊢; exact sizR_G h0 (fun k h1 h2 => by unfold shOk; omega) e
          · rw [if_neg q4] at e; cases e
theorem linR_G {len : Nat} {b : Nat → Int32} {more : Bool} {s : RS} (h : rsG len s) (e : (linR len b more s).1 = true) : rsG len (linR len b more s).2 := by
  unfold linR at e ⊢
  by_cases q1 : numB 0 ((rsD s).1 - 1) (advR len b s) = true
  · rw [if_pos q1] at e ⊢
    by_cases q2 : numB 0 ((rsD s).1 - 1) (advR len b (advR len b s)) = true
    · rw [if_pos q2] at e ⊢
      by_cases q3 : rsVl (advR len b (advR len b s)) = rsVl (advR len b s)
      · rw [if_pos q3] at e; cases e
      · rw [if_neg q3]
        exact rsG_adv ⟨(rsT_adv (rsT_adv h.1) : rsT len (advR len b (advR len b s))), h.2⟩
    · rw [if_neg q2] at e; cases e
  · rw [if_neg q1] at e; cases e
theorem rnS_T {len : Nat} {b : Nat → Int32} {LEN fr most : Nat} {s : RS} {row : Nat → Int32} (h : rsT len s) : (rnS len b LEN fr most s row).2.2.2.2.1 ≤ len ∧ (rnS len b LEN fr most s row).2.2.2.2.2.1 ≤ 4 ∧ (rnS len b LEN fr most s row).2.2.2.2.2.2.1 ≤ 1000 ∧ (rnS len b LEN fr most s row).2.2.2.1 ≤ (rnS len b LEN fr most s row).2.2.2.2.1 := rnR_T 5 0 s.1 s.2.1 s.2.2.1 s.2.2.2.1 s.2.2.2.2.1 s.2.2.2.2.2.1 row h.1 h.2.1 h.2.2.1 h.2.2.2
theorem prtR_G {len : Nat} {b : Nat → Int32} {s : RS} (h : rsG len s) (e : (prtR len b s).1 = true) : rsG len (prtR len b s).2 := by
  unfold prtR at e ⊢
  have hT := rnS_T (b := b) (LEN := 250) (fr := rsPc s * 5) (most := (rsD s).1 - 1) (row := s.2.2.2.2.2.2.2.2.2.2.1) (rsT_adv (b := b) h.1)
  have hr5 : (rnS len b 250 (rsPc s * 5) ((rsD s).1 - 1) (advR len b s) s.2.2.2.2.2.2.2.2.2.2.1).1 ≤ 5 := rnR_le 5 0 _ _ _ _ _ _ _ (by omega)
  have hT : rsT len (rsP (advR len b s) (rnS len b 250 (rsPc s * 5) ((rsD s).1 - 1) (advR len b s) s.2.2.2.2.2.2.2.2.2.2.1)) := hT
  generalize rnS len b 250 (rsPc s * 5) ((rsD s).1 - 1) (advR len b s) s.2.2.2.2.2.2.2.2.2.2.1 = r at *
  by_cases q1 : 0 < r.1
  · rw [if_pos q1]
    by_cases q2 : rsPc s < 50
    · rw [if_pos q2]
      exact ⟨hT, h.2.1, h.2.2.1, h.2.2.2.1, q2, h.2.2.2.2.2.1, updN_le h.2.2.2.2.2.2.1 hr5, h.2.2.2.2.2.2.2⟩
    · rw [if_neg q2]
      exact ⟨hT, h.2⟩
  · rw [if_neg q1] at e; cases e
theorem basR_G {len : Nat} {b : Nat → Int32} {s : RS} (h : rsG len s) (e : (basR len b s).1 = true) : rsG len (basR len b s).2 := by
  unfold basR at e ⊢
  by_cases q0 : rsBc s < 4
  · rw [if_pos q0] at e ⊢
    have hT := rnS_T (b := b) (LEN := 20) (fr := rsBc s * 5) (most := 30) (row := (rsD s).2.2.2.2.2.2.2.1) (rsT_adv (b := b) h.1)
    have hr5 : (rnS len b 20 (rsBc s * 5) 30 (advR len b s) (rsD s).2.2.2.2.2.2.2.1).1 ≤ 5 := rnR_le 5 0 _ _ _ _ _ _ _ (by omega)
    have hT : rsT len (rsB (advR len b s) (rnS len b 20 (rsBc s * 5) 30 (advR len b s) (rsD s).2.2.2.2.2.2.2.1)) := hT
    generalize rnS len b 20 (rsBc s * 5) 30 (advR len b s) (rsD s).2.2.2.2.2.2.2.1 = r at *
    by_cases q1 : 0 < r.1
    · rw [if_pos q1]
      exact ⟨hT, h.2.1, h.2.2.1, h.2.2.2.1, h.2.2.2.2.1, q0, h.2.2.2.2.2.2.1, updN_le h.2.2.2.2.2.2.2.1 hr5, h.2.2.2.2.2.2.2.2⟩
    · rw [if_neg q1] at e; cases e
  · rw [if_neg q0] at e; cases e
theorem entR_G {len : Nat} {b : Nat → Int32} {s : RS} (h : rsG len s) (e : (entR len b s).1 = true) : rsG len (entR len b s).2 := by
  unfold entR at e ⊢
  by_cases q1 : wrdR b "all" s = true
  · rw [if_pos q1]; exact rsG_adv (s := setD (allD (rsD s)) s) h
  · rw [if_neg q1] at e ⊢
    by_cases q2 : wrdR b "line" s = true
    · rw [if_pos q2] at e ⊢; exact linR_G h e
    · rw [if_neg q2] at e ⊢
      by_cases q3 : wrdR b "less" s = true
      · rw [if_pos q3] at e ⊢; exact linR_G h e
      · rw [if_neg q3] at e ⊢
        by_cases q4 : wrdR b "shape" s = true
        · rw [if_pos q4] at e ⊢; exact shpR_G h e
        · rw [if_neg q4] at e ⊢
          by_cases q5 : wrdR b "part" s = true
          · rw [if_pos q5] at e ⊢; exact prtR_G h e
          · rw [if_neg q5] at e ⊢
            by_cases q6 : wrdR b "base" s = true
            · rw [if_pos q6] at e ⊢; exact basR_G h e
            · rw [if_neg q6] at e; cases e
theorem pasR_G {len : Nat} {b : Nat → Int32} {s : RS} (h : rsG len s) (e : (pasR len b s).1 = true) : rsG len (pasR len b s).2 := by
  unfold pasR at e ⊢
  by_cases q1 : s.2.2.2.2.1 = 3
  · rw [if_pos q1]; exact rsG_adv h
  · rw [if_neg q1] at e; cases e
/-- before anything is read -/
def begR (s : RS) : RS := (-1, 0, s.2.2.1, 0, s.2.2.2.2.1, s.2.2.2.2.2.1, false, 0, 0, s.2.2.2.2.2.2.2.2.2)
theorem hedR_G {len : Nat} {b : Nat → Int32} {s : RS} (hv : s.2.2.2.2.2.1 ≤ 1000) (hp : ∀ j, s.2.2.2.2.2.2.2.2.2.2.2.1 j ≤ 5) (hb : ∀ j, s.2.2.2.2.2.2.2.2.2.2.2.2 j ≤ 5) (e : (hedR len b (begR s)).1 = true) : rsG len (hedR len b (begR s)).2 := by
  have h1 : rsT len (advR len b (begR s)) := rsT_advA ⟨Nat.zero_le _, hv⟩
  have h2 := rsT_adv (b := b) h1
  unfold hedR at e ⊢
  by_cases q1 : wrdR b "nodes" (advR len b (begR s)) = true
  · rw [if_pos q1] at e ⊢
    by_cases q2 : numB 2 11 (advR len b (advR len b (begR s))) = true
    · rw [if_pos q2] at e ⊢
      have q3 := of_decide_eq_true q2
      exact pasR_G (rsG_adv ⟨h2, q3.2.1, q3.2.2, Or.inl ⟨rfl, rfl⟩, Nat.zero_le _, Nat.zero_le _, hp, hb, rfl⟩) e
    · rw [if_neg q2] at e; cases e
  · rw [if_neg q1] at e; cases e
def stpR (len : Nat) (b : Nat → Int32) (s : RS) : Bool × RS := if (entR len b s).1 = true then pasR len b (entR len b s).2 else (false, (entR len b s).2)
def lopR (len : Nat) (b : Nat → Int32) : Nat → Bool × RS → Bool × RS
  | 0, r => r
  | z + 1, r => if r.1 = true ∧ ¬ r.2.2.2.2.2.1 = 0 then lopR len b z (stpR len b r.2) else r
theorem stpR_G {len : Nat} {b : Nat → Int32} {s : RS} (h : rsG len s) (e : (stpR len b s).1 = true) : rsG len (stpR len b s).2 := by
  unfold stpR at e ⊢
  by_cases q1 : (entR len b s).1 = true
  · rw [if_pos q1] at e ⊢; exact pasR_G (entR_G h q1) e
  · rw [if_neg q1] at e; cases e
theorem lopR_G {len : Nat} {b : Nat → Int32} : ∀ (z : Nat) (r : Bool × RS), (r.1 = true → rsG len r.2) → (lopR len b z r).1 = true → rsG len (lopR len b z r).2
  | 0, r, h, e => h e
  | z + 1, r, h, e => by
    unfold lopR at e ⊢
    by_cases q : r.1 = true ∧ ¬ r.2.2.2.2.2.1 = 0
    · rw [if_pos q] at e ⊢
      exact lopR_G z _ (fun e2 => stpR_G (h q.1) e2) e
    · rw [if_neg q] at e ⊢; exact h e
def setR (s : RS) : Bool × RS := ((stR (rsPc s) (rsBc s) (rsD s).1 (rsD s).2.1 (rsD s).2.2.1 (rsD s).2.2.2.1 (rsD s).2.2.2.2.2.1 (rsD s).2.2.2.2.2.2.1 (rsD s).2.2.2.2.2.2.2.1 (rsD s).2.2.2.2.2.2.2.2 s.2.2.2.2.2.2.2.2.2.2.1 s.2.2.2.2.2.2.2.2.2.2.2.1 s.2.2.2.2.2.2.2.2.2.2.2.2).1, setD (stR (rsPc s) (rsBc s) (rsD s).1 (rsD s).2.1 (rsD s).2.2.1 (rsD s).2.2.2.1 (rsD s).2.2.2.2.2.1 (rsD s).2.2.2.2.2.2.1 (rsD s).2.2.2.2.2.2.2.1 (rsD s).2.2.2.2.2.2.2.2 s.2.2.2.2.2.2.2.2.2.2.1 s.2.2.2.2.2.2.2.2.2.2.2.1 s.2.2.2.2.2.2.2.2.2.2.2.2).2 s)
theorem rs_settle (adK : Nat → Nat) (d len : Nat) (b : Nat → Int32) (s : RS) (h : rsG len s) : pnCt mX3_settle adK (d + 4) 0 0 [.ref 0] (hRS len b s) (pnIs (.inl (some (.int (nB (setR s).1)))) (hRS len b (setR s).2)) := by
  obtain ⟨fp, flt, st, en, kd, vl, shd, pct, bct, ⟨n, g, sh, k, pcv, bcv, ps, bs, sf⟩, pn, pl, bl⟩ := s
  obtain ⟨h1, h2, h3, h4, h5, h6, h7, h8, h9⟩ := h
  have h9 : pcv = 0 := h9
  subst h9
  have h2 : 2 ≤ n := h2
  exact c_settle adK d fp flt len st en kd vl shd pct bct n g sh k bcv ps bs sf pn pl bl b h4 h3 (by omega) h5 h6 h7 h8
def endR (len : Nat) (r : Bool × RS) : RS := if r.1 = true then (if (setR r.2).1 = true then (setR r.2).2 else (nI len, 4, (setR r.2).2.2.2)) else r.2
def reaR (len : Nat) (b : Nat → Int32) (s : RS) : RS := endR len (lopR len b 300 (hedR len b (begR s)))
def hRq (q len : Nat) (b : Nat → Int32) (s : RS) : List pnE :=
  .inr (3, [.ref 1, .int s.1, .int (nI s.2.1), .ref q, .int (nI len), .int (nI s.2.2.1), .int (nI s.2.2.2.1), .int (nI s.2.2.2.2.1), .int (nI s.2.2.2.2.2.1), .int (nB s.2.2.2.2.2.2.1), .int (nI s.2.2.2.2.2.2.2.1), .int (nI s.2.2.2.2.2.2.2.2.1), .ref 5, .ref 6, .ref 7]) :: (hNS 1 s.2.2.2.2.2.2.2.2.2.1 ++ [.inl (0, 250, .inl s.2.2.2.2.2.2.2.2.2.2.1), .inl (0, 50, .inl (fun j => nI (s.2.2.2.2.2.2.2.2.2.2.2.1 j))), .inl (0, 4, .inl (fun j => nI (s.2.2.2.2.2.2.2.2.2.2.2.2 j))), .inl (2, 300, .inl b), .inl (2, 0, .inl (fun _ => 0))])
theorem hRq_cl (q len : Nat) (b : Nat → Int32) (s : RS) (hq : q = 8 ∨ q = 9) : pnCH (hRq q len b s) := by
  rcases hq with e | e <;> subst e <;> exact pnCH_b rfl
set_option maxRecDepth 100000 in
theorem c_read (adK : Nat → Nat) (d q len0 len : Nat) (b : Nat → Int32) (s : RS) (hq : q = 8 ∨ q = 9) (hl : len ≤ 300) (hv : s.2.2.2.2.2.1 ≤ 1000) (hp : ∀ j, s.2.2.2.2.2.2.2.2.2.2.2.1 j ≤ 5) (hb : ∀ j, s.2.2.2.2.2.2.2.2.2.2.2.2 j ≤ 5) : pnCt mX3_read adK (d + 7) 0 0 [.ref 0, .ref 8, .int (nI len)] (hRq q len0 b s) (pnIs (.inl (some (.int (nI (reaR len b s).2.1)))) (hRq 8 len b (reaR len b s))) := by
  refine pnCt_of (by decide) kX3_read (Nat.le_of_ble_eq_true rfl) rfl (hRq_cl _ _ _ _ hq) (pnCS_b rfl) ?_
  have hA : rsA len (begR s) := ⟨Nat.zero_le _, hv⟩
  have fin : ∀ (e : Nat) (r : Bool × RS), (r.1 = true → rsG len r.2) → endR len r = reaR len b s → pnWP mX3_read adK (d + 7) (pnIs (.inl (some (.int (nI (reaR len b s).2.1)))) (hRq 8 len b (reaR len b s))) 0 0 (hRq 8 len b r.2) [some (.ref 0), some (.ref 8), some (.int (nI len)), some (.int (nB r.1)), some (.int (nI e))] [] 98 := by
    intro e r hG er
    unfold endR at er
    by_cases q1 : r.1 = true
    · rw [if_pos q1] at er
      rw [q1]
      have CS := rs_settle adK d len b r.2 (hG q1)
      by_cases q2 : (setR r.2).1 = true
      · rw [if_pos q2] at er
        rw [q2] at CS
        rw [← er]
        refine pn_iload_n (q := 99) dX3_read_98 rfl rfl ?_
        refine pn_beq (q := 102) (tgt := 122) dX3_read_99 (by decide) rfl (fun hc99 => ?_) (fun hc99 => ?_)
        · cases hc99
        · refine pn_aload_n (q := 103) dX3_read_102 rfl rfl rfl ?_
          refine pn_upV1 (q := 106) (bc9 := 0) (bs9 := 0) (CS) lkX3_80 dX3_read_103 rfl rfl (pnSel_of (I := [0, 1, 2, 3, 4, 5, 6, 7, 8]) rfl rfl) (pnFree_none rfl) rfl rfl rfl (by omega) (by omega) (by omega) (Nat.le_of_ble_eq_true rfl) rfl ?_
          refine pn_eq (h' := (hRq 8 len b (setR r.2).2)) (st' := _) rfl rfl ?_
          refine pn_bne (q := 109) (tgt := 122) dX3_read_106 (by decide) rfl (fun hc106 => ?_) (fun hc106 => ?_)
          · refine pn_aload_n (q := 123) dX3_read_122 rfl rfl rfl ?_
            refine pn_get (q := 126) fX3_22 dX3_read_123 rfl rfl rfl ?_
            refine pn_iret dX3_read_126 rfl ?_
            exact ⟨rfl, rfl⟩
          · cases hc106
      · rw [if_neg q2] at er
        rw [Bool.eq_false_iff.mpr q2] at CS
        rw [← er]
        refine pn_iload_n (q := 99) dX3_read_98 rfl rfl ?_
        refine pn_beq (q := 102) (tgt := 122) dX3_read_99 (by decide) rfl (fun hc99 => ?_) (fun hc99 => ?_)
        · cases hc99
        · refine pn_aload_n (q := 103) dX3_read_102 rfl rfl rfl ?_
          refine pn_upV1 (q := 106) (bc9 := 0) (bs9 := 0) (CS) lkX3_80 dX3_read_103 rfl rfl (pnSel_of (I := [0, 1, 2, 3, 4, 5, 6, 7, 8]) rfl rfl) (pnFree_none rfl) rfl rfl rfl (by omega) (by omega) (by omega) (Nat.le_of_ble_eq_true rfl) rfl ?_
          refine pn_eq (h' := (hRq 8 len b (setR r.2).2)) (st' := _) rfl rfl ?_
          refine pn_bne (q := 109) (tgt := 122) dX3_read_106 (by decide) rfl (fun hc106 => ?_) (fun hc106 => ?_)
          · cases hc106
          · refine pn_aload_n (q := 110) dX3_read_109 rfl rfl rfl ?_
            refine pn_iconst (q := 111) (v := nI 4) dX3_read_110 rfl (by decide) ?_
            refine pn_put (q := 114) fX3_22 dX3_read_111 rfl rfl (Nat.le_of_ble_eq_true rfl) (pnF_int _) ?_
            refine pn_aload_n (q := 115) dX3_read_114 rfl rfl rfl ?_
            refine pn_aload_n (q := 116) dX3_read_115 rfl rfl rfl ?_
            refine pn_get (q := 119) fX3_29 dX3_read_116 rfl rfl rfl ?_
            refine pn_put (q := 122) fX3_18 dX3_read_119 rfl rfl (Nat.le_of_ble_eq_true rfl) (pnF_int _) ?_
            refine pn_aload_n (q := 123) dX3_read_122 rfl rfl rfl ?_
            refine pn_get (q := 126) fX3_22 dX3_read_123 rfl rfl rfl ?_
            refine pn_iret dX3_read_126 rfl ?_
            exact ⟨rfl, rfl⟩
    · rw [if_neg q1] at er
      rw [Bool.eq_false_iff.mpr q1, ← er]
      refine pn_iload_n (q := 99) dX3_read_98 rfl rfl ?_
      refine pn_beq (q := 102) (tgt := 122) dX3_read_99 (by decide) rfl (fun hc99 => ?_) (fun hc99 => ?_)
      · refine pn_aload_n (q := 123) dX3_read_122 rfl rfl rfl ?_
        refine pn_get (q := 126) fX3_22 dX3_read_123 rfl rfl rfl ?_
        refine pn_iret dX3_read_126 rfl ?_
        exact ⟨rfl, rfl⟩
      · cases hc99
  have loop : ∀ (z e : Nat) (r : Bool × RS), e + z = 300 → (r.1 = true → rsG len r.2) → endR len (lopR len b z r) = reaR len b s → pnWP mX3_read adK (d + 7) (pnIs (.inl (some (.int (nI (reaR len b s).2.1)))) (hRq 8 len b (reaR len b s))) 0 0 (hRq 8 len b r.2) [some (.ref 0), some (.ref 8), some (.int (nI len)), some (.int (nB r.1)), some (.int (nI e))] [] 53 := by
    intro z
    induction z with
    | zero =>
      intro e r hz hG er
      refine pn_iload (q := 55) dX3_read_53 rfl rfl ?_
      refine pn_sipush (q := 58) (v := nI 300) dX3_read_55 rfl (by decide) ?_
      first | refine pn_nge (q := 61) (tgt := 98) dX3_read_58 (by decide) rfl (by omega) (by omega) (fun hc58 => ?_) (fun hc58 => ?_) | refine pn_icmp_ge (q := 61) (tgt := 98) dX3_read_58 (by decide) rfl (fun hc58 => ?_) (fun hc58 => ?_)
      · exact fin e r hG er
      · omega
    | succ z ih =>
      intro e r hz hG er
      have e2 : lopR len b (z + 1) r = if r.1 = true ∧ ¬ r.2.2.2.2.2.1 = 0 then lopR len b z (stpR len b r.2) else r := rfl
      rw [e2] at er
      by_cases q1 : r.1 = true ∧ ¬ r.2.2.2.2.2.1 = 0
      · rw [if_pos q1] at er
        have hG1 := hG q1.1
        have hk4 := hG1.1.2.1
        have q3 := q1.2
        have h2 := hG1.2.1
        rw [q1.1]
        have CE := c_readEntry adK d len b r.2 hl hG1.1 hG1.2.2.1 (by omega) hG1.2.2.2.2.1 hG1.2.2.2.2.2.1
        have ih2 := ih (e + 1) (stpR len b r.2) (by omega) (fun e9 => stpR_G hG1 e9) er
        by_cases q2 : (entR len b r.2).1 = true
        · have es : stpR len b r.2 = pasR len b (entR len b r.2).2 := if_pos q2
          have hG2 := entR_G hG1 q2
          rw [q2] at CE
          rw [es] at ih2
          have CP := rs_passStop adK d len b (entR len b r.2).2 hl hG2.1
          by_cases q4 : (pasR len b (entR len b r.2).2).1 = true
          · rw [q4] at CP ih2
            refine pn_iload (q := 55) dX3_read_53 rfl rfl ?_
            refine pn_sipush (q := 58) (v := nI 300) dX3_read_55 rfl (by decide) ?_
            first | refine pn_nge (q := 61) (tgt := 98) dX3_read_58 (by decide) rfl (by omega) (by omega) (fun hc58 => ?_) (fun hc58 => ?_) | refine pn_icmp_ge (q := 61) (tgt := 98) dX3_read_58 (by decide) rfl (fun hc58 => ?_) (fun hc58 => ?_)
            · omega
            · refine pn_iload_n (q := 62) dX3_read_61 rfl rfl ?_
              refine pn_beq (q := 65) (tgt := 98) dX3_read_62 (by decide) rfl (fun hc62 => ?_) (fun hc62 => ?_)
              · cases hc62
              · refine pn_aload_n (q := 66) dX3_read_65 rfl rfl rfl ?_
                refine pn_get (q := 69) fX3_38 dX3_read_66 rfl rfl rfl ?_
                first | refine pn_zeq (q := 72) (tgt := 98) dX3_read_69 (by decide) rfl (by omega) (fun hc69 => ?_) (fun hc69 => ?_) | refine pn_if_eq (q := 72) (tgt := 98) dX3_read_69 (by decide) rfl (fun hc69 => ?_) (fun hc69 => ?_)
                · omega
                · refine pn_aload_n (q := 73) dX3_read_72 rfl rfl rfl ?_
                  refine pn_upV1 (q := 76) (bc9 := 0) (bs9 := 0) (CE) lkX3_74 dX3_read_73 rfl rfl (pnSel_of (I := [0, 1, 2, 3, 4, 5, 6, 7, 8]) rfl rfl) (pnFree_none rfl) rfl rfl rfl (by omega) (by omega) (by omega) (Nat.le_of_ble_eq_true rfl) rfl ?_
                  refine pn_eq (h' := (hRq 8 len b (entR len b r.2).2)) (st' := _) rfl rfl ?_
                  refine pn_beq (q := 79) (tgt := 90) dX3_read_76 (by decide) rfl (fun hc76 => ?_) (fun hc76 => ?_)
                  · cases hc76
                  · refine pn_aload_n (q := 80) dX3_read_79 rfl rfl rfl ?_
                    refine pn_upV1 (q := 83) (bc9 := 0) (bs9 := 0) (CP) lkX3_77 dX3_read_80 rfl rfl (pnSel_of (I := [0, 1, 2, 3, 4, 5, 6, 7, 8]) rfl rfl) (pnFree_none rfl) rfl rfl rfl (by omega) (by omega) (by omega) (Nat.le_of_ble_eq_true rfl) rfl ?_
                    refine pn_eq (h' := (hRq 8 len b (pasR len b (entR len b r.2).2).2)) (st' := _) rfl rfl ?_
                    refine pn_beq (q := 86) (tgt := 90) dX3_read_83 (by decide) rfl (fun hc83 => ?_) (fun hc83 => ?_)
                    · cases hc83
                    · refine pn_iconst (q := 87) (v := nI 1) dX3_read_86 rfl (by decide) ?_
                      refine pn_goto (q := 91) dX3_read_87 (by decide) ?_
                      refine pn_istore_n (q := 92) dX3_read_91 rfl (by decide) ?_
                      first | refine pn_iinc1 (q := 95) dX3_read_92 rfl rfl (by decide) ?_ | refine pn_iinc (q := 95) (mm := 1) dX3_read_92 rfl rfl (by decide) (by decide) ?_
                      refine pn_goto (q := 53) dX3_read_95 (by decide) ?_
                      exact ih2
          · rw [Bool.eq_false_iff.mpr q4] at CP ih2
            refine pn_iload (q := 55) dX3_read_53 rfl rfl ?_
            refine pn_sipush (q := 58) (v := nI 300) dX3_read_55 rfl (by decide) ?_
            first | refine pn_nge (q := 61) (tgt := 98) dX3_read_58 (by decide) rfl (by omega) (by omega) (fun hc58 => ?_) (fun hc58 => ?_) | refine pn_icmp_ge (q := 61) (tgt := 98) dX3_read_58 (by decide) rfl (fun hc58 => ?_) (fun hc58 => ?_)
            · omega
            · refine pn_iload_n (q := 62) dX3_read_61 rfl rfl ?_
              refine pn_beq (q := 65) (tgt := 98) dX3_read_62 (by decide) rfl (fun hc62 => ?_) (fun hc62 => ?_)
              · cases hc62
              · refine pn_aload_n (q := 66) dX3_read_65 rfl rfl rfl ?_
                refine pn_get (q := 69) fX3_38 dX3_read_66 rfl rfl rfl ?_
                first | refine pn_zeq (q := 72) (tgt := 98) dX3_read_69 (by decide) rfl (by omega) (fun hc69 => ?_) (fun hc69 => ?_) | refine pn_if_eq (q := 72) (tgt := 98) dX3_read_69 (by decide) rfl (fun hc69 => ?_) (fun hc69 => ?_)
                · omega
                · refine pn_aload_n (q := 73) dX3_read_72 rfl rfl rfl ?_
                  refine pn_upV1 (q := 76) (bc9 := 0) (bs9 := 0) (CE) lkX3_74 dX3_read_73 rfl rfl (pnSel_of (I := [0, 1, 2, 3, 4, 5, 6, 7, 8]) rfl rfl) (pnFree_none rfl) rfl rfl rfl (by omega) (by omega) (by omega) (Nat.le_of_ble_eq_true rfl) rfl ?_
                  refine pn_eq (h' := (hRq 8 len b (entR len b r.2).2)) (st' := _) rfl rfl ?_
                  refine pn_beq (q := 79) (tgt := 90) dX3_read_76 (by decide) rfl (fun hc76 => ?_) (fun hc76 => ?_)
                  · cases hc76
                  · refine pn_aload_n (q := 80) dX3_read_79 rfl rfl rfl ?_
                    refine pn_upV1 (q := 83) (bc9 := 0) (bs9 := 0) (CP) lkX3_77 dX3_read_80 rfl rfl (pnSel_of (I := [0, 1, 2, 3, 4, 5, 6, 7, 8]) rfl rfl) (pnFree_none rfl) rfl rfl rfl (by omega) (by omega) (by omega) (Nat.le_of_ble_eq_true rfl) rfl ?_
                    refine pn_eq (h' := (hRq 8 len b (pasR len b (entR len b r.2).2).2)) (st' := _) rfl rfl ?_
                    refine pn_beq (q := 86) (tgt := 90) dX3_read_83 (by decide) rfl (fun hc83 => ?_) (fun hc83 => ?_)
                    · refine pn_iconst (q := 91) (v := nI 0) dX3_read_90 rfl (by decide) ?_
                      refine pn_istore_n (q := 92) dX3_read_91 rfl (by decide) ?_
                      first | refine pn_iinc1 (q := 95) dX3_read_92 rfl rfl (by decide) ?_ | refine pn_iinc (q := 95) (mm := 1) dX3_read_92 rfl rfl (by decide) (by decide) ?_
                      refine pn_goto (q := 53) dX3_read_95 (by decide) ?_
                      exact ih2
                    · cases hc83
        · have es : stpR len b r.2 = (false, (entR len b r.2).2) := if_neg q2
          rw [Bool.eq_false_iff.mpr q2] at CE
          rw [es] at ih2
          refine pn_iload (q := 55) dX3_read_53 rfl rfl ?_
          refine pn_sipush (q := 58) (v := nI 300) dX3_read_55 rfl (by decide) ?_
          first | refine pn_nge (q := 61) (tgt := 98) dX3_read_58 (by decide) rfl (by omega) (by omega) (fun hc58 => ?_) (fun hc58 => ?_) | refine pn_icmp_ge (q := 61) (tgt := 98) dX3_read_58 (by decide) rfl (fun hc58 => ?_) (fun hc58 => ?_)
          · omega
          · refine pn_iload_n (q := 62) dX3_read_61 rfl rfl ?_
            refine pn_beq (q := 65) (tgt := 98) dX3_read_62 (by decide) rfl (fun hc62 => ?_) (fun hc62 => ?_)
            · cases hc62
            · refine pn_aload_n (q := 66) dX3_read_65 rfl rfl rfl ?_
              refine pn_get (q := 69) fX3_38 dX3_read_66 rfl rfl rfl ?_
              first | refine pn_zeq (q := 72) (tgt := 98) dX3_read_69 (by decide) rfl (by omega) (fun hc69 => ?_) (fun hc69 => ?_) | refine pn_if_eq (q := 72) (tgt := 98) dX3_read_69 (by decide) rfl (fun hc69 => ?_) (fun hc69 => ?_)
              · omega
              · refine pn_aload_n (q := 73) dX3_read_72 rfl rfl rfl ?_
                refine pn_upV1 (q := 76) (bc9 := 0) (bs9 := 0) (CE) lkX3_74 dX3_read_73 rfl rfl (pnSel_of (I := [0, 1, 2, 3, 4, 5, 6, 7, 8]) rfl rfl) (pnFree_none rfl) rfl rfl rfl (by omega) (by omega) (by omega) (Nat.le_of_ble_eq_true rfl) rfl ?_
                refine pn_eq (h' := (hRq 8 len b (entR len b r.2).2)) (st' := _) rfl rfl ?_
                refine pn_beq (q := 79) (tgt := 90) dX3_read_76 (by decide) rfl (fun hc76 => ?_) (fun hc76 => ?_)
                · refine pn_iconst (q := 91) (v := nI 0) dX3_read_90 rfl (by decide) ?_
                  refine pn_istore_n (q := 92) dX3_read_91 rfl (by decide) ?_
                  first | refine pn_iinc1 (q := 95) dX3_read_92 rfl rfl (by decide) ?_ | refine pn_iinc (q := 95) (mm := 1) dX3_read_92 rfl rfl (by decide) (by decide) ?_
                  refine pn_goto (q := 53) dX3_read_95 (by decide) ?_
                  exact ih2
                · cases hc76
      · rw [if_neg q1] at er
        by_cases q2 : r.1 = true
        · have q3 : r.2.2.2.2.2.1 = 0 := Decidable.byContradiction fun q9 => q1 ⟨q2, q9⟩
          have k9 := fin e r hG er
          rw [q2] at k9 ⊢
          refine pn_iload (q := 55) dX3_read_53 rfl rfl ?_
          refine pn_sipush (q := 58) (v := nI 300) dX3_read_55 rfl (by decide) ?_
          first | refine pn_nge (q := 61) (tgt := 98) dX3_read_58 (by decide) rfl (by omega) (by omega) (fun hc58 => ?_) (fun hc58 => ?_) | refine pn_icmp_ge (q := 61) (tgt := 98) dX3_read_58 (by decide) rfl (fun hc58 => ?_) (fun hc58 => ?_)
          · omega
          · refine pn_iload_n (q := 62) dX3_read_61 rfl rfl ?_
            refine pn_beq (q := 65) (tgt := 98) dX3_read_62 (by decide) rfl (fun hc62 => ?_) (fun hc62 => ?_)
            · cases hc62
            · refine pn_aload_n (q := 66) dX3_read_65 rfl rfl rfl ?_
              refine pn_get (q := 69) fX3_38 dX3_read_66 rfl rfl rfl ?_
              first | refine pn_zeq (q := 72) (tgt := 98) dX3_read_69 (by decide) rfl (by omega) (fun hc69 => ?_) (fun hc69 => ?_) | refine pn_if_eq (q := 72) (tgt := 98) dX3_read_69 (by decide) rfl (fun hc69 => ?_) (fun hc69 => ?_)
              · exact k9
              · omega
        · have k9 := fin e r hG er
          rw [Bool.eq_false_iff.mpr q2] at k9 ⊢
          refine pn_iload (q := 55) dX3_read_53 rfl rfl ?_
          refine pn_sipush (q := 58) (v := nI 300) dX3_read_55 rfl (by decide) ?_
          first | refine pn_nge (q := 61) (tgt := 98) dX3_read_58 (by decide) rfl (by omega) (by omega) (fun hc58 => ?_) (fun hc58 => ?_) | refine pn_icmp_ge (q := 61) (tgt := 98) dX3_read_58 (by decide) rfl (fun hc58 => ?_) (fun hc58 => ?_)
          · omega
          · refine pn_iload_n (q := 62) dX3_read_61 rfl rfl ?_
            refine pn_beq (q := 65) (tgt := 98) dX3_read_62 (by decide) rfl (fun hc62 => ?_) (fun hc62 => ?_)
            · exact k9
            · cases hc62
  have CH := c_readHead adK d len b (begR s) hl hA
  have C9 := c_min adK d len 300 (by omega) (by omega)
  rw [Nat.min_eq_left hl] at C9
  have k9 := loop 300 0 (hedR len b (begR s)) (by omega) (fun e => hedR_G hv hp hb e) rfl
  rcases hq with e | e
  · subst e
    refine pn_aload_n (q := 1) dX3_read_0 rfl rfl rfl ?_
    refine pn_aload_n (q := 2) dX3_read_1 rfl rfl rfl ?_
    refine pn_put (q := 5) fX3_25 dX3_read_2 rfl rfl (Nat.le_of_ble_eq_true rfl) (pnF_arr rfl) ?_
    refine pn_aload_n (q := 6) dX3_read_5 rfl rfl rfl ?_
    refine pn_iload_n (q := 7) dX3_read_6 rfl rfl ?_
    refine pn_aload_n (q := 8) dX3_read_7 rfl rfl rfl ?_
    refine pn_alen (q := 9) dX3_read_8 rfl rfl (by decide) ?_
    refine pn_roS1 (q := 12) (C9) lkX3_64 dX3_read_9 rfl rfl (pnSel_of (I := []) rfl rfl) (pnFree_none rfl) rfl (by omega) (Nat.le_of_ble_eq_true rfl) rfl ?_
    refine pn_put (q := 15) fX3_29 dX3_read_12 rfl rfl (Nat.le_of_ble_eq_true rfl) (pnF_int _) ?_
    refine pn_aload_n (q := 16) dX3_read_15 rfl rfl rfl ?_
    refine pn_iconst (q := 17) (v := nI 0) dX3_read_16 rfl (by decide) ?_
    refine pn_put (q := 20) fX3_35 dX3_read_17 rfl rfl (Nat.le_of_ble_eq_true rfl) (pnF_int _) ?_
    refine pn_aload_n (q := 21) dX3_read_20 rfl rfl rfl ?_
    refine pn_iconst (q := 22) (v := nI 0) dX3_read_21 rfl (by decide) ?_
    refine pn_put (q := 25) fX3_22 dX3_read_22 rfl rfl (Nat.le_of_ble_eq_true rfl) (pnF_int _) ?_
    refine pn_aload_n (q := 26) dX3_read_25 rfl rfl rfl ?_
    refine pn_iconst (q := 27) (v := (-1)) dX3_read_26 rfl (by decide) ?_
    refine pn_put (q := 30) fX3_18 dX3_read_27 rfl rfl (Nat.le_of_ble_eq_true rfl) (pnF_int _) ?_
    refine pn_aload_n (q := 31) dX3_read_30 rfl rfl rfl ?_
    refine pn_iconst (q := 32) (v := nI 0) dX3_read_31 rfl (by decide) ?_
    refine pn_put (q := 35) fX3_44 dX3_read_32 rfl rfl (Nat.le_of_ble_eq_true rfl) (pnF_bool (by first | exact Or.inl rfl | exact Or.inr rfl | assumption)) ?_
    refine pn_aload_n (q := 36) dX3_read_35 rfl rfl rfl ?_
    refine pn_iconst (q := 37) (v := nI 0) dX3_read_36 rfl (by decide) ?_
    refine pn_put (q := 40) fX3_48 dX3_read_37 rfl rfl (Nat.le_of_ble_eq_true rfl) (pnF_int _) ?_
    refine pn_aload_n (q := 41) dX3_read_40 rfl rfl rfl ?_
    refine pn_iconst (q := 42) (v := nI 0) dX3_read_41 rfl (by decide) ?_
    refine pn_put (q := 45) fX3_51 dX3_read_42 rfl rfl (Nat.le_of_ble_eq_true rfl) (pnF_int _) ?_
    refine pn_aload_n (q := 46) dX3_read_45 rfl rfl rfl ?_
    refine pn_upV1 (q := 49) (bc9 := 0) (bs9 := 0) (CH) lkX3_70 dX3_read_46 rfl rfl (pnSel_of (I := [0, 1, 2, 3, 4, 5, 6, 7, 8]) rfl rfl) (pnFree_none rfl) rfl rfl rfl (by omega) (by omega) (by omega) (Nat.le_of_ble_eq_true rfl) rfl ?_
    refine pn_eq (h' := (hRq 8 len b (hedR len b (begR s)).2)) (st' := _) rfl rfl ?_
    refine pn_istore_n (q := 50) dX3_read_49 rfl (by decide) ?_
    refine pn_iconst (q := 51) (v := nI 0) dX3_read_50 rfl (by decide) ?_
    refine pn_istore (q := 53) dX3_read_51 rfl (by decide) ?_
    exact k9
  · subst e
    refine pn_aload_n (q := 1) dX3_read_0 rfl rfl rfl ?_
    refine pn_aload_n (q := 2) dX3_read_1 rfl rfl rfl ?_
    refine pn_put (q := 5) fX3_25 dX3_read_2 rfl rfl (Nat.le_of_ble_eq_true rfl) (pnF_arr rfl) ?_
    refine pn_aload_n (q := 6) dX3_read_5 rfl rfl rfl ?_
    refine pn_iload_n (q := 7) dX3_read_6 rfl rfl ?_
    refine pn_aload_n (q := 8) dX3_read_7 rfl rfl rfl ?_
    refine pn_alen (q := 9) dX3_read_8 rfl rfl (by decide) ?_
    refine pn_roS1 (q := 12) (C9) lkX3_64 dX3_read_9 rfl rfl (pnSel_of (I := []) rfl rfl) (pnFree_none rfl) rfl (by omega) (Nat.le_of_ble_eq_true rfl) rfl ?_
    refine pn_put (q := 15) fX3_29 dX3_read_12 rfl rfl (Nat.le_of_ble_eq_true rfl) (pnF_int _) ?_
    refine pn_aload_n (q := 16) dX3_read_15 rfl rfl rfl ?_
    refine pn_iconst (q := 17) (v := nI 0) dX3_read_16 rfl (by decide) ?_
    refine pn_put (q := 20) fX3_35 dX3_read_17 rfl rfl (Nat.le_of_ble_eq_true rfl) (pnF_int _) ?_
    refine pn_aload_n (q := 21) dX3_read_20 rfl rfl rfl ?_
    refine pn_iconst (q := 22) (v := nI 0) dX3_read_21 rfl (by decide) ?_
    refine pn_put (q := 25) fX3_22 dX3_read_22 rfl rfl (Nat.le_of_ble_eq_true rfl) (pnF_int _) ?_
    refine pn_aload_n (q := 26) dX3_read_25 rfl rfl rfl ?_
    refine pn_iconst (q := 27) (v := (-1)) dX3_read_26 rfl (by decide) ?_
    refine pn_put (q := 30) fX3_18 dX3_read_27 rfl rfl (Nat.le_of_ble_eq_true rfl) (pnF_int _) ?_
    refine pn_aload_n (q := 31) dX3_read_30 rfl rfl rfl ?_
    refine pn_iconst (q := 32) (v := nI 0) dX3_read_31 rfl (by decide) ?_
    refine pn_put (q := 35) fX3_44 dX3_read_32 rfl rfl (Nat.le_of_ble_eq_true rfl) (pnF_bool (by first | exact Or.inl rfl | exact Or.inr rfl | assumption)) ?_
    refine pn_aload_n (q := 36) dX3_read_35 rfl rfl rfl ?_
    refine pn_iconst (q := 37) (v := nI 0) dX3_read_36 rfl (by decide) ?_
    refine pn_put (q := 40) fX3_48 dX3_read_37 rfl rfl (Nat.le_of_ble_eq_true rfl) (pnF_int _) ?_
    refine pn_aload_n (q := 41) dX3_read_40 rfl rfl rfl ?_
    refine pn_iconst (q := 42) (v := nI 0) dX3_read_41 rfl (by decide) ?_
    refine pn_put (q := 45) fX3_51 dX3_read_42 rfl rfl (Nat.le_of_ble_eq_true rfl) (pnF_int _) ?_
    refine pn_aload_n (q := 46) dX3_read_45 rfl rfl rfl ?_
    refine pn_upV1 (q := 49) (bc9 := 0) (bs9 := 0) (CH) lkX3_70 dX3_read_46 rfl rfl (pnSel_of (I := [0, 1, 2, 3, 4, 5, 6, 7, 8]) rfl rfl) (pnFree_none rfl) rfl rfl rfl (by omega) (by omega) (by omega) (Nat.le_of_ble_eq_true rfl) rfl ?_
    refine pn_eq (h' := (hRq 8 len b (hedR len b (begR s)).2)) (st' := _) rfl rfl ?_
    refine pn_istore_n (q := 50) dX3_read_49 rfl (by decide) ?_
    refine pn_iconst (q := 51) (v := nI 0) dX3_read_50 rfl (by decide) ?_
    refine pn_istore (q := 53) dX3_read_51 rfl (by decide) ?_
    exact k9
def hRd0 : List pnE := .inr (3, [.ref 1, .int (-1), .int (nI 0), .ref 5, .int (nI 0), .int (nI 0), .int (nI 0), .int (nI 0), .int (nI 0), .int (nB false), .int (nI 0), .int (nI 0), .ref 6, .ref 7, .ref 8]) :: (hNS 1 ns0 ++ [.inl (2, 0, .inl (fun _ => 0)), .inl (0, 250, .inl (fun _ => 0)), .inl (0, 50, .inl (fun _ => 0)), .inl (0, 4, .inl (fun _ => 0))])
set_option maxRecDepth 100000 in
theorem c_ReaderInit (adK : Nat → Nat) (d : Nat) : pnCt mX3_init adK (d + 2) 8 393 [.ref 0] [.inr (3, [.null, .int (nI 0), .int (nI 0), .null, .int (nI 0), .int (nI 0), .int (nI 0), .int (nI 0), .int (nI 0), .int (nI 0), .int (nI 0), .int (nI 0), .null, .null, .null])] (pnIs (.inl none) hRd0) := by
  refine pnCt_of (by decide) kX3_init (Nat.le_of_ble_eq_true rfl) rfl (pnCH_b rfl) (pnCS_b rfl) ?_
  refine pn_aload_n (q := 1) dX3_init_0 rfl rfl rfl ?_
  refine pn_obj (q := 4) pw_190 pw_106 pw_107 dX3_init_1 rfl (by omega) (Nat.le_of_ble_eq_true rfl) ?_
  refine pn_aload_n (q := 5) dX3_init_4 rfl rfl rfl ?_
  refine pn_newO (q := 8) (ci := 2) (N := 9) (T := TX2) (ty0 := tyX2) (fs := [.int (nI 0), .long 0, .int (nI 0), .int (nI 0), .int (nI 0), .int (nI 0), .null, .null, .null]) pw_191 pw_109 pw_79 ow_X2 tyX2_ok rfl (by decide) rfl dX3_init_5 rfl ?_
  refine pn_dup (q := 9) dX3_init_8 rfl rfl ?_
  refine pn_upIN0 (q := 12) (bc9 := 4) (bs9 := 304) (c_NetInit adK d) lkX3_11 dX3_init_9 rfl rfl (pnSel_of (I := [1]) rfl rfl) (pnFree_none rfl) rfl (by omega) (by omega) (by omega) (Nat.le_of_ble_eq_true rfl) ?_
  refine pn_eq (h' := [.inr (3, [.null, .int (nI 0), .int (nI 0), .null, .int (nI 0), .int (nI 0), .int (nI 0), .int (nI 0), .int (nI 0), .int (nI 0), .int (nI 0), .int (nI 0), .null, .null, .null])] ++ hNS 1 ns0) (st' := _) rfl rfl ?_
  refine pn_putF (q := 15) fX3_12 rfl hdeclX3 dX3_init_12 rfl rfl (Nat.le_of_ble_eq_true rfl) (pnF_obj rfl) ?_
  refine pn_aload_n (q := 16) dX3_init_15 rfl rfl rfl ?_
  refine pn_iconst (q := 17) (v := (-1)) dX3_init_16 rfl (by decide) ?_
  refine pn_put (q := 20) fX3_18 dX3_init_17 rfl rfl (Nat.le_of_ble_eq_true rfl) (pnF_int _) ?_
  refine pn_aload_n (q := 21) dX3_init_20 rfl rfl rfl ?_
  refine pn_iconst (q := 22) (v := nI 0) dX3_init_21 rfl (by decide) ?_
  refine pn_put (q := 25) fX3_22 dX3_init_22 rfl rfl (Nat.le_of_ble_eq_true rfl) (pnF_int _) ?_
  refine pn_aload_n (q := 26) dX3_init_25 rfl rfl rfl ?_
  refine pn_iconst (q := 27) (v := nI 0) dX3_init_26 rfl (by decide) ?_
  refine pn_newb (q := 29) pw_162 dX3_init_27 rfl rfl (by first | decide | omega) ?_
  refine pn_put (q := 32) fX3_25 dX3_init_29 rfl rfl (Nat.le_of_ble_eq_true rfl) (pnF_arr rfl) ?_
  refine pn_aload_n (q := 33) dX3_init_32 rfl rfl rfl ?_
  refine pn_iconst (q := 34) (v := nI 0) dX3_init_33 rfl (by decide) ?_
  refine pn_put (q := 37) fX3_29 dX3_init_34 rfl rfl (Nat.le_of_ble_eq_true rfl) (pnF_int _) ?_
  refine pn_aload_n (q := 38) dX3_init_37 rfl rfl rfl ?_
  refine pn_iconst (q := 39) (v := nI 0) dX3_init_38 rfl (by decide) ?_
  refine pn_put (q := 42) fX3_32 dX3_init_39 rfl rfl (Nat.le_of_ble_eq_true rfl) (pnF_int _) ?_
  refine pn_aload_n (q := 43) dX3_init_42 rfl rfl rfl ?_
  refine pn_iconst (q := 44) (v := nI 0) dX3_init_43 rfl (by decide) ?_
  refine pn_put (q := 47) fX3_35 dX3_init_44 rfl rfl (Nat.le_of_ble_eq_true rfl) (pnF_int _) ?_
  refine pn_aload_n (q := 48) dX3_init_47 rfl rfl rfl ?_
  refine pn_iconst (q := 49) (v := nI 0) dX3_init_48 rfl (by decide) ?_
  refine pn_put (q := 52) fX3_38 dX3_init_49 rfl rfl (Nat.le_of_ble_eq_true rfl) (pnF_int _) ?_
  refine pn_aload_n (q := 53) dX3_init_52 rfl rfl rfl ?_
  refine pn_iconst (q := 54) (v := nI 0) dX3_init_53 rfl (by decide) ?_
  refine pn_put (q := 57) fX3_41 dX3_init_54 rfl rfl (Nat.le_of_ble_eq_true rfl) (pnF_int _) ?_
  refine pn_aload_n (q := 58) dX3_init_57 rfl rfl rfl ?_
  refine pn_iconst (q := 59) (v := nI 0) dX3_init_58 rfl (by decide) ?_
  refine pn_put (q := 62) fX3_44 dX3_init_59 rfl rfl (Nat.le_of_ble_eq_true rfl) (pnF_bool (by first | exact Or.inl rfl | exact Or.inr rfl | assumption)) ?_
  refine pn_aload_n (q := 63) dX3_init_62 rfl rfl rfl ?_
  refine pn_iconst (q := 64) (v := nI 0) dX3_init_63 rfl (by decide) ?_
  refine pn_put (q := 67) fX3_48 dX3_init_64 rfl rfl (Nat.le_of_ble_eq_true rfl) (pnF_int _) ?_
  refine pn_aload_n (q := 68) dX3_init_67 rfl rfl rfl ?_
  refine pn_iconst (q := 69) (v := nI 0) dX3_init_68 rfl (by decide) ?_
  refine pn_put (q := 72) fX3_51 dX3_init_69 rfl rfl (Nat.le_of_ble_eq_true rfl) (pnF_int _) ?_
  refine pn_aload_n (q := 73) dX3_init_72 rfl rfl rfl ?_
  refine pn_sipush (q := 76) (v := nI 250) dX3_init_73 rfl (by decide) ?_
  refine pn_newi (q := 78) pw_164 dX3_init_76 rfl rfl (by first | decide | omega) ?_
  refine pn_putF (q := 81) fX3_54 rfl hdeclX3 dX3_init_78 rfl rfl (Nat.le_of_ble_eq_true rfl) (pnF_arr rfl) ?_
  refine pn_aload_n (q := 82) dX3_init_81 rfl rfl rfl ?_
  refine pn_bipush (q := 84) (v := nI 50) dX3_init_82 rfl (by decide) ?_
  refine pn_newi (q := 86) pw_164 dX3_init_84 rfl rfl (by first | decide | omega) ?_
  refine pn_putF (q := 89) fX3_58 rfl hdeclX3 dX3_init_86 rfl rfl (Nat.le_of_ble_eq_true rfl) (pnF_arr rfl) ?_
  refine pn_aload_n (q := 90) dX3_init_89 rfl rfl rfl ?_
  refine pn_iconst (q := 91) (v := nI 4) dX3_init_90 rfl (by decide) ?_
  refine pn_newi (q := 93) pw_164 dX3_init_91 rfl rfl (by first | decide | omega) ?_
  refine pn_putF (q := 96) fX3_61 rfl hdeclX3 dX3_init_93 rfl rfl (Nat.le_of_ble_eq_true rfl) (pnF_arr rfl) ?_
  refine pn_vret dX3_init_96 rfl ?_
  exact ⟨rfl, rfl⟩
