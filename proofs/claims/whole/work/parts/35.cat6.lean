def swL (f : Nat → Int64) (i j : Nat) : Nat → Int64 := vp_updL (vp_updL f i (f j)) j (f i)
/-- a row sinks: the later one of two children rises -/
def siG (b : Nat) : Nat → Nat → (Nat → Int64) → (Nat → Int64)
  | 0, _, f => f
  | z + 1, o, f => if 2 * o + 1 < b then (if cfN (f o) (f (if 2 * o + 2 < b ∧ cfN (f (2 * o + 1)) (f (2 * o + 2)) = true then 2 * o + 2 else 2 * o + 1)) = true then siG b z (if 2 * o + 2 < b ∧ cfN (f (2 * o + 1)) (f (2 * o + 2)) = true then 2 * o + 2 else 2 * o + 1) (swL f o (if 2 * o + 2 < b ∧ cfN (f (2 * o + 1)) (f (2 * o + 2)) = true then 2 * o + 2 else 2 * o + 1)) else f) else f
theorem siG_s (b z o : Nat) (f : Nat → Int64) : siG b (z + 1) o f = if 2 * o + 1 < b then (if cfN (f o) (f (if 2 * o + 2 < b ∧ cfN (f (2 * o + 1)) (f (2 * o + 2)) = true then 2 * o + 2 else 2 * o + 1)) = true then siG b z (if 2 * o + 2 < b ∧ cfN (f (2 * o + 1)) (f (2 * o + 2)) = true then 2 * o + 2 else 2 * o + 1) (swL f o (if 2 * o + 2 < b ∧ cfN (f (2 * o + 1)) (f (2 * o + 2)) = true then 2 * o + 2 else 2 * o + 1)) else f) else f := rfl
theorem updL_ne (f : Nat → Int64) {i j : Nat} (x : Int64) (h : j ≠ i) : vp_updL f i x j = f j := by
  unfold vp_updL
  show (if j = i then x else f j) = f j
  rw [if_neg h]
theorem updL_eq (f : Nat → Int64) (i : Nat) (x : Int64) : vp_updL f i x i = x := by
  unfold vp_updL
  show (if i = i then x else f i) = x
  rw [if_pos rfl]
theorem updL_id (f : Nat → Int64) (i : Nat) : vp_updL f i (f i) = f := by
  funext j
  by_cases e : j = i
  · subst e; exact updL_eq _ _ _
  · exact updL_ne _ _ e
theorem updL_up (f : Nat → Int64) (i : Nat) (x y : Int64) : vp_updL (vp_updL f i x) i y = vp_updL f i y := by
  funext j
  by_cases e : j = i
  · subst e; rw [updL_eq, updL_eq]
  · rw [updL_ne _ _ e, updL_ne _ _ e, updL_ne _ _ e]
theorem updL_sw (f : Nat → Int64) {o c : Nat} (x : Int64) (h : c ≠ o) : swL (vp_updL f o x) o c = vp_updL (vp_updL f o (f c)) c x := by
  unfold swL
  rw [updL_ne _ _ h, updL_eq, updL_up]
set_option maxRecDepth 100000 in
theorem c_sink (adK : Nat → Nat) (d : Nat) (c R : Nat) (f : Nat → Int64) (stt : Nat → Int32) (fd : Int64) (n sh k : Nat) (g : Int64) (pl : Nat) (ch : Nat → Int32) (o b : Nat) (ho : o < b) (hb : b ≤ R) (hR : R ≤ 60000) : pnCt mX1_sink adK (d + 1) 0 0 [.ref 0, .int (nI o), .int (nI b)] (hCat c R f stt fd n sh k g pl ch) (pnIs (.inl none) (hCat c R (siG b b o f) stt fd n sh k g pl ch)) := by
  refine pnCt_of (by decide) kX1_sink (Nat.le_of_ble_eq_true rfl) rfl (hCat_cl _ _ _ _ _ _ _ _ _ _ _) (pnCS_b rfl) ?_
  have loop : ∀ (z p : Nat) (f1 : Nat → Int64), p < b → b ≤ p + z → siG b z p (vp_updL f1 p (f o)) = siG b b o f → pnWP mX1_sink adK (d + 1) (pnIs (.inl none) (hCat c R (siG b b o f) stt fd n sh k g pl ch)) 0 0 (hCat c R f1 stt fd n sh k g pl ch) [some (.ref 0), some (.int (nI o)), some (.int (nI b)), some (.long (f o)), none, some (.int (nI p)), some (.int (nI (2 * p + 1)))] [] 36 := by
    intro z
    induction z with
    | zero =>
      intro p f1 hp hz
      omega
    | succ z ih =>
      intro p f1 hp hz e
      have fin : siG b b o f = vp_updL f1 p (f o) → pnWP mX1_sink adK (d + 1) (pnIs (.inl none) (hCat c R (siG b b o f) stt fd n sh k g pl ch)) 0 0 (hCat c R f1 stt fd n sh k g pl ch) [some (.ref 0), some (.int (nI o)), some (.int (nI b)), some (.long (f o)), none, some (.int (nI p))] [] 121 := by
        intro e9
        refine pn_aload_n (q := 122) dX1_sink_121 rfl rfl rfl ?_
        refine pn_get (q := 125) fX1_15 dX1_sink_122 rfl rfl rfl ?_
        refine pn_iload (q := 127) dX1_sink_125 rfl rfl ?_
        refine pn_lload_n (q := 128) dX1_sink_127 rfl rfl ?_
        first | refine pn_last5 (q := 129) dX1_sink_128 rfl rfl rfl (by omega) (by first | decide | omega) ?_ | refine pn_last1 (q := 129) dX1_sink_128 rfl rfl rfl (by omega) (by first | decide | omega) ?_
        refine pn_vret dX1_sink_129 rfl ?_
        exact ⟨rfl, by rw [e9]; rfl⟩
      have step : ∀ q, q = (if 2 * p + 2 < b ∧ cfN (f1 (2 * p + 1)) (f1 (2 * p + 2)) = true then 2 * p + 2 else 2 * p + 1) → 2 * p + 1 < b → pnWP mX1_sink adK (d + 1) (pnIs (.inl none) (hCat c R (siG b b o f) stt fd n sh k g pl ch)) 0 0 (hCat c R f1 stt fd n sh k g pl ch) [some (.ref 0), some (.int (nI o)), some (.int (nI b)), some (.long (f o)), none, some (.int (nI p)), some (.int (nI q))] [] 75 := by
        intro q hq h1
        have hqb : q < b ∧ p < q := by rw [hq]; split <;> omega
        rw [siG_s] at e
        rw [if_pos h1, updL_ne f1 (i := p) (j := 2 * p + 1) _ (by omega), updL_ne f1 (i := p) (j := 2 * p + 2) _ (by omega), ← hq, updL_eq, updL_ne f1 (i := p) (j := q) _ (by omega), updL_sw _ _ (by omega)] at e
        refine pn_lload_n (q := 76) dX1_sink_75 rfl rfl ?_
        refine pn_aload_n (q := 77) dX1_sink_76 rfl rfl rfl ?_
        refine pn_get (q := 80) fX1_15 dX1_sink_77 rfl rfl rfl ?_
        refine pn_iload (q := 82) dX1_sink_80 rfl rfl ?_
        first | refine pn_lald5 (q := 83) dX1_sink_82 rfl rfl rfl (by omega) (by first | decide | omega) ?_ | refine pn_lald1 (q := 83) dX1_sink_82 rfl rfl rfl (by omega) (by first | decide | omega) ?_
        refine pn_roS1 (q := 86) (c_comesFirst adK d (f o) (f1 q)) lkX1_104 dX1_sink_83 rfl rfl (pnSel_of (I := []) rfl rfl) (pnFree_none rfl) rfl (by omega) (Nat.le_of_ble_eq_true rfl) rfl ?_
        refine pn_bne (q := 89) (tgt := 92) dX1_sink_86 (by decide) rfl (fun hc86 => ?_) (fun hc86 => ?_)
        · refine pn_aload_n (q := 93) dX1_sink_92 rfl rfl rfl ?_
          refine pn_get (q := 96) fX1_15 dX1_sink_93 rfl rfl rfl ?_
          refine pn_iload (q := 98) dX1_sink_96 rfl rfl ?_
          refine pn_aload_n (q := 99) dX1_sink_98 rfl rfl rfl ?_
          refine pn_get (q := 102) fX1_15 dX1_sink_99 rfl rfl rfl ?_
          refine pn_iload (q := 104) dX1_sink_102 rfl rfl ?_
          first | refine pn_lald5 (q := 105) dX1_sink_104 rfl rfl rfl (by omega) (by first | decide | omega) ?_ | refine pn_lald1 (q := 105) dX1_sink_104 rfl rfl rfl (by omega) (by first | decide | omega) ?_
          first | refine pn_last5 (q := 106) dX1_sink_105 rfl rfl rfl (by omega) (by first | decide | omega) ?_ | refine pn_last1 (q := 106) dX1_sink_105 rfl rfl rfl (by omega) (by first | decide | omega) ?_
          refine pn_iload (q := 108) dX1_sink_106 rfl rfl ?_
          refine pn_istore (q := 110) dX1_sink_108 rfl (by decide) ?_
          refine pn_iconst (q := 111) (v := nI 2) dX1_sink_110 rfl (by decide) ?_
          refine pn_iload (q := 113) dX1_sink_111 rfl rfl ?_
          first | with_reducible refine pn_imulN (q := 114) dX1_sink_113 rfl ?_ | refine pn_imul (q := 114) dX1_sink_113 rfl ?_
          refine pn_iconst (q := 115) (v := nI 1) dX1_sink_114 rfl (by decide) ?_
          first | with_reducible refine pn_iaddN (q := 116) dX1_sink_115 rfl ?_ | refine pn_iadd (q := 116) dX1_sink_115 rfl ?_
          refine pn_istore (q := 118) dX1_sink_116 rfl (by decide) ?_
          refine pn_goto (q := 36) dX1_sink_118 (by decide) ?_
          exact ih q _ hqb.1 (by omega) (by rw [if_pos hc86] at e; exact e)
        · refine pn_goto (q := 121) dX1_sink_89 (by decide) ?_
          exact pn_take 6 (fin (by rw [if_neg (by rw [hc86]; exact Bool.false_ne_true)] at e; exact e.symm))
      refine pn_iload (q := 38) dX1_sink_36 rfl rfl ?_
      refine pn_iload_n (q := 39) dX1_sink_38 rfl rfl ?_
      first | refine pn_nge (q := 42) (tgt := 121) dX1_sink_39 (by decide) rfl (by omega) (by omega) (fun hc39 => ?_) (fun hc39 => ?_) | refine pn_icmp_ge (q := 42) (tgt := 121) dX1_sink_39 (by decide) rfl (fun hc39 => ?_) (fun hc39 => ?_)
      · exact pn_take 6 (fin (by rw [siG_s] at e; rw [if_neg (by omega)] at e; exact e.symm))
      · refine pn_iload (q := 44) dX1_sink_42 rfl rfl ?_
        refine pn_iconst (q := 45) (v := nI 1) dX1_sink_44 rfl (by decide) ?_
        first | with_reducible refine pn_iaddN (q := 46) dX1_sink_45 rfl ?_ | refine pn_iadd (q := 46) dX1_sink_45 rfl ?_
        refine pn_iload_n (q := 47) dX1_sink_46 rfl rfl ?_
        first | refine pn_nge (q := 50) (tgt := 75) dX1_sink_47 (by decide) rfl (by omega) (by omega) (fun hc47 => ?_) (fun hc47 => ?_) | refine pn_icmp_ge (q := 50) (tgt := 75) dX1_sink_47 (by decide) rfl (fun hc47 => ?_) (fun hc47 => ?_)
        · first | exact step _ (if_pos ⟨Nat.lt_of_succ_lt_succ (Nat.succ_lt_succ hc47), hc69⟩).symm (by omega) | exact step _ (if_neg (fun q => Bool.false_ne_true (Eq.trans (Eq.symm hc69) q.2))).symm (by omega) | exact step _ (if_neg (fun q => absurd q.1 (by omega))).symm (by omega)
        · refine pn_aload_n (q := 51) dX1_sink_50 rfl rfl rfl ?_
          refine pn_get (q := 54) fX1_15 dX1_sink_51 rfl rfl rfl ?_
          refine pn_iload (q := 56) dX1_sink_54 rfl rfl ?_
          first | refine pn_lald5 (q := 57) dX1_sink_56 rfl rfl rfl (by omega) (by first | decide | omega) ?_ | refine pn_lald1 (q := 57) dX1_sink_56 rfl rfl rfl (by omega) (by first | decide | omega) ?_
          refine pn_aload_n (q := 58) dX1_sink_57 rfl rfl rfl ?_
          refine pn_get (q := 61) fX1_15 dX1_sink_58 rfl rfl rfl ?_
          refine pn_iload (q := 63) dX1_sink_61 rfl rfl ?_
          refine pn_iconst (q := 64) (v := nI 1) dX1_sink_63 rfl (by decide) ?_
          first | with_reducible refine pn_iaddN (q := 65) dX1_sink_64 rfl ?_ | refine pn_iadd (q := 65) dX1_sink_64 rfl ?_
          first | refine pn_lald5 (q := 66) dX1_sink_65 rfl rfl rfl (by omega) (by first | decide | omega) ?_ | refine pn_lald1 (q := 66) dX1_sink_65 rfl rfl rfl (by omega) (by first | decide | omega) ?_
          refine pn_roS1 (q := 69) (c_comesFirst adK d (f1 (2 * p + 1)) (f1 (2 * p + 2))) lkX1_104 dX1_sink_66 rfl rfl (pnSel_of (I := []) rfl rfl) (pnFree_none rfl) rfl (by omega) (Nat.le_of_ble_eq_true rfl) rfl ?_
          refine pn_beq (q := 72) (tgt := 75) dX1_sink_69 (by decide) rfl (fun hc69 => ?_) (fun hc69 => ?_)
          · first | exact step _ (if_pos ⟨Nat.lt_of_succ_lt_succ (Nat.succ_lt_succ hc47), hc69⟩).symm (by omega) | exact step _ (if_neg (fun q => Bool.false_ne_true (Eq.trans (Eq.symm hc69) q.2))).symm (by omega) | exact step _ (if_neg (fun q => absurd q.1 (by omega))).symm (by omega)
          · first | refine pn_iinc1 (q := 75) dX1_sink_72 rfl rfl (by decide) ?_ | refine pn_iinc (q := 75) (mm := 1) dX1_sink_72 rfl rfl (by decide) (by decide) ?_
            first | exact step _ (if_pos ⟨Nat.lt_of_succ_lt_succ (Nat.succ_lt_succ hc47), hc69⟩).symm (by omega) | exact step _ (if_neg (fun q => Bool.false_ne_true (Eq.trans (Eq.symm hc69) q.2))).symm (by omega) | exact step _ (if_neg (fun q => absurd q.1 (by omega))).symm (by omega)
  refine pn_iload_n (q := 1) dX1_sink_0 rfl rfl ?_
  first | refine pn_zlt (q := 4) (tgt := 18) dX1_sink_1 (by decide) rfl (by omega) (fun hc1 => ?_) (fun hc1 => ?_) | refine pn_if_lt (q := 4) (tgt := 18) dX1_sink_1 (by decide) rfl (fun hc1 => ?_) (fun hc1 => ?_)
  · exact hc1.elim
  · refine pn_iload_n (q := 5) dX1_sink_4 rfl rfl ?_
    refine pn_iload_n (q := 6) dX1_sink_5 rfl rfl ?_
    first | refine pn_nge (q := 9) (tgt := 18) dX1_sink_6 (by decide) rfl (by omega) (by omega) (fun hc6 => ?_) (fun hc6 => ?_) | refine pn_icmp_ge (q := 9) (tgt := 18) dX1_sink_6 (by decide) rfl (fun hc6 => ?_) (fun hc6 => ?_)
    · omega
    · refine pn_iload_n (q := 10) dX1_sink_9 rfl rfl ?_
      refine pn_aload_n (q := 11) dX1_sink_10 rfl rfl rfl ?_
      refine pn_get (q := 14) fX1_15 dX1_sink_11 rfl rfl rfl ?_
      refine pn_alen (q := 15) dX1_sink_14 rfl rfl (by decide) ?_
      first | refine pn_nle (q := 18) (tgt := 19) dX1_sink_15 (by decide) rfl (by omega) (by omega) (fun hc15 => ?_) (fun hc15 => ?_) | refine pn_icmp_le (q := 18) (tgt := 19) dX1_sink_15 (by decide) rfl (fun hc15 => ?_) (fun hc15 => ?_)
      · refine pn_aload_n (q := 20) dX1_sink_19 rfl rfl rfl ?_
        refine pn_get (q := 23) fX1_15 dX1_sink_20 rfl rfl rfl ?_
        refine pn_iload_n (q := 24) dX1_sink_23 rfl rfl ?_
        first | refine pn_lald5 (q := 25) dX1_sink_24 rfl rfl rfl (by omega) (by first | decide | omega) ?_ | refine pn_lald1 (q := 25) dX1_sink_24 rfl rfl rfl (by omega) (by first | decide | omega) ?_
        refine pn_lstore_n (q := 26) dX1_sink_25 rfl (by decide) ?_
        refine pn_iload_n (q := 27) dX1_sink_26 rfl rfl ?_
        refine pn_istore (q := 29) dX1_sink_27 rfl (by decide) ?_
        refine pn_iconst (q := 30) (v := nI 2) dX1_sink_29 rfl (by decide) ?_
        refine pn_iload_n (q := 31) dX1_sink_30 rfl rfl ?_
        first | with_reducible refine pn_imulN (q := 32) dX1_sink_31 rfl ?_ | refine pn_imul (q := 32) dX1_sink_31 rfl ?_
        refine pn_iconst (q := 33) (v := nI 1) dX1_sink_32 rfl (by decide) ?_
        first | with_reducible refine pn_iaddN (q := 34) dX1_sink_33 rfl ?_ | refine pn_iadd (q := 34) dX1_sink_33 rfl ?_
        refine pn_istore (q := 36) dX1_sink_34 rfl (by decide) ?_
        exact loop b o f ho (by omega) (by rw [updL_id])
      · omega
