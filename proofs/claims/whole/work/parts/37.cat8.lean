def skA (f : Nat → Int64) (l : Nat) : Nat → Nat → Nat
  | 0, a => a
  | z + 1, a => if llN (f a) < l then skA f l z (a + 1) else a
theorem skA_le (f : Nat → Int64) (l : Nat) : ∀ z a, skA f l z a ≤ a + z ∧ a ≤ skA f l z a
  | 0, a => ⟨Nat.le_refl _, Nat.le_refl _⟩
  | z + 1, a => by
    have := skA_le f l z (a + 1)
    unfold skA
    split <;> omega
/-- where the rows begin whose least line is l or a higher one -/
def mkN (f : Nat → Int64) (c : Nat) : Nat → Nat
  | 0 => skA f 0 c 0
  | l + 1 => skA f (l + 1) (c - mkN f c l) (mkN f c l)
theorem mkN_le (f : Nat → Int64) (c : Nat) : ∀ l, mkN f c l ≤ c
  | 0 => by have := skA_le f 0 c 0; unfold mkN; omega
  | l + 1 => by
    have h := mkN_le f c l
    have := skA_le f (l + 1) (c - mkN f c l) (mkN f c l)
    unfold mkN
    omega
def mkS (f : Nat → Int64) (c : Nat) (stt : Nat → Int32) (l : Nat) : Nat → Int32 := fun j => if j < l then nI (mkN f c j) else stt j
theorem mkS_up (f : Nat → Int64) (c : Nat) (stt : Nat → Int32) (l : Nat) : upd (mkS f c stt l) l (nI (mkN f c l)) = mkS f c stt (l + 1) := by
  funext j
  unfold upd mkS
  by_cases e : j = l
  · subst e
    simp
  · by_cases e2 : j < l
    · simp [e, e2, Nat.lt_succ_of_lt e2]
    · simp [e, e2]
      intro h
      omega
set_option maxRecDepth 100000 in
theorem c_markStarts (adK : Nat → Nat) (d : Nat) (c R : Nat) (f : Nat → Int64) (stt : Nat → Int32) (fd : Int64) (n sh k : Nat) (g : Int64) (pl : Nat) (ch : Nat → Int32) (hc : c ≤ R) (hR : R ≤ 60000) : pnCt mX1_markStarts adK (d + 2) 0 0 [.ref 0] (hCat c R f stt fd n sh k g pl ch) (pnIs (.inl none) (hCat c R f (fun j => nI (mkN f c j)) fd n sh k g pl ch)) := by
  refine pnCt_of (by decide) kX1_markStarts (Nat.le_of_ble_eq_true rfl) rfl (hCat_cl _ _ _ _ _ _ _ _ _ _ _) (pnCS_b rfl) ?_
  have inner : ∀ (l T : Nat) (st1 : Nat → Int32), l < 56 → pnWP mX1_markStarts adK (d + 2) (pnIs (.inl none) (hCat c R f (fun j => nI (mkN f c j)) fd n sh k g pl ch)) 0 0 (hCat c R f st1 fd n sh k g pl ch) [some (.ref 0), some (.int (nI T)), some (.int (nI l))] [] 49 → ∀ (z a : Nat), a + z = c → skA f l z a = T → pnWP mX1_markStarts adK (d + 2) (pnIs (.inl none) (hCat c R f (fun j => nI (mkN f c j)) fd n sh k g pl ch)) 0 0 (hCat c R f st1 fd n sh k g pl ch) [some (.ref 0), some (.int (nI a)), some (.int (nI l))] [] 13 := by
    intro l T st1 hl kk z
    induction z with
    | zero =>
      intro a ha e
      have e : a = T := e
      subst e
      refine pn_iload_n (q := 14) dX1_markStarts_13 rfl rfl ?_
      refine pn_aload_n (q := 15) dX1_markStarts_14 rfl rfl rfl ?_
      refine pn_get (q := 18) fX1_9 dX1_markStarts_15 rfl rfl rfl ?_
      first | refine pn_nge (q := 21) (tgt := 49) dX1_markStarts_18 (by decide) rfl (by omega) (by omega) (fun hc18 => ?_) (fun hc18 => ?_) | refine pn_icmp_ge (q := 21) (tgt := 49) dX1_markStarts_18 (by decide) rfl (fun hc18 => ?_) (fun hc18 => ?_)
      · exact kk
      · omega
    | succ z ih =>
      intro a ha e
      have e2 : skA f l (z + 1) a = if llN (f a) < l then skA f l z (a + 1) else a := rfl
      have hll : llN (f a) < 128 := (bcI_eq _).2
      refine pn_iload_n (q := 14) dX1_markStarts_13 rfl rfl ?_
      refine pn_aload_n (q := 15) dX1_markStarts_14 rfl rfl rfl ?_
      refine pn_get (q := 18) fX1_9 dX1_markStarts_15 rfl rfl rfl ?_
      first | refine pn_nge (q := 21) (tgt := 49) dX1_markStarts_18 (by decide) rfl (by omega) (by omega) (fun hc18 => ?_) (fun hc18 => ?_) | refine pn_icmp_ge (q := 21) (tgt := 49) dX1_markStarts_18 (by decide) rfl (fun hc18 => ?_) (fun hc18 => ?_)
      · omega
      · refine pn_iload_n (q := 22) dX1_markStarts_21 rfl rfl ?_
        refine pn_aload_n (q := 23) dX1_markStarts_22 rfl rfl rfl ?_
        refine pn_get (q := 26) fX1_15 dX1_markStarts_23 rfl rfl rfl ?_
        refine pn_alen (q := 27) dX1_markStarts_26 rfl rfl (by decide) ?_
        first | refine pn_nge (q := 30) (tgt := 49) dX1_markStarts_27 (by decide) rfl (by omega) (by omega) (fun hc27 => ?_) (fun hc27 => ?_) | refine pn_icmp_ge (q := 30) (tgt := 49) dX1_markStarts_27 (by decide) rfl (fun hc27 => ?_) (fun hc27 => ?_)
        · omega
        · refine pn_aload_n (q := 31) dX1_markStarts_30 rfl rfl rfl ?_
          refine pn_get (q := 34) fX1_15 dX1_markStarts_31 rfl rfl rfl ?_
          refine pn_iload_n (q := 35) dX1_markStarts_34 rfl rfl ?_
          first | refine pn_lald5 (q := 36) dX1_markStarts_35 rfl rfl rfl (by omega) (by first | decide | omega) ?_ | refine pn_lald1 (q := 36) dX1_markStarts_35 rfl rfl rfl (by omega) (by first | decide | omega) ?_
          refine pn_roSN1 (q := 39) (c_leastLine adK d (f a)) lkX1_108 dX1_markStarts_36 rfl rfl (pnSel_of (I := []) rfl rfl) (pnFree_none rfl) rfl (by omega) (Nat.le_of_ble_eq_true rfl) rfl ?_
          refine pn_iload_n (q := 40) dX1_markStarts_39 rfl rfl ?_
          first | refine pn_nge (q := 43) (tgt := 49) dX1_markStarts_40 (by decide) rfl (by omega) (by omega) (fun hc40 => ?_) (fun hc40 => ?_) | refine pn_icmp_ge (q := 43) (tgt := 49) dX1_markStarts_40 (by decide) rfl (fun hc40 => ?_) (fun hc40 => ?_)
          · rw [e2, if_neg (by omega)] at e; rw [e]; exact kk
          · first | refine pn_iinc1 (q := 46) dX1_markStarts_43 rfl rfl (by decide) ?_ | refine pn_iinc (q := 46) (mm := 1) dX1_markStarts_43 rfl rfl (by decide) (by decide) ?_
            refine pn_goto (q := 13) dX1_markStarts_46 (by decide) ?_
            exact ih (a + 1) (by omega) (by rw [← e, e2, if_pos (by omega)])
  have outer : ∀ (z l a : Nat), l + z = 56 → a ≤ c → mkN f c l = skA f l (c - a) a → pnWP mX1_markStarts adK (d + 2) (pnIs (.inl none) (hCat c R f (fun j => nI (mkN f c j)) fd n sh k g pl ch)) 0 0 (hCat c R f (mkS f c stt l) fd n sh k g pl ch) [some (.ref 0), some (.int (nI a)), some (.int (nI l))] [] 4 := by
    intro z
    induction z with
    | zero =>
      intro l a hz ha e
      have hl : l = 56 := by omega
      subst hl
      refine pn_exti (a := 2) (n := 56) (f := mkS f c stt 56) (fun j => nI (mkN f c j)) rfl (fun j hj => if_pos hj) ?_
      refine pn_iload_n (q := 5) dX1_markStarts_4 rfl rfl ?_
      refine pn_aload_n (q := 6) dX1_markStarts_5 rfl rfl rfl ?_
      refine pn_get (q := 9) fX1_19 dX1_markStarts_6 rfl rfl rfl ?_
      refine pn_alen (q := 10) dX1_markStarts_9 rfl rfl (by decide) ?_
      first | refine pn_nge (q := 13) (tgt := 62) dX1_markStarts_10 (by decide) rfl (by omega) (by omega) (fun hc10 => ?_) (fun hc10 => ?_) | refine pn_icmp_ge (q := 13) (tgt := 62) dX1_markStarts_10 (by decide) rfl (fun hc10 => ?_) (fun hc10 => ?_)
      · refine pn_vret dX1_markStarts_62 rfl ?_
        exact ⟨rfl, rfl⟩
      · omega
    | succ z ih =>
      intro l a hz ha e
      have k49 : pnWP mX1_markStarts adK (d + 2) (pnIs (.inl none) (hCat c R f (fun j => nI (mkN f c j)) fd n sh k g pl ch)) 0 0 (hCat c R f (mkS f c stt l) fd n sh k g pl ch) [some (.ref 0), some (.int (nI (mkN f c l))), some (.int (nI l))] [] 49 := by
        refine pn_aload_n (q := 50) dX1_markStarts_49 rfl rfl rfl ?_
        refine pn_get (q := 53) fX1_19 dX1_markStarts_50 rfl rfl rfl ?_
        refine pn_iload_n (q := 54) dX1_markStarts_53 rfl rfl ?_
        refine pn_iload_n (q := 55) dX1_markStarts_54 rfl rfl ?_
        refine pn_iast (q := 56) dX1_markStarts_55 rfl rfl rfl (by omega) (by decide) ?_; refine pn_eq (h' := hCat c R f (mkS f c stt (l + 1)) fd n sh k g pl ch) (st' := _) (by rw [← mkS_up]; rfl) rfl ?_
        first | refine pn_iinc1 (q := 59) dX1_markStarts_56 rfl rfl (by decide) ?_ | refine pn_iinc (q := 59) (mm := 1) dX1_markStarts_56 rfl rfl (by decide) (by decide) ?_
        refine pn_goto (q := 4) dX1_markStarts_59 (by decide) ?_
        exact ih (l + 1) (mkN f c l) (by omega) (mkN_le _ _ _) rfl
      refine pn_iload_n (q := 5) dX1_markStarts_4 rfl rfl ?_
      refine pn_aload_n (q := 6) dX1_markStarts_5 rfl rfl rfl ?_
      refine pn_get (q := 9) fX1_19 dX1_markStarts_6 rfl rfl rfl ?_
      refine pn_alen (q := 10) dX1_markStarts_9 rfl rfl (by decide) ?_
      first | refine pn_nge (q := 13) (tgt := 62) dX1_markStarts_10 (by decide) rfl (by omega) (by omega) (fun hc10 => ?_) (fun hc10 => ?_) | refine pn_icmp_ge (q := 13) (tgt := 62) dX1_markStarts_10 (by decide) rfl (fun hc10 => ?_) (fun hc10 => ?_)
      · omega
      · exact inner l (mkN f c l) _ (by omega) k49 (c - a) a (by omega) e.symm
  refine pn_iconst (q := 1) (v := nI 0) dX1_markStarts_0 rfl (by decide) ?_
  refine pn_istore_n (q := 2) dX1_markStarts_1 rfl (by decide) ?_
  refine pn_iconst (q := 3) (v := nI 0) dX1_markStarts_2 rfl (by decide) ?_
  refine pn_istore_n (q := 4) dX1_markStarts_3 rfl (by decide) ?_
  exact outer 56 0 0 (by omega) (by omega) rfl
