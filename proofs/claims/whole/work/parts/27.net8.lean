set_option maxRecDepth 100000 in
theorem c_baseNode (adK : Nat → Nat) (d : Nat) (n : Nat) (g : Int64) (sh k pc bc : Nat) (ps : Nat → Int64) (bN : Nat → Nat) (sf : Nat → Int32) (b i : Nat) (hb : b < 4) (hi : i < 5) : pnCt mX2_baseNode adK d 0 0 [.ref 0, .int (nI b), .int (nI i)] (hNet n g sh k pc bc ps (fun j => nI (bN j)) sf) (pnIs (.inl (some (.int (nI (bN (b * 5 + i)))))) (hNet n g sh k pc bc ps (fun j => nI (bN j)) sf)) := by
  refine pnCt_of (by decide) kX2_baseNode (Nat.le_of_ble_eq_true rfl) rfl (hNet_cl _ _ _ _ _ _ _ _ _) (pnCS_b rfl) ?_
  refine pn_iload_n (q := 1) dX2_baseNode_0 rfl rfl ?_
  refine pn_iconst (q := 2) (v := nI 5) dX2_baseNode_1 rfl (by decide) ?_
  first | with_reducible refine pn_imulN (q := 3) dX2_baseNode_2 rfl ?_ | refine pn_imul (q := 3) dX2_baseNode_2 rfl ?_
  refine pn_iload_n (q := 4) dX2_baseNode_3 rfl rfl ?_
  first | with_reducible refine pn_iaddN (q := 5) dX2_baseNode_4 rfl ?_ | refine pn_iadd (q := 5) dX2_baseNode_4 rfl ?_
  refine pn_istore_n (q := 6) dX2_baseNode_5 rfl (by decide) ?_
  refine pn_iload_n (q := 7) dX2_baseNode_6 rfl rfl ?_
  first | refine pn_zlt (q := 10) (tgt := 28) dX2_baseNode_7 (by decide) rfl (by omega) (fun hc7 => ?_) (fun hc7 => ?_) | refine pn_if_lt (q := 10) (tgt := 28) dX2_baseNode_7 (by decide) rfl (fun hc7 => ?_) (fun hc7 => ?_)
  · exact hc7.elim
  · refine pn_iload_n (q := 11) dX2_baseNode_10 rfl rfl ?_
    refine pn_aload_n (q := 12) dX2_baseNode_11 rfl rfl rfl ?_
    refine pn_get (q := 15) fX2_35 dX2_baseNode_12 rfl rfl rfl ?_
    refine pn_alen (q := 16) dX2_baseNode_15 rfl rfl (by decide) ?_
    first | refine pn_nge (q := 19) (tgt := 28) dX2_baseNode_16 (by decide) rfl (by omega) (by omega) (fun hc16 => ?_) (fun hc16 => ?_) | refine pn_icmp_ge (q := 19) (tgt := 28) dX2_baseNode_16 (by decide) rfl (fun hc16 => ?_) (fun hc16 => ?_)
    · omega
    · refine pn_aload_n (q := 20) dX2_baseNode_19 rfl rfl rfl ?_
      refine pn_get (q := 23) fX2_35 dX2_baseNode_20 rfl rfl rfl ?_
      refine pn_iload_n (q := 24) dX2_baseNode_23 rfl rfl ?_
      refine pn_iald (q := 25) dX2_baseNode_24 rfl rfl rfl (by omega) (by first | decide | omega) ?_
      refine pn_goto (q := 29) dX2_baseNode_25 (by decide) ?_
      refine pn_iret dX2_baseNode_29 rfl ?_
      exact ⟨rfl, rfl⟩
/-- the difference round m nodes -/
def ahN (a b m : Nat) : Nat := (((a : Int) - b) % (m : Int)).toNat
def dfN (a b m : Nat) : Nat := min (ahN a b m) ((m - ahN a b m) % m)
theorem ahN_lt (a b m : Nat) (hm : 0 < m) : ahN a b m < m := by
  unfold ahN
  have h1 := Int.emod_nonneg ((a : Int) - b) (show (m : Int) ≠ 0 by omega)
  have h2 := Int.emod_lt_of_pos ((a : Int) - b) (show (0 : Int) < m by omega)
  omega
set_option maxRecDepth 100000 in
theorem c_difference (adK : Nat → Nat) (d : Nat) (n : Nat) (g : Int64) (sh k pc bc : Nat) (ps : Nat → Int64) (bN : Nat → Nat) (sf : Nat → Int32) (a b m : Nat) (ha : a ≤ 1000) (hb : b ≤ 1000) (hm : 0 < m) (hm2 : m ≤ 1000) : pnCt mX2_difference adK (d + 1) 0 0 [.ref 0, .int (nI a), .int (nI b), .int (nI m)] (hNet n g sh k pc bc ps (fun j => nI (bN j)) sf) (pnIs (.inl (some (.int (nI (dfN a b m))))) (hNet n g sh k pc bc ps (fun j => nI (bN j)) sf)) := by
  refine pnCt_of (by decide) kX2_difference (Nat.le_of_ble_eq_true rfl) rfl (hNet_cl _ _ _ _ _ _ _ _ _) (pnCS_b rfl) ?_
  have h1 := ahN_lt a b m hm
  have e1 : fmN (nI a - nI b) m = ahN a b m := by
    unfold fmN ahN
    rw [pk_sub_toInt (by omega) (by omega)]
  have e2 : fmN (nI (m - ahN a b m)) m = (m - ahN a b m) % m := by
    unfold fmN
    rw [nI_toInt (by omega)]
    omega
  have h3 : (m - ahN a b m) % m < m := Nat.mod_lt _ hm
  refine pn_iload_n (q := 1) dX2_difference_0 rfl rfl ?_
  refine pn_iload_n (q := 2) dX2_difference_1 rfl rfl ?_
  refine pn_isub (q := 3) dX2_difference_2 rfl ?_
  refine pn_iload_n (q := 4) dX2_difference_3 rfl rfl ?_
  refine pn_roS1 (q := 7) ((by have := c_floorMod adK d (nI a - nI b) m hm (by omega); rw [e1] at this; exact this)) lkX2_95 dX2_difference_4 rfl rfl (pnSel_of (I := []) rfl rfl) (pnFree_none rfl) rfl (by omega) (Nat.le_of_ble_eq_true rfl) rfl ?_
  refine pn_istore (q := 9) dX2_difference_7 rfl (by decide) ?_
  refine pn_iload (q := 11) dX2_difference_9 rfl rfl ?_
  refine pn_iload_n (q := 12) dX2_difference_11 rfl rfl ?_
  refine pn_iload (q := 14) dX2_difference_12 rfl rfl ?_
  first | with_reducible refine pn_isubN (q := 15) dX2_difference_14 rfl (by omega) ?_ | refine pn_isub (q := 15) dX2_difference_14 rfl ?_
  refine pn_iload_n (q := 16) dX2_difference_15 rfl rfl ?_
  refine pn_roS1 (q := 19) ((by have := c_floorMod adK d (nI (m - ahN a b m)) m hm (by omega); rw [e2] at this; exact this)) lkX2_95 dX2_difference_16 rfl rfl (pnSel_of (I := []) rfl rfl) (pnFree_none rfl) rfl (by omega) (Nat.le_of_ble_eq_true rfl) rfl ?_
  refine pn_roS1 (q := 22) (c_min adK d (ahN a b m) ((m - ahN a b m) % m) (by omega) (by omega)) lkX2_52 dX2_difference_19 rfl rfl (pnSel_of (I := []) rfl rfl) (pnFree_none rfl) rfl (by omega) (Nat.le_of_ble_eq_true rfl) rfl ?_
  refine pn_iret dX2_difference_22 rfl ?_
  exact ⟨rfl, rfl⟩
/-- how many of the first i lines of base b have difference q round m -/
def cvI (sh k : Nat) (bN : Nat → Nat) (m q b : Nat) : Nat → Nat
  | 0 => 0
  | i + 1 => if dfN (bN (b * 5 + lsN sh i)) (bN (b * 5 + leN sh k i)) m = q then cvI sh k bN m q b i + 1 else cvI sh k bN m q b i
def cvN (sh k : Nat) (bN : Nat → Nat) (m q : Nat) : Nat → Nat
  | 0 => 0
  | b + 1 => cvN sh k bN m q b + cvI sh k bN m q b k
theorem cvI_le (sh k : Nat) (bN : Nat → Nat) (m q b : Nat) : ∀ i, cvI sh k bN m q b i ≤ i
  | 0 => Nat.le_refl _
  | i + 1 => by have := cvI_le sh k bN m q b i; unfold cvI; split <;> omega
theorem cvN_le (sh k : Nat) (bN : Nat → Nat) (m q : Nat) : ∀ b, cvN sh k bN m q b ≤ b * k
  | 0 => Nat.zero_le _
  | b + 1 => by have := cvN_le sh k bN m q b; have := cvI_le sh k bN m q b k; unfold cvN; rw [Nat.succ_mul]; omega
set_option maxRecDepth 100000 in
theorem c_coverOf (adK : Nat → Nat) (d : Nat) (n : Nat) (g : Int64) (sh k pc bc : Nat) (ps : Nat → Int64) (bN : Nat → Nat) (sf : Nat → Int32) (m q : Nat) (hS : shOk sh k) (hbc : bc ≤ 4) (hbN : ∀ j, bN j ≤ 30) (hm : 0 < m) (hm2 : m ≤ 31) (hq : q ≤ 1000) : pnCt mX2_coverOf adK (d + 2) 0 0 [.ref 0, .int (nI m), .int (nI q)] (hNet n g sh k pc bc ps (fun j => nI (bN j)) sf) (pnIs (.inl (some (.int (nI (cvN sh k bN m q bc))))) (hNet n g sh k pc bc ps (fun j => nI (bN j)) sf)) := by
  refine pnCt_of (by decide) kX2_coverOf (Nat.le_of_ble_eq_true rfl) rfl (hNet_cl _ _ _ _ _ _ _ _ _) (pnCS_b rfl) ?_
  obtain ⟨b1, b2, b3, b4, b5, b6⟩ := shOk_b hS
  have hle : ∀ b, b ≤ 4 → cvN sh k bN m q b ≤ 20 := fun b hb => by
    have h1 := cvN_le sh k bN m q b
    have h2 : b * k ≤ 4 * 5 := Nat.mul_le_mul hb b3
    omega
  have inner : ∀ b, b < bc → (pnWP mX2_coverOf adK (d + 2) (pnIs (.inl (some (.int (nI (cvN sh k bN m q bc))))) (hNet n g sh k pc bc ps (fun j => nI (bN j)) sf)) 0 0 (hNet n g sh k pc bc ps (fun j => nI (bN j)) sf) [some (.ref 0), some (.int (nI m)), some (.int (nI q)), some (.int (nI (cvN sh k bN m q (b + 1)))), some (.int (nI b))] [] 83) →
      ∀ (z i : Nat), i + z = k → pnWP mX2_coverOf adK (d + 2) (pnIs (.inl (some (.int (nI (cvN sh k bN m q bc))))) (hNet n g sh k pc bc ps (fun j => nI (bN j)) sf)) 0 0 (hNet n g sh k pc bc ps (fun j => nI (bN j)) sf) [some (.ref 0), some (.int (nI m)), some (.int (nI q)), some (.int (nI (cvN sh k bN m q b + cvI sh k bN m q b i))), some (.int (nI b)), some (.int (nI i))] [] 24 := by
    intro b hb kk z
    have hcb := hle b (by omega)
    induction z with
    | zero =>
      intro i hi
      have hik : i = k := by omega
      subst hik
      refine pn_iload (q := 26) dX2_coverOf_24 rfl rfl ?_
      refine pn_aload_n (q := 27) dX2_coverOf_26 rfl rfl rfl ?_
      refine pn_get (q := 30) fX2_22 dX2_coverOf_27 rfl rfl rfl ?_
      first | refine pn_nge (q := 33) (tgt := 83) dX2_coverOf_30 (by decide) rfl (by omega) (by omega) (fun hc30 => ?_) (fun hc30 => ?_) | refine pn_icmp_ge (q := 33) (tgt := 83) dX2_coverOf_30 (by decide) rfl (fun hc30 => ?_) (fun hc30 => ?_)
      · exact pn_take 5 kk
      · omega
    | succ z ih =>
      intro i hi
      obtain ⟨q1, q2, q3⟩ := b6 i (by omega)
      have hci := cvI_le sh k bN m q b i
      have hdf : dfN (bN (b * 5 + lsN sh i)) (bN (b * 5 + leN sh k i)) m < m := Nat.lt_of_le_of_lt (Nat.min_le_left _ _) (ahN_lt _ _ _ hm)
      have e2 : cvI sh k bN m q b (i + 1) = if dfN (bN (b * 5 + lsN sh i)) (bN (b * 5 + leN sh k i)) m = q then cvI sh k bN m q b i + 1 else cvI sh k bN m q b i := rfl
      have k9 := ih (i + 1) (by omega)
      have n1 := hbN (b * 5 + lsN sh i)
      have n2 := hbN (b * 5 + leN sh k i)
      refine pn_iload (q := 26) dX2_coverOf_24 rfl rfl ?_
      refine pn_aload_n (q := 27) dX2_coverOf_26 rfl rfl rfl ?_
      refine pn_get (q := 30) fX2_22 dX2_coverOf_27 rfl rfl rfl ?_
      first | refine pn_nge (q := 33) (tgt := 83) dX2_coverOf_30 (by decide) rfl (by omega) (by omega) (fun hc30 => ?_) (fun hc30 => ?_) | refine pn_icmp_ge (q := 33) (tgt := 83) dX2_coverOf_30 (by decide) rfl (fun hc30 => ?_) (fun hc30 => ?_)
      · omega
      · refine pn_aload_n (q := 34) dX2_coverOf_33 rfl rfl rfl ?_
        refine pn_iload (q := 36) dX2_coverOf_34 rfl rfl ?_
        refine pn_aload_n (q := 37) dX2_coverOf_36 rfl rfl rfl ?_
        refine pn_iload (q := 39) dX2_coverOf_37 rfl rfl ?_
        refine pn_roV1 (q := 42) (c_lineStart adK d n g sh k pc bc ps (fun j => nI (bN j)) sf i b1) lkX2_88 dX2_coverOf_39 rfl rfl (pnSel_of (I := [0, 1, 2, 3]) rfl rfl) (pnFree_none rfl) rfl rfl rfl (by omega) (Nat.le_of_ble_eq_true rfl) rfl ?_
        refine pn_roV1 (q := 45) (c_baseNode adK d n g sh k pc bc ps bN sf b (lsN sh i) (by omega) (by omega)) lkX2_98 dX2_coverOf_42 rfl rfl (pnSel_of (I := [0, 1, 2, 3]) rfl rfl) (pnFree_none rfl) rfl rfl rfl (by omega) (Nat.le_of_ble_eq_true rfl) rfl ?_
        refine pn_istore (q := 47) dX2_coverOf_45 rfl (by decide) ?_
        refine pn_aload_n (q := 48) dX2_coverOf_47 rfl rfl rfl ?_
        refine pn_iload (q := 50) dX2_coverOf_48 rfl rfl ?_
        refine pn_aload_n (q := 51) dX2_coverOf_50 rfl rfl rfl ?_
        refine pn_iload (q := 53) dX2_coverOf_51 rfl rfl ?_
        refine pn_roV1 (q := 56) (c_lineEnd adK d n g sh k pc bc ps (fun j => nI (bN j)) sf i b1 (by omega) (by omega)) lkX2_92 dX2_coverOf_53 rfl rfl (pnSel_of (I := [0, 1, 2, 3]) rfl rfl) (pnFree_none rfl) rfl rfl rfl (by omega) (Nat.le_of_ble_eq_true rfl) rfl ?_
        refine pn_roV1 (q := 59) (c_baseNode adK d n g sh k pc bc ps bN sf b (leN sh k i) (by omega) (by omega)) lkX2_98 dX2_coverOf_56 rfl rfl (pnSel_of (I := [0, 1, 2, 3]) rfl rfl) (pnFree_none rfl) rfl rfl rfl (by omega) (Nat.le_of_ble_eq_true rfl) rfl ?_
        refine pn_istore (q := 61) dX2_coverOf_59 rfl (by decide) ?_
        refine pn_aload_n (q := 62) dX2_coverOf_61 rfl rfl rfl ?_
        refine pn_iload (q := 64) dX2_coverOf_62 rfl rfl ?_
        refine pn_iload (q := 66) dX2_coverOf_64 rfl rfl ?_
        refine pn_iload_n (q := 67) dX2_coverOf_66 rfl rfl ?_
        refine pn_roV1 (q := 70) (c_difference adK d n g sh k pc bc ps bN sf (bN (b * 5 + lsN sh i)) (bN (b * 5 + leN sh k i)) m (by omega) (by omega) hm (by omega)) lkX2_101 dX2_coverOf_67 rfl rfl (pnSel_of (I := [0, 1, 2, 3]) rfl rfl) (pnFree_none rfl) rfl rfl rfl (by omega) (Nat.le_of_ble_eq_true rfl) rfl ?_
        refine pn_iload_n (q := 71) dX2_coverOf_70 rfl rfl ?_
        first | refine pn_nne (q := 74) (tgt := 77) dX2_coverOf_71 (by decide) rfl (by omega) (by omega) (fun hc71 => ?_) (fun hc71 => ?_) | refine pn_icmp_ne (q := 74) (tgt := 77) dX2_coverOf_71 (by decide) rfl (fun hc71 => ?_) (fun hc71 => ?_)
        · first | refine pn_iinc1 (q := 80) dX2_coverOf_77 rfl rfl (by decide) ?_ | refine pn_iinc (q := 80) (mm := 1) dX2_coverOf_77 rfl rfl (by decide) (by decide) ?_
          refine pn_goto (q := 24) dX2_coverOf_80 (by decide) ?_
          (first | (rw [e2, if_pos ‹_›] at k9; exact pn_take 6 k9) | (rw [e2, if_neg ‹_›] at k9; exact pn_take 6 k9))
        · first | refine pn_iinc1 (q := 77) dX2_coverOf_74 rfl rfl (by decide) ?_ | refine pn_iinc (q := 77) (mm := 1) dX2_coverOf_74 rfl rfl (by decide) (by decide) ?_
          first | refine pn_iinc1 (q := 80) dX2_coverOf_77 rfl rfl (by decide) ?_ | refine pn_iinc (q := 80) (mm := 1) dX2_coverOf_77 rfl rfl (by decide) (by decide) ?_
          refine pn_goto (q := 24) dX2_coverOf_80 (by decide) ?_
          (first | (rw [e2, if_pos ‹_›] at k9; exact pn_take 6 k9) | (rw [e2, if_neg ‹_›] at k9; exact pn_take 6 k9))
  have outer : ∀ (z b : Nat), b + z = bc → pnWP mX2_coverOf adK (d + 2) (pnIs (.inl (some (.int (nI (cvN sh k bN m q bc))))) (hNet n g sh k pc bc ps (fun j => nI (bN j)) sf)) 0 0 (hNet n g sh k pc bc ps (fun j => nI (bN j)) sf) [some (.ref 0), some (.int (nI m)), some (.int (nI q)), some (.int (nI (cvN sh k bN m q b))), some (.int (nI b))] [] 12 := by
    intro z
    induction z with
    | zero =>
      intro b hb
      refine pn_iload (q := 14) dX2_coverOf_12 rfl rfl ?_
      refine pn_aload_n (q := 15) dX2_coverOf_14 rfl rfl rfl ?_
      refine pn_get (q := 18) fX2_28 dX2_coverOf_15 rfl rfl rfl ?_
      first | refine pn_nge (q := 21) (tgt := 89) dX2_coverOf_18 (by decide) rfl (by omega) (by omega) (fun hc18 => ?_) (fun hc18 => ?_) | refine pn_icmp_ge (q := 21) (tgt := 89) dX2_coverOf_18 (by decide) rfl (fun hc18 => ?_) (fun hc18 => ?_)
      · refine pn_iload_n (q := 90) dX2_coverOf_89 rfl rfl ?_
        refine pn_iret dX2_coverOf_90 rfl ?_
        exact ⟨by rw [show b = bc by omega], rfl⟩
      · omega
    | succ z ih =>
      intro b hb
      have k83 : pnWP mX2_coverOf adK (d + 2) (pnIs (.inl (some (.int (nI (cvN sh k bN m q bc))))) (hNet n g sh k pc bc ps (fun j => nI (bN j)) sf)) 0 0 (hNet n g sh k pc bc ps (fun j => nI (bN j)) sf) [some (.ref 0), some (.int (nI m)), some (.int (nI q)), some (.int (nI (cvN sh k bN m q (b + 1)))), some (.int (nI b))] [] 83 := by
        first | refine pn_iinc1 (q := 86) dX2_coverOf_83 rfl rfl (by decide) ?_ | refine pn_iinc (q := 86) (mm := 1) dX2_coverOf_83 rfl rfl (by decide) (by decide) ?_
        refine pn_goto (q := 12) dX2_coverOf_86 (by decide) ?_
        exact ih (b + 1) (by omega)
      refine pn_iload (q := 14) dX2_coverOf_12 rfl rfl ?_
      refine pn_aload_n (q := 15) dX2_coverOf_14 rfl rfl rfl ?_
      refine pn_get (q := 18) fX2_28 dX2_coverOf_15 rfl rfl rfl ?_
      first | refine pn_nge (q := 21) (tgt := 89) dX2_coverOf_18 (by decide) rfl (by omega) (by omega) (fun hc18 => ?_) (fun hc18 => ?_) | refine pn_icmp_ge (q := 21) (tgt := 89) dX2_coverOf_18 (by decide) rfl (fun hc18 => ?_) (fun hc18 => ?_)
      · omega
      · refine pn_iconst (q := 22) (v := nI 0) dX2_coverOf_21 rfl (by decide) ?_
        refine pn_istore (q := 24) dX2_coverOf_22 rfl (by decide) ?_
        exact inner b (by omega) k83 k 0 (by omega)
  refine pn_iload_n (q := 1) dX2_coverOf_0 rfl rfl ?_
  refine pn_iconst (q := 2) (v := nI 1) dX2_coverOf_1 rfl (by decide) ?_
  first | refine pn_nge (q := 5) (tgt := 7) dX2_coverOf_2 (by decide) rfl (by omega) (by omega) (fun hc2 => ?_) (fun hc2 => ?_) | refine pn_icmp_ge (q := 5) (tgt := 7) dX2_coverOf_2 (by decide) rfl (fun hc2 => ?_) (fun hc2 => ?_)
  · refine pn_iconst (q := 8) (v := nI 0) dX2_coverOf_7 rfl (by decide) ?_
    refine pn_istore_n (q := 9) dX2_coverOf_8 rfl (by decide) ?_
    refine pn_iconst (q := 10) (v := nI 0) dX2_coverOf_9 rfl (by decide) ?_
    refine pn_istore (q := 12) dX2_coverOf_10 rfl (by decide) ?_
    exact outer bc 0 (by omega)
  · omega
def dueN (m q : Nat) : Nat := if q = 0 ∨ 2 * q = m then 0 else 1
/-- the least difference from q on that is not as it must be -/
def bdN (sh k : Nat) (bN : Nat → Nat) (m bc : Nat) : Nat → Nat → Int32
  | _, 0 => -1
  | q, z + 1 => if cvN sh k bN m q bc = dueN m q then bdN sh k bN m bc (q + 1) z else nI q
set_option maxRecDepth 100000 in
theorem c_badDifference (adK : Nat → Nat) (d : Nat) (n : Nat) (g : Int64) (sh k pc bc : Nat) (ps : Nat → Int64) (bN : Nat → Nat) (sf : Nat → Int32) (m : Nat) (hS : shOk sh k) (hbc : bc ≤ 4) (hbN : ∀ j, bN j ≤ 30) (hm : 0 < m) (hm2 : m ≤ 31) : pnCt mX2_badDifference adK (d + 3) 0 0 [.ref 0, .int (nI m)] (hNet n g sh k pc bc ps (fun j => nI (bN j)) sf) (pnIs (.inl (some (.int (bdN sh k bN m bc 0 (m / 2 + 1))))) (hNet n g sh k pc bc ps (fun j => nI (bN j)) sf)) := by
  refine pnCt_of (by decide) kX2_badDifference (Nat.le_of_ble_eq_true rfl) rfl (hNet_cl _ _ _ _ _ _ _ _ _) (pnCS_b rfl) ?_
  obtain ⟨b1, b2, b3, b4, b5, b6⟩ := shOk_b hS
  refine pn_iconst (q := 1) (v := nI 0) dX2_badDifference_0 rfl (by decide) ?_
  refine pn_istore_n (q := 2) dX2_badDifference_1 rfl (by decide) ?_
  have loop : ∀ (z q : Nat), q + z = m / 2 + 1 → bdN sh k bN m bc q z = bdN sh k bN m bc 0 (m / 2 + 1) → pnWP mX2_badDifference adK (d + 3) (pnIs (.inl (some (.int (bdN sh k bN m bc 0 (m / 2 + 1))))) (hNet n g sh k pc bc ps (fun j => nI (bN j)) sf)) 0 0 (hNet n g sh k pc bc ps (fun j => nI (bN j)) sf) [some (.ref 0), some (.int (nI m)), some (.int (nI q))] [] 2 := by
    intro z
    induction z with
    | zero =>
      intro q hq e
      refine pn_iconst (q := 3) (v := nI 2) dX2_badDifference_2 rfl (by decide) ?_
      refine pn_iload_n (q := 4) dX2_badDifference_3 rfl rfl ?_
      first | with_reducible refine pn_imulN (q := 5) dX2_badDifference_4 rfl ?_ | refine pn_imul (q := 5) dX2_badDifference_4 rfl ?_
      refine pn_iload_n (q := 6) dX2_badDifference_5 rfl rfl ?_
      first | refine pn_ngt (q := 9) (tgt := 44) dX2_badDifference_6 (by decide) rfl (by omega) (by omega) (fun hc6 => ?_) (fun hc6 => ?_) | refine pn_icmp_gt (q := 9) (tgt := 44) dX2_badDifference_6 (by decide) rfl (fun hc6 => ?_) (fun hc6 => ?_)
      · refine pn_iconst (q := 45) (v := (-1)) dX2_badDifference_44 rfl (by decide) ?_
        refine pn_iret dX2_badDifference_45 rfl ?_
        exact ⟨by rw [← e]; rfl, rfl⟩
      · omega
    | succ z ih =>
      intro q hq e
      have hle : cvN sh k bN m q bc ≤ 20 := by
        have h1 := cvN_le sh k bN m q bc
        have h2 : bc * k ≤ 4 * 5 := Nat.mul_le_mul hbc b3
        omega
      have e2 : bdN sh k bN m bc q (z + 1) = if cvN sh k bN m q bc = dueN m q then bdN sh k bN m bc (q + 1) z else nI q := rfl
      refine pn_iconst (q := 3) (v := nI 2) dX2_badDifference_2 rfl (by decide) ?_
      refine pn_iload_n (q := 4) dX2_badDifference_3 rfl rfl ?_
      first | with_reducible refine pn_imulN (q := 5) dX2_badDifference_4 rfl ?_ | refine pn_imul (q := 5) dX2_badDifference_4 rfl ?_
      refine pn_iload_n (q := 6) dX2_badDifference_5 rfl rfl ?_
      first | refine pn_ngt (q := 9) (tgt := 44) dX2_badDifference_6 (by decide) rfl (by omega) (by omega) (fun hc6 => ?_) (fun hc6 => ?_) | refine pn_icmp_gt (q := 9) (tgt := 44) dX2_badDifference_6 (by decide) rfl (fun hc6 => ?_) (fun hc6 => ?_)
      · omega
      · refine pn_iload_n (q := 10) dX2_badDifference_9 rfl rfl ?_
        first | refine pn_zeq (q := 13) (tgt := 20) dX2_badDifference_10 (by decide) rfl (by omega) (fun hc10 => ?_) (fun hc10 => ?_) | refine pn_if_eq (q := 13) (tgt := 20) dX2_badDifference_10 (by decide) rfl (fun hc10 => ?_) (fun hc10 => ?_)
        · refine pn_iconst (q := 21) (v := nI 0) dX2_badDifference_20 rfl (by decide) ?_
          refine pn_goto (q := 25) dX2_badDifference_21 (by decide) ?_
          refine pn_istore_n (q := 26) dX2_badDifference_25 rfl (by decide) ?_
          refine pn_aload_n (q := 27) dX2_badDifference_26 rfl rfl rfl ?_
          refine pn_iload_n (q := 28) dX2_badDifference_27 rfl rfl ?_
          refine pn_iload_n (q := 29) dX2_badDifference_28 rfl rfl ?_
          refine pn_roV1 (q := 32) (c_coverOf adK d n g sh k pc bc ps bN sf m q hS hbc hbN hm hm2 (by omega)) lkX2_105 dX2_badDifference_29 rfl rfl (pnSel_of (I := [0, 1, 2, 3]) rfl rfl) (pnFree_none rfl) rfl rfl rfl (by omega) (Nat.le_of_ble_eq_true rfl) rfl ?_
          refine pn_iload_n (q := 33) dX2_badDifference_32 rfl rfl ?_
          first | refine pn_neq (q := 36) (tgt := 38) dX2_badDifference_33 (by decide) rfl (by omega) (by omega) (fun hc33 => ?_) (fun hc33 => ?_) | refine pn_icmp_eq (q := 36) (tgt := 38) dX2_badDifference_33 (by decide) rfl (fun hc33 => ?_) (fun hc33 => ?_)
          · first | refine pn_iinc1 (q := 41) dX2_badDifference_38 rfl rfl (by decide) ?_ | refine pn_iinc (q := 41) (mm := 1) dX2_badDifference_38 rfl rfl (by decide) (by decide) ?_
            refine pn_goto (q := 2) dX2_badDifference_41 (by decide) ?_
            exact pn_take 3 (ih (q + 1) (by omega) (by rw [← e, e2, if_pos (by unfold dueN; first | (rw [if_pos (by omega)]; exact ‹_›) | (rw [if_neg (by omega)]; exact ‹_›))]))
          · refine pn_iload_n (q := 37) dX2_badDifference_36 rfl rfl ?_
            refine pn_iret dX2_badDifference_37 rfl ?_
            exact ⟨by rw [← e, e2, if_neg (by unfold dueN; first | (rw [if_pos (by omega)]; exact ‹_›) | (rw [if_neg (by omega)]; exact ‹_›))], rfl⟩
        · refine pn_iconst (q := 14) (v := nI 2) dX2_badDifference_13 rfl (by decide) ?_
          refine pn_iload_n (q := 15) dX2_badDifference_14 rfl rfl ?_
          first | with_reducible refine pn_imulN (q := 16) dX2_badDifference_15 rfl ?_ | refine pn_imul (q := 16) dX2_badDifference_15 rfl ?_
          refine pn_iload_n (q := 17) dX2_badDifference_16 rfl rfl ?_
          first | refine pn_nne (q := 20) (tgt := 24) dX2_badDifference_17 (by decide) rfl (by omega) (by omega) (fun hc17 => ?_) (fun hc17 => ?_) | refine pn_icmp_ne (q := 20) (tgt := 24) dX2_badDifference_17 (by decide) rfl (fun hc17 => ?_) (fun hc17 => ?_)
          · refine pn_iconst (q := 25) (v := nI 1) dX2_badDifference_24 rfl (by decide) ?_
            refine pn_istore_n (q := 26) dX2_badDifference_25 rfl (by decide) ?_
            refine pn_aload_n (q := 27) dX2_badDifference_26 rfl rfl rfl ?_
            refine pn_iload_n (q := 28) dX2_badDifference_27 rfl rfl ?_
            refine pn_iload_n (q := 29) dX2_badDifference_28 rfl rfl ?_
            refine pn_roV1 (q := 32) (c_coverOf adK d n g sh k pc bc ps bN sf m q hS hbc hbN hm hm2 (by omega)) lkX2_105 dX2_badDifference_29 rfl rfl (pnSel_of (I := [0, 1, 2, 3]) rfl rfl) (pnFree_none rfl) rfl rfl rfl (by omega) (Nat.le_of_ble_eq_true rfl) rfl ?_
            refine pn_iload_n (q := 33) dX2_badDifference_32 rfl rfl ?_
            first | refine pn_neq (q := 36) (tgt := 38) dX2_badDifference_33 (by decide) rfl (by omega) (by omega) (fun hc33 => ?_) (fun hc33 => ?_) | refine pn_icmp_eq (q := 36) (tgt := 38) dX2_badDifference_33 (by decide) rfl (fun hc33 => ?_) (fun hc33 => ?_)
            · first | refine pn_iinc1 (q := 41) dX2_badDifference_38 rfl rfl (by decide) ?_ | refine pn_iinc (q := 41) (mm := 1) dX2_badDifference_38 rfl rfl (by decide) (by decide) ?_
              refine pn_goto (q := 2) dX2_badDifference_41 (by decide) ?_
              exact pn_take 3 (ih (q + 1) (by omega) (by rw [← e, e2, if_pos (by unfold dueN; first | (rw [if_pos (by omega)]; exact ‹_›) | (rw [if_neg (by omega)]; exact ‹_›))]))
            · refine pn_iload_n (q := 37) dX2_badDifference_36 rfl rfl ?_
              refine pn_iret dX2_badDifference_37 rfl ?_
              exact ⟨by rw [← e, e2, if_neg (by unfold dueN; first | (rw [if_pos (by omega)]; exact ‹_›) | (rw [if_neg (by omega)]; exact ‹_›))], rfl⟩
          · refine pn_iconst (q := 21) (v := nI 0) dX2_badDifference_20 rfl (by decide) ?_
            refine pn_goto (q := 25) dX2_badDifference_21 (by decide) ?_
            refine pn_istore_n (q := 26) dX2_badDifference_25 rfl (by decide) ?_
            refine pn_aload_n (q := 27) dX2_badDifference_26 rfl rfl rfl ?_
            refine pn_iload_n (q := 28) dX2_badDifference_27 rfl rfl ?_
            refine pn_iload_n (q := 29) dX2_badDifference_28 rfl rfl ?_
            refine pn_roV1 (q := 32) (c_coverOf adK d n g sh k pc bc ps bN sf m q hS hbc hbN hm hm2 (by omega)) lkX2_105 dX2_badDifference_29 rfl rfl (pnSel_of (I := [0, 1, 2, 3]) rfl rfl) (pnFree_none rfl) rfl rfl rfl (by omega) (Nat.le_of_ble_eq_true rfl) rfl ?_
            refine pn_iload_n (q := 33) dX2_badDifference_32 rfl rfl ?_
            first | refine pn_neq (q := 36) (tgt := 38) dX2_badDifference_33 (by decide) rfl (by omega) (by omega) (fun hc33 => ?_) (fun hc33 => ?_) | refine pn_icmp_eq (q := 36) (tgt := 38) dX2_badDifference_33 (by decide) rfl (fun hc33 => ?_) (fun hc33 => ?_)
            · first | refine pn_iinc1 (q := 41) dX2_badDifference_38 rfl rfl (by decide) ?_ | refine pn_iinc (q := 41) (mm := 1) dX2_badDifference_38 rfl rfl (by decide) (by decide) ?_
              refine pn_goto (q := 2) dX2_badDifference_41 (by decide) ?_
              exact pn_take 3 (ih (q + 1) (by omega) (by rw [← e, e2, if_pos (by unfold dueN; first | (rw [if_pos (by omega)]; exact ‹_›) | (rw [if_neg (by omega)]; exact ‹_›))]))
            · refine pn_iload_n (q := 37) dX2_badDifference_36 rfl rfl ?_
              refine pn_iret dX2_badDifference_37 rfl ?_
              exact ⟨by rw [← e, e2, if_neg (by unfold dueN; first | (rw [if_pos (by omega)]; exact ‹_›) | (rw [if_neg (by omega)]; exact ‹_›))], rfl⟩
  exact loop (m / 2 + 1) 0 (by omega) rfl
