def shOk (sh k : Nat) : Prop := (sh = 0 ∧ k = 3) ∨ (sh = 1 ∧ 1 ≤ k ∧ k ≤ 4) ∨ (sh = 2 ∧ 1 ≤ k ∧ k ≤ 4) ∨ (sh = 3 ∧ 3 ≤ k ∧ k ≤ 5)
theorem shOk_b {sh k : Nat} (h : shOk sh k) : sh ≤ 3 ∧ 1 ≤ k ∧ k ≤ 5 ∧ plN sh k ≤ 5 ∧ 2 ≤ plN sh k ∧ ∀ i, i < k → lsN sh i < plN sh k ∧ leN sh k i < plN sh k ∧ lsN sh i ≠ leN sh k i := by
  rcases h with ⟨h1, h2⟩ | ⟨h1, h2, h3⟩ | ⟨h1, h2, h3⟩ | ⟨h1, h2, h3⟩ <;> subst h1
  · subst h2
    refine ⟨by omega, by omega, by omega, by decide, by decide, fun i hi => ?_⟩
    match i, hi with
    | 0, _ => decide
    | 1, _ => decide
    | 2, _ => decide
  · have e : plN 1 k = k + 1 := rfl
    have e2 : ∀ i, lsN 1 i = i := fun i => rfl
    have e3 : ∀ i, leN 1 k i = i + 1 := fun i => by unfold leN; rw [if_neg]; intro q; exact absurd q.1 (by decide)
    refine ⟨by omega, by omega, by omega, by omega, by omega, fun i hi => ?_⟩
    rw [e, e2, e3]; omega
  · have e : plN 2 k = k + 1 := rfl
    have e2 : ∀ i, lsN 2 i = 0 := fun i => rfl
    have e3 : ∀ i, leN 2 k i = i + 1 := fun i => by unfold leN; rw [if_neg]; intro q; exact absurd q.1 (by decide)
    refine ⟨by omega, by omega, by omega, by omega, by omega, fun i hi => ?_⟩
    rw [e, e2, e3]; omega
  · have e : plN 3 k = k := rfl
    have e2 : ∀ i, lsN 3 i = i := fun i => rfl
    refine ⟨by omega, by omega, by omega, by omega, by omega, fun i hi => ?_⟩
    rw [e, e2]
    by_cases q : i + 1 = k
    · rw [show leN 3 k i = 0 from if_pos ⟨rfl, q⟩]; omega
    · rw [show leN 3 k i = i + 1 from if_neg (fun z => q z.2)]; omega
def lopN (n sh k : Nat) (nd : Nat → Nat) : Nat → Int64
  | 0 => 0
  | i + 1 => lopN n sh k nd i ||| bL (lnN n (nd (lsN sh i)) (nd (leN sh k i)))
def ndN (row : Nat → Int32) (f j : Nat) : Nat := (row (f + j)).toNatClampNeg
theorem telN_nd {row : Nat → Int32} {f c most : Nat} (h : telN row f c most = true) (hm : most ≤ 1000) : (∀ i, i < c → row (f + i) = nI (ndN row f i) ∧ ndN row f i ≤ most) ∧ ∀ i j, i < c → j < c → i ≠ j → ndN row f i ≠ ndN row f j := by
  have h0 := of_decide_eq_true h
  have h1 : ∀ i, i < c → row (f + i) = nI (ndN row f i) ∧ ndN row f i ≤ most := fun i hi => by
    have := (h0 i hi).1
    rcases hasN_cases (row (f + i)) (most + 1) (by omega) with ⟨-, e⟩ | ⟨-, -, e⟩ | ⟨j, hj, e, -⟩
    · rw [e] at this; cases this
    · rw [e] at this; cases this
    · unfold ndN; rw [e, nI_clamp (by omega)]; exact ⟨rfl, by omega⟩
  refine ⟨h1, fun i j hi hj hij e => ?_⟩
  have e2 : row (f + i) = row (f + j) := by rw [(h1 i hi).1, (h1 j hj).1, e]
  rcases Nat.lt_or_ge i j with q | q
  · exact (h0 j hj).2 i q e2
  · exact (h0 i hi).2 j (by omega) e2.symm
def lpN (n sh k : Nat) (row : Nat → Int32) (f c : Nat) : Int64 := if (decide (c = plN sh k) && telN row f c (n - 1)) = true then lopN n sh k (ndN row f) k else 0
set_option maxRecDepth 100000 in
theorem c_linesOfPartX (adK : Nat → Nat) (d : Nat) (n : Nat) (g : Int64) (sh k pc bc : Nat) (ps : Nat → Int64) (bs sf : Nat → Int32) (len : Nat) (row : Nat → Int32) (f c : Nat) (hS : shOk sh k) (hn : n ≤ 11) (hn1 : 1 ≤ n) (hlen : len ≤ 1000) (hf : f + c ≤ len) : pnCt mX2_linesOfPart adK (d + 3) 0 0 [.ref 0, .ref 4, .int (nI f), .int (nI c)] (hNet n g sh k pc bc ps bs sf ++ [.inl (0, len, .inl row)]) (pnIs (.inl (some (.long (lpN n sh k row f c)))) (hNet n g sh k pc bc ps bs sf ++ [.inl (0, len, .inl row)])) := by
  refine pnCt_of (by decide) kX2_linesOfPart (Nat.le_of_ble_eq_true rfl) rfl (pnCH_b rfl) (pnCS_b rfl) ?_
  obtain ⟨b1, b2, b3, b4, b5, b6⟩ := shOk_b hS
  refine pn_aload_n (q := 1) dX2_linesOfPart_0 rfl rfl rfl ?_
  refine pn_aload_n (q := 2) dX2_linesOfPart_1 rfl rfl rfl ?_
  refine pn_iload_n (q := 3) dX2_linesOfPart_2 rfl rfl ?_
  refine pn_iload_n (q := 4) dX2_linesOfPart_3 rfl rfl ?_
  refine pn_aload_n (q := 5) dX2_linesOfPart_4 rfl rfl rfl ?_
  refine pn_get (q := 8) fX2_9 dX2_linesOfPart_5 rfl rfl rfl ?_
  refine pn_iconst (q := 9) (v := nI 1) dX2_linesOfPart_8 rfl (by decide) ?_
  first | with_reducible refine pn_isubN (q := 10) dX2_linesOfPart_9 rfl (by omega) ?_ | refine pn_isub (q := 10) dX2_linesOfPart_9 rfl ?_
  refine pn_roV1 (q := 13) (c_tellsPartX adK d n g sh k pc bc ps bs sf len row f c (n - 1) b1 (by omega) hlen hf (by omega)) lkX2_84 dX2_linesOfPart_10 rfl rfl (pnSel_of (I := [0, 1, 2, 3, 4]) rfl rfl) (pnFree_none rfl) rfl rfl rfl (by omega) (Nat.le_of_ble_eq_true rfl) rfl ?_
  cases ht : (decide (c = plN sh k) && telN row f c (n - 1)) with
  | false =>
    have e0 : lpN n sh k row f c = 0 := by unfold lpN; rw [ht]; rfl
    rw [e0]
    refine pn_bne (q := 16) (tgt := 18) dX2_linesOfPart_13 (by decide) rfl (fun hc13 => ?_) (fun hc13 => ?_)
    · cases hc13
    · refine pn_lconst (q := 17) (v := 0) dX2_linesOfPart_16 rfl (by decide) ?_
      refine pn_lret dX2_linesOfPart_17 rfl ?_
      exact ⟨rfl, rfl⟩
  | true =>
    have e0 : lpN n sh k row f c = lopN n sh k (ndN row f) k := by unfold lpN; rw [ht]; rfl
    rw [e0]
    rw [Bool.and_eq_true] at ht
    have hcp := of_decide_eq_true ht.1
    obtain ⟨t1, t2⟩ := telN_nd ht.2 (by omega)
    have loop : ∀ (m i : Nat), i + m = k → pnWP mX2_linesOfPart adK (d + 3) (pnIs (.inl (some (.long (lopN n sh k (ndN row f) k)))) (hNet n g sh k pc bc ps bs sf ++ [.inl (0, len, .inl row)])) 0 0 (hNet n g sh k pc bc ps bs sf ++ [.inl (0, len, .inl row)]) [some (.ref 0), some (.ref 4), some (.int (nI f)), some (.int (nI c)), some (.long (lopN n sh k (ndN row f) i)), none, some (.int (nI i))] [] 24 := by
      intro m
      induction m with
      | zero =>
        intro i hi
        refine pn_iload (q := 26) dX2_linesOfPart_24 rfl rfl ?_
        refine pn_aload_n (q := 27) dX2_linesOfPart_26 rfl rfl rfl ?_
        refine pn_get (q := 30) fX2_22 dX2_linesOfPart_27 rfl rfl rfl ?_
        first | refine pn_nge (q := 33) (tgt := 92) dX2_linesOfPart_30 (by decide) rfl (by omega) (by omega) (fun hc30 => ?_) (fun hc30 => ?_) | refine pn_icmp_ge (q := 33) (tgt := 92) dX2_linesOfPart_30 (by decide) rfl (fun hc30 => ?_) (fun hc30 => ?_)
        · refine pn_lload (q := 94) dX2_linesOfPart_92 rfl rfl ?_
          refine pn_lret dX2_linesOfPart_94 rfl ?_
          exact ⟨by rw [show i = k by omega], rfl⟩
        · omega
      | succ m ih =>
        intro i hi
        obtain ⟨q1, q2, q3⟩ := b6 i (by omega)
        have r1 := t1 (lsN sh i) (by omega)
        have r2 := t1 (leN sh k i) (by omega)
        have r3 := t2 _ _ (show lsN sh i < c by omega) (show leN sh k i < c by omega) q3
        refine pn_iload (q := 26) dX2_linesOfPart_24 rfl rfl ?_
        refine pn_aload_n (q := 27) dX2_linesOfPart_26 rfl rfl rfl ?_
        refine pn_get (q := 30) fX2_22 dX2_linesOfPart_27 rfl rfl rfl ?_
        first | refine pn_nge (q := 33) (tgt := 92) dX2_linesOfPart_30 (by decide) rfl (by omega) (by omega) (fun hc30 => ?_) (fun hc30 => ?_) | refine pn_icmp_ge (q := 33) (tgt := 92) dX2_linesOfPart_30 (by decide) rfl (fun hc30 => ?_) (fun hc30 => ?_)
        · omega
        · refine pn_iload_n (q := 34) dX2_linesOfPart_33 rfl rfl ?_
          refine pn_aload_n (q := 35) dX2_linesOfPart_34 rfl rfl rfl ?_
          refine pn_iload (q := 37) dX2_linesOfPart_35 rfl rfl ?_
          refine pn_roV1 (q := 40) (c_lineStart adK d n g sh k pc bc ps bs sf i b1) lkX2_88 dX2_linesOfPart_37 rfl rfl (pnSel_of (I := [0, 1, 2, 3]) rfl rfl) (pnFree_none rfl) rfl rfl rfl (by omega) (Nat.le_of_ble_eq_true rfl) rfl ?_
          first | with_reducible refine pn_iaddN (q := 41) dX2_linesOfPart_40 rfl ?_ | refine pn_iadd (q := 41) dX2_linesOfPart_40 rfl ?_
          refine pn_istore (q := 43) dX2_linesOfPart_41 rfl (by decide) ?_
          refine pn_iload_n (q := 44) dX2_linesOfPart_43 rfl rfl ?_
          refine pn_aload_n (q := 45) dX2_linesOfPart_44 rfl rfl rfl ?_
          refine pn_iload (q := 47) dX2_linesOfPart_45 rfl rfl ?_
          refine pn_roV1 (q := 50) (c_lineEnd adK d n g sh k pc bc ps bs sf i b1 (by omega) (by omega)) lkX2_92 dX2_linesOfPart_47 rfl rfl (pnSel_of (I := [0, 1, 2, 3]) rfl rfl) (pnFree_none rfl) rfl rfl rfl (by omega) (Nat.le_of_ble_eq_true rfl) rfl ?_
          first | with_reducible refine pn_iaddN (q := 51) dX2_linesOfPart_50 rfl ?_ | refine pn_iadd (q := 51) dX2_linesOfPart_50 rfl ?_
          refine pn_istore (q := 53) dX2_linesOfPart_51 rfl (by decide) ?_
          refine pn_iload (q := 55) dX2_linesOfPart_53 rfl rfl ?_
          refine pn_aload_n (q := 56) dX2_linesOfPart_55 rfl rfl rfl ?_
          refine pn_alen (q := 57) dX2_linesOfPart_56 rfl rfl (by decide) ?_
          first | refine pn_nge (q := 60) (tgt := 86) dX2_linesOfPart_57 (by decide) rfl (by omega) (by omega) (fun hc57 => ?_) (fun hc57 => ?_) | refine pn_icmp_ge (q := 60) (tgt := 86) dX2_linesOfPart_57 (by decide) rfl (fun hc57 => ?_) (fun hc57 => ?_)
          · omega
          · refine pn_iload (q := 62) dX2_linesOfPart_60 rfl rfl ?_
            refine pn_aload_n (q := 63) dX2_linesOfPart_62 rfl rfl rfl ?_
            refine pn_alen (q := 64) dX2_linesOfPart_63 rfl rfl (by decide) ?_
            first | refine pn_nge (q := 67) (tgt := 86) dX2_linesOfPart_64 (by decide) rfl (by omega) (by omega) (fun hc64 => ?_) (fun hc64 => ?_) | refine pn_icmp_ge (q := 67) (tgt := 86) dX2_linesOfPart_64 (by decide) rfl (fun hc64 => ?_) (fun hc64 => ?_)
            · omega
            · refine pn_lload (q := 69) dX2_linesOfPart_67 rfl rfl ?_
              refine pn_lconst (q := 70) (v := 1) dX2_linesOfPart_69 rfl (by decide) ?_
              refine pn_aload_n (q := 71) dX2_linesOfPart_70 rfl rfl rfl ?_
              refine pn_aload_n (q := 72) dX2_linesOfPart_71 rfl rfl rfl ?_
              refine pn_iload (q := 74) dX2_linesOfPart_72 rfl rfl ?_
              refine pn_iald (q := 75) dX2_linesOfPart_74 rfl rfl rfl (by omega) (by first | decide | omega) ?_
              refine pn_aload_n (q := 76) dX2_linesOfPart_75 rfl rfl rfl ?_
              refine pn_iload (q := 78) dX2_linesOfPart_76 rfl rfl ?_
              refine pn_iald (q := 79) dX2_linesOfPart_78 rfl rfl rfl (by omega) (by first | decide | omega) ?_; rw [r1.1, r2.1]
              refine pn_roV1 (q := 82) (c_lineNumber adK d n g sh k pc bc ps bs sf (ndN row f (lsN sh i)) (ndN row f (leN sh k i)) hn (by omega) (by omega) r3) lkX2_61 dX2_linesOfPart_79 rfl rfl (pnSel_of (I := [0, 1, 2, 3]) rfl rfl) (pnFree_none rfl) rfl rfl rfl (by omega) (Nat.le_of_ble_eq_true rfl) rfl ?_
              refine pn_lshl (q := 83) dX2_linesOfPart_82 rfl ?_
              refine pn_lor (q := 84) dX2_linesOfPart_83 rfl ?_
              refine pn_lstore (q := 86) dX2_linesOfPart_84 rfl (by decide) ?_
              first | refine pn_iinc1 (q := 89) dX2_linesOfPart_86 rfl rfl (by decide) ?_ | refine pn_iinc (q := 89) (mm := 1) dX2_linesOfPart_86 rfl rfl (by decide) (by decide) ?_
              refine pn_goto (q := 24) dX2_linesOfPart_89 (by decide) ?_
              exact pn_take 7 (ih (i + 1) (by omega))
    refine pn_bne (q := 16) (tgt := 18) dX2_linesOfPart_13 (by decide) rfl (fun hc13 => ?_) (fun hc13 => ?_)
    · refine pn_lconst (q := 19) (v := 0) dX2_linesOfPart_18 rfl (by decide) ?_
      refine pn_lstore (q := 21) dX2_linesOfPart_19 rfl (by decide) ?_
      refine pn_iconst (q := 22) (v := nI 0) dX2_linesOfPart_21 rfl (by decide) ?_
      refine pn_istore (q := 24) dX2_linesOfPart_22 rfl (by decide) ?_
      exact loop k 0 (by omega)
    · cases hc13
set_option maxRecDepth 100000 in
theorem c_linesOfPartS (adK : Nat → Nat) (d : Nat) (n : Nat) (g : Int64) (sh k pc bc : Nat) (ps : Nat → Int64) (bs sf : Nat → Int32)  (f c : Nat) (hS : shOk sh k) (hn : n ≤ 11) (hn1 : 1 ≤ n) (hlen : 5 ≤ 1000) (hf : f + c ≤ 5) : pnCt mX2_linesOfPart adK (d + 3) 0 0 [.ref 0, .ref 3, .int (nI f), .int (nI c)] (hNet n g sh k pc bc ps bs sf) (pnIs (.inl (some (.long (lpN n sh k sf f c)))) (hNet n g sh k pc bc ps bs sf)) := by
  refine pnCt_of (by decide) kX2_linesOfPart (Nat.le_of_ble_eq_true rfl) rfl (hNet_cl _ _ _ _ _ _ _ _ _) (pnCS_b rfl) ?_
  obtain ⟨b1, b2, b3, b4, b5, b6⟩ := shOk_b hS
  refine pn_aload_n (q := 1) dX2_linesOfPart_0 rfl rfl rfl ?_
  refine pn_aload_n (q := 2) dX2_linesOfPart_1 rfl rfl rfl ?_
  refine pn_iload_n (q := 3) dX2_linesOfPart_2 rfl rfl ?_
  refine pn_iload_n (q := 4) dX2_linesOfPart_3 rfl rfl ?_
  refine pn_aload_n (q := 5) dX2_linesOfPart_4 rfl rfl rfl ?_
  refine pn_get (q := 8) fX2_9 dX2_linesOfPart_5 rfl rfl rfl ?_
  refine pn_iconst (q := 9) (v := nI 1) dX2_linesOfPart_8 rfl (by decide) ?_
  first | with_reducible refine pn_isubN (q := 10) dX2_linesOfPart_9 rfl (by omega) ?_ | refine pn_isub (q := 10) dX2_linesOfPart_9 rfl ?_
  refine pn_roV1 (q := 13) (c_tellsPartS adK d n g sh k pc bc ps bs sf  f c (n - 1) b1 (by omega) hlen hf (by omega)) lkX2_84 dX2_linesOfPart_10 rfl rfl (pnSel_of (I := [0, 1, 2, 3]) rfl rfl) (pnFree_none rfl) rfl rfl rfl (by omega) (Nat.le_of_ble_eq_true rfl) rfl ?_
  cases ht : (decide (c = plN sh k) && telN sf f c (n - 1)) with
  | false =>
    have e0 : lpN n sh k sf f c = 0 := by unfold lpN; rw [ht]; rfl
    rw [e0]
    refine pn_bne (q := 16) (tgt := 18) dX2_linesOfPart_13 (by decide) rfl (fun hc13 => ?_) (fun hc13 => ?_)
    · cases hc13
    · refine pn_lconst (q := 17) (v := 0) dX2_linesOfPart_16 rfl (by decide) ?_
      refine pn_lret dX2_linesOfPart_17 rfl ?_
      exact ⟨rfl, rfl⟩
  | true =>
    have e0 : lpN n sh k sf f c = lopN n sh k (ndN sf f) k := by unfold lpN; rw [ht]; rfl
    rw [e0]
    rw [Bool.and_eq_true] at ht
    have hcp := of_decide_eq_true ht.1
    obtain ⟨t1, t2⟩ := telN_nd ht.2 (by omega)
    have loop : ∀ (m i : Nat), i + m = k → pnWP mX2_linesOfPart adK (d + 3) (pnIs (.inl (some (.long (lopN n sh k (ndN sf f) k)))) (hNet n g sh k pc bc ps bs sf)) 0 0 (hNet n g sh k pc bc ps bs sf) [some (.ref 0), some (.ref 3), some (.int (nI f)), some (.int (nI c)), some (.long (lopN n sh k (ndN sf f) i)), none, some (.int (nI i))] [] 24 := by
      intro m
      induction m with
      | zero =>
        intro i hi
        refine pn_iload (q := 26) dX2_linesOfPart_24 rfl rfl ?_
        refine pn_aload_n (q := 27) dX2_linesOfPart_26 rfl rfl rfl ?_
        refine pn_get (q := 30) fX2_22 dX2_linesOfPart_27 rfl rfl rfl ?_
        first | refine pn_nge (q := 33) (tgt := 92) dX2_linesOfPart_30 (by decide) rfl (by omega) (by omega) (fun hc30 => ?_) (fun hc30 => ?_) | refine pn_icmp_ge (q := 33) (tgt := 92) dX2_linesOfPart_30 (by decide) rfl (fun hc30 => ?_) (fun hc30 => ?_)
        · refine pn_lload (q := 94) dX2_linesOfPart_92 rfl rfl ?_
          refine pn_lret dX2_linesOfPart_94 rfl ?_
          exact ⟨by rw [show i = k by omega], rfl⟩
        · omega
      | succ m ih =>
        intro i hi
        obtain ⟨q1, q2, q3⟩ := b6 i (by omega)
        have r1 := t1 (lsN sh i) (by omega)
        have r2 := t1 (leN sh k i) (by omega)
        have r3 := t2 _ _ (show lsN sh i < c by omega) (show leN sh k i < c by omega) q3
        refine pn_iload (q := 26) dX2_linesOfPart_24 rfl rfl ?_
        refine pn_aload_n (q := 27) dX2_linesOfPart_26 rfl rfl rfl ?_
        refine pn_get (q := 30) fX2_22 dX2_linesOfPart_27 rfl rfl rfl ?_
        first | refine pn_nge (q := 33) (tgt := 92) dX2_linesOfPart_30 (by decide) rfl (by omega) (by omega) (fun hc30 => ?_) (fun hc30 => ?_) | refine pn_icmp_ge (q := 33) (tgt := 92) dX2_linesOfPart_30 (by decide) rfl (fun hc30 => ?_) (fun hc30 => ?_)
        · omega
        · refine pn_iload_n (q := 34) dX2_linesOfPart_33 rfl rfl ?_
          refine pn_aload_n (q := 35) dX2_linesOfPart_34 rfl rfl rfl ?_
          refine pn_iload (q := 37) dX2_linesOfPart_35 rfl rfl ?_
          refine pn_roV1 (q := 40) (c_lineStart adK d n g sh k pc bc ps bs sf i b1) lkX2_88 dX2_linesOfPart_37 rfl rfl (pnSel_of (I := [0, 1, 2, 3]) rfl rfl) (pnFree_none rfl) rfl rfl rfl (by omega) (Nat.le_of_ble_eq_true rfl) rfl ?_
          first | with_reducible refine pn_iaddN (q := 41) dX2_linesOfPart_40 rfl ?_ | refine pn_iadd (q := 41) dX2_linesOfPart_40 rfl ?_
          refine pn_istore (q := 43) dX2_linesOfPart_41 rfl (by decide) ?_
          refine pn_iload_n (q := 44) dX2_linesOfPart_43 rfl rfl ?_
          refine pn_aload_n (q := 45) dX2_linesOfPart_44 rfl rfl rfl ?_
          refine pn_iload (q := 47) dX2_linesOfPart_45 rfl rfl ?_
          refine pn_roV1 (q := 50) (c_lineEnd adK d n g sh k pc bc ps bs sf i b1 (by omega) (by omega)) lkX2_92 dX2_linesOfPart_47 rfl rfl (pnSel_of (I := [0, 1, 2, 3]) rfl rfl) (pnFree_none rfl) rfl rfl rfl (by omega) (Nat.le_of_ble_eq_true rfl) rfl ?_
          first | with_reducible refine pn_iaddN (q := 51) dX2_linesOfPart_50 rfl ?_ | refine pn_iadd (q := 51) dX2_linesOfPart_50 rfl ?_
          refine pn_istore (q := 53) dX2_linesOfPart_51 rfl (by decide) ?_
          refine pn_iload (q := 55) dX2_linesOfPart_53 rfl rfl ?_
          refine pn_aload_n (q := 56) dX2_linesOfPart_55 rfl rfl rfl ?_
          refine pn_alen (q := 57) dX2_linesOfPart_56 rfl rfl (by decide) ?_
          first | refine pn_nge (q := 60) (tgt := 86) dX2_linesOfPart_57 (by decide) rfl (by omega) (by omega) (fun hc57 => ?_) (fun hc57 => ?_) | refine pn_icmp_ge (q := 60) (tgt := 86) dX2_linesOfPart_57 (by decide) rfl (fun hc57 => ?_) (fun hc57 => ?_)
          · omega
          · refine pn_iload (q := 62) dX2_linesOfPart_60 rfl rfl ?_
            refine pn_aload_n (q := 63) dX2_linesOfPart_62 rfl rfl rfl ?_
            refine pn_alen (q := 64) dX2_linesOfPart_63 rfl rfl (by decide) ?_
            first | refine pn_nge (q := 67) (tgt := 86) dX2_linesOfPart_64 (by decide) rfl (by omega) (by omega) (fun hc64 => ?_) (fun hc64 => ?_) | refine pn_icmp_ge (q := 67) (tgt := 86) dX2_linesOfPart_64 (by decide) rfl (fun hc64 => ?_) (fun hc64 => ?_)
            · omega
            · refine pn_lload (q := 69) dX2_linesOfPart_67 rfl rfl ?_
              refine pn_lconst (q := 70) (v := 1) dX2_linesOfPart_69 rfl (by decide) ?_
              refine pn_aload_n (q := 71) dX2_linesOfPart_70 rfl rfl rfl ?_
              refine pn_aload_n (q := 72) dX2_linesOfPart_71 rfl rfl rfl ?_
              refine pn_iload (q := 74) dX2_linesOfPart_72 rfl rfl ?_
              refine pn_iald (q := 75) dX2_linesOfPart_74 rfl rfl rfl (by omega) (by first | decide | omega) ?_
              refine pn_aload_n (q := 76) dX2_linesOfPart_75 rfl rfl rfl ?_
              refine pn_iload (q := 78) dX2_linesOfPart_76 rfl rfl ?_
              refine pn_iald (q := 79) dX2_linesOfPart_78 rfl rfl rfl (by omega) (by first | decide | omega) ?_; rw [r1.1, r2.1]
              refine pn_roV1 (q := 82) (c_lineNumber adK d n g sh k pc bc ps bs sf (ndN sf f (lsN sh i)) (ndN sf f (leN sh k i)) hn (by omega) (by omega) r3) lkX2_61 dX2_linesOfPart_79 rfl rfl (pnSel_of (I := [0, 1, 2, 3]) rfl rfl) (pnFree_none rfl) rfl rfl rfl (by omega) (Nat.le_of_ble_eq_true rfl) rfl ?_
              refine pn_lshl (q := 83) dX2_linesOfPart_82 rfl ?_
              refine pn_lor (q := 84) dX2_linesOfPart_83 rfl ?_
              refine pn_lstore (q := 86) dX2_linesOfPart_84 rfl (by decide) ?_
              first | refine pn_iinc1 (q := 89) dX2_linesOfPart_86 rfl rfl (by decide) ?_ | refine pn_iinc (q := 89) (mm := 1) dX2_linesOfPart_86 rfl rfl (by decide) (by decide) ?_
              refine pn_goto (q := 24) dX2_linesOfPart_89 (by decide) ?_
              exact pn_take 7 (ih (i + 1) (by omega))
    refine pn_bne (q := 16) (tgt := 18) dX2_linesOfPart_13 (by decide) rfl (fun hc13 => ?_) (fun hc13 => ?_)
    · refine pn_lconst (q := 19) (v := 0) dX2_linesOfPart_18 rfl (by decide) ?_
      refine pn_lstore (q := 21) dX2_linesOfPart_19 rfl (by decide) ?_
      refine pn_iconst (q := 22) (v := nI 0) dX2_linesOfPart_21 rfl (by decide) ?_
      refine pn_istore (q := 24) dX2_linesOfPart_22 rfl (by decide) ?_
      exact loop k 0 (by omega)
    · cases hc13
