def pcN (x : Int64) : Nat := (bcI x).toNatClampNeg
theorem bcI_eq (x : Int64) : bcI x = nI (pcN x) ∧ pcN x < 128 := by
  obtain ⟨j, hj, e⟩ := pk_andE (bc4 32 (bc4 16 (bc4 8 (bc3 (bc2 (bc1 x)))))).toInt32 (m := nI 127) 7 (by decide)
  have e2 : bcI x = nI j := e
  unfold pcN
  rw [e2, nI_clamp (by omega)]
  exact ⟨rfl, hj⟩
theorem c_bc (adK : Nat → Nat) (d : Nat) (x : Int64) : pnCt mJ13_bitCount_95d88 adK d 0 0 [.long x] [] (pnIs (.inl (some (.int (nI (pcN x))))) []) := by
  rw [← (bcI_eq x).1]; exact c_bitCount adK d x
/-- an odd number of lines at some node from a on -/
def odN (n : Nat) (x : Int64) : Nat → Nat → Bool
  | _, 0 => false
  | a, m + 1 => if pcN (x &&& lasN n a n) % 2 = 0 then odN n x (a + 1) m else true
set_option maxRecDepth 100000 in
theorem c_hasOddNode (adK : Nat → Nat) (d : Nat) (n : Nat) (g : Int64) (sh k pc bc : Nat) (ps : Nat → Int64) (bs sf : Nat → Int32) (x : Int64) (hn : n ≤ 11) : pnCt mX2_hasOddNode adK (d + 3) 0 0 [.ref 0, .long x] (hNet n g sh k pc bc ps bs sf) (pnIs (.inl (some (.int (nB (odN n x 0 n))))) (hNet n g sh k pc bc ps bs sf)) := by
  refine pnCt_of (by decide) kX2_hasOddNode (Nat.le_of_ble_eq_true rfl) rfl (hNet_cl _ _ _ _ _ _ _ _ _) (pnCS_b rfl) ?_
  refine pn_iconst (q := 1) (v := nI 0) dX2_hasOddNode_0 rfl (by decide) ?_
  refine pn_istore_n (q := 2) dX2_hasOddNode_1 rfl (by decide) ?_
  have loop : ∀ (m i : Nat), i + m = n → odN n x i m = odN n x 0 n → pnWP mX2_hasOddNode adK (d + 3) (pnIs (.inl (some (.int (nB (odN n x 0 n))))) (hNet n g sh k pc bc ps bs sf)) 0 0 (hNet n g sh k pc bc ps bs sf) [some (.ref 0), some (.long x), none, some (.int (nI i))] [] 2 := by
    intro m
    induction m with
    | zero =>
      intro i hi e
      refine pn_iload_n (q := 3) dX2_hasOddNode_2 rfl rfl ?_
      refine pn_aload_n (q := 4) dX2_hasOddNode_3 rfl rfl rfl ?_
      refine pn_get (q := 7) fX2_9 dX2_hasOddNode_4 rfl rfl rfl ?_
      first | refine pn_nge (q := 10) (tgt := 33) dX2_hasOddNode_7 (by decide) rfl (by omega) (by omega) (fun hc7 => ?_) (fun hc7 => ?_) | refine pn_icmp_ge (q := 10) (tgt := 33) dX2_hasOddNode_7 (by decide) rfl (fun hc7 => ?_) (fun hc7 => ?_)
      · refine pn_iconst (q := 34) (v := nI 0) dX2_hasOddNode_33 rfl (by decide) ?_
        refine pn_tret (b := odN n x 0 n) _ ?_ dX2_hasOddNode_34 rfl ?_
        · rw [← e]; rfl
        · exact ⟨rfl, rfl⟩
      · omega
    | succ m ih =>
      intro i hi e
      have hpp := (bcI_eq (x &&& lasN n i n)).2
      have e2 : odN n x i (m + 1) = if pcN (x &&& lasN n i n) % 2 = 0 then odN n x (i + 1) m else true := rfl
      refine pn_iload_n (q := 3) dX2_hasOddNode_2 rfl rfl ?_
      refine pn_aload_n (q := 4) dX2_hasOddNode_3 rfl rfl rfl ?_
      refine pn_get (q := 7) fX2_9 dX2_hasOddNode_4 rfl rfl rfl ?_
      first | refine pn_nge (q := 10) (tgt := 33) dX2_hasOddNode_7 (by decide) rfl (by omega) (by omega) (fun hc7 => ?_) (fun hc7 => ?_) | refine pn_icmp_ge (q := 10) (tgt := 33) dX2_hasOddNode_7 (by decide) rfl (fun hc7 => ?_) (fun hc7 => ?_)
      · omega
      · refine pn_lload_n (q := 11) dX2_hasOddNode_10 rfl rfl ?_
        refine pn_aload_n (q := 12) dX2_hasOddNode_11 rfl rfl rfl ?_
        refine pn_iload_n (q := 13) dX2_hasOddNode_12 rfl rfl ?_
        refine pn_roV1 (q := 16) (c_linesAt adK d n g sh k pc bc ps bs sf i hn (by omega)) lkX2_66 dX2_hasOddNode_13 rfl rfl (pnSel_of (I := [0, 1, 2, 3]) rfl rfl) (pnFree_none rfl) rfl rfl rfl (by omega) (Nat.le_of_ble_eq_true rfl) rfl ?_
        refine pn_land (q := 17) dX2_hasOddNode_16 rfl ?_
        refine pn_roS1 (q := 20) (c_bc adK d (x &&& lasN n i n)) lkX2_70 dX2_hasOddNode_17 rfl rfl (pnSel_of (I := []) rfl rfl) (pnFree_none rfl) rfl (by omega) (Nat.le_of_ble_eq_true rfl) rfl ?_
        refine pn_iconst (q := 21) (v := nI 2) dX2_hasOddNode_20 rfl (by decide) ?_
        refine pn_iremN (q := 22) dX2_hasOddNode_21 rfl (by omega) ?_
        first | refine pn_zeq (q := 25) (tgt := 27) dX2_hasOddNode_22 (by decide) rfl (by omega) (fun hc22 => ?_) (fun hc22 => ?_) | refine pn_if_eq (q := 25) (tgt := 27) dX2_hasOddNode_22 (by decide) rfl (fun hc22 => ?_) (fun hc22 => ?_)
        · first | refine pn_iinc1 (q := 30) dX2_hasOddNode_27 rfl rfl (by decide) ?_ | refine pn_iinc (q := 30) (mm := 1) dX2_hasOddNode_27 rfl rfl (by decide) (by decide) ?_
          refine pn_goto (q := 2) dX2_hasOddNode_30 (by decide) ?_
          exact ih (i + 1) (by omega) (by rw [← e, e2, if_pos ‹_›])
        · refine pn_iconst (q := 26) (v := nI 1) dX2_hasOddNode_25 rfl (by decide) ?_
          refine pn_tret (b := odN n x 0 n) _ ?_ dX2_hasOddNode_26 rfl ?_
          · rw [← e, e2, if_neg ‹_›]; rfl
          · exact ⟨rfl, rfl⟩
  exact loop n 0 (by omega) rfl
def telN (row : Nat → Int32) (f c most : Nat) : Bool := decide (∀ i, i < c → hasN (most + 1) (row (f + i)) = true ∧ ∀ j, j < i → row (f + j) ≠ row (f + i))
set_option maxRecDepth 100000 in
theorem c_tellsPartX (adK : Nat → Nat) (d : Nat) (n : Nat) (g : Int64) (sh k pc bc : Nat) (ps : Nat → Int64) (bs sf : Nat → Int32) (len : Nat) (row : Nat → Int32) (f c most : Nat) (hsh : sh ≤ 3) (hk : k ≤ 100) (hlen : len ≤ 1000) (hf : f + c ≤ len) (hm : most ≤ 1000) : pnCt mX2_tellsPart adK (d + 2) 0 0 [.ref 0, .ref 4, .int (nI f), .int (nI c), .int (nI most)] (hNet n g sh k pc bc ps bs sf ++ [.inl (0, len, .inl row)]) (pnIs (.inl (some (.int (nB (decide (c = plN sh k) && telN row f c most))))) (hNet n g sh k pc bc ps bs sf ++ [.inl (0, len, .inl row)])) := by
  refine pnCt_of (by decide) kX2_tellsPart (Nat.le_of_ble_eq_true rfl) rfl (pnCH_b rfl) (pnCS_b rfl) ?_
  have hpl : plN sh k ≤ 101 := by unfold plN; split <;> omega
  have inner : ∀ (a : Nat), a < c → hasN (most + 1) (row (f + a)) = true → c = plN sh k → (∀ i, i < a → hasN (most + 1) (row (f + i)) = true ∧ ∀ j, j < i → row (f + j) ≠ row (f + i)) → ((∀ j, j < a → row (f + j) ≠ row (f + a)) → pnWP mX2_tellsPart adK (d + 2) (pnIs (.inl (some (.int (nB (decide (c = plN sh k) && telN row f c most))))) (hNet n g sh k pc bc ps bs sf ++ [.inl (0, len, .inl row)])) 0 0 (hNet n g sh k pc bc ps bs sf ++ [.inl (0, len, .inl row)]) [some (.ref 0), some (.ref 4), some (.int (nI f)), some (.int (nI c)), some (.int (nI most)), some (.int (nI (f + a)))] [] 80) →
      ∀ (m b : Nat), b + m = a → (∀ j, j < b → row (f + j) ≠ row (f + a)) → pnWP mX2_tellsPart adK (d + 2) (pnIs (.inl (some (.int (nB (decide (c = plN sh k) && telN row f c most))))) (hNet n g sh k pc bc ps bs sf ++ [.inl (0, len, .inl row)])) 0 0 (hNet n g sh k pc bc ps bs sf ++ [.inl (0, len, .inl row)]) [some (.ref 0), some (.ref 4), some (.int (nI f)), some (.int (nI c)), some (.int (nI most)), some (.int (nI (f + a))), some (.int (nI (f + b)))] [] 54 := by
    intro a ha hok hcp hgood kk m
    induction m with
    | zero =>
      intro b hb hne
      refine pn_iload (q := 56) dX2_tellsPart_54 rfl rfl ?_
      refine pn_iload (q := 58) dX2_tellsPart_56 rfl rfl ?_
      first | refine pn_nge (q := 61) (tgt := 80) dX2_tellsPart_58 (by decide) rfl (by omega) (by omega) (fun hc58 => ?_) (fun hc58 => ?_) | refine pn_icmp_ge (q := 61) (tgt := 80) dX2_tellsPart_58 (by decide) rfl (fun hc58 => ?_) (fun hc58 => ?_)
      · refine pn_locs (L' := [some (.ref 0), some (.ref 4), some (.int (nI f)), some (.int (nI c)), some (.int (nI most)), some (.int (nI (f + a)))]) (And.intro rfl (And.intro rfl (And.intro rfl (And.intro rfl (And.intro rfl (And.intro rfl trivial)))))) (kk (fun j hj => hne j (by omega)))
      · omega
    | succ m ih =>
      intro b hb hne
      refine pn_iload (q := 56) dX2_tellsPart_54 rfl rfl ?_
      refine pn_iload (q := 58) dX2_tellsPart_56 rfl rfl ?_
      first | refine pn_nge (q := 61) (tgt := 80) dX2_tellsPart_58 (by decide) rfl (by omega) (by omega) (fun hc58 => ?_) (fun hc58 => ?_) | refine pn_icmp_ge (q := 61) (tgt := 80) dX2_tellsPart_58 (by decide) rfl (fun hc58 => ?_) (fun hc58 => ?_)
      · omega
      · refine pn_aload_n (q := 62) dX2_tellsPart_61 rfl rfl rfl ?_
        refine pn_iload (q := 64) dX2_tellsPart_62 rfl rfl ?_
        refine pn_iald (q := 65) dX2_tellsPart_64 rfl rfl rfl (by omega) (by first | decide | omega) ?_
        refine pn_aload_n (q := 66) dX2_tellsPart_65 rfl rfl rfl ?_
        refine pn_iload (q := 68) dX2_tellsPart_66 rfl rfl ?_
        refine pn_iald (q := 69) dX2_tellsPart_68 rfl rfl rfl (by omega) (by first | decide | omega) ?_
        refine pn_icmp_ne (q := 72) (tgt := 74) dX2_tellsPart_69 (by decide) rfl (fun hc69 => ?_) (fun hc69 => ?_)
        · first | refine pn_iinc1 (q := 77) dX2_tellsPart_74 rfl rfl (by decide) ?_ | refine pn_iinc (q := 77) (mm := 1) dX2_tellsPart_74 rfl rfl (by decide) (by decide) ?_
          refine pn_goto (q := 54) dX2_tellsPart_77 (by decide) ?_
          exact ih (b + 1) (by omega) (fun j hj => by rcases Nat.lt_or_ge j b with h9 | h9; exact hne j h9; rw [show j = b by omega]; exact hc69)
        · refine pn_iconst (q := 73) (v := nI 0) dX2_tellsPart_72 rfl (by decide) ?_
          refine pn_tret (b := (decide (c = plN sh k) && telN row f c most)) _ ?_ dX2_tellsPart_73 rfl ?_
          · rw [show telN row f c most = false from decide_eq_false (fun h9 => (h9 a ha).2 b (by omega) hc69)]; rw [Bool.and_false]; rfl
          · exact ⟨rfl, rfl⟩
  have outer : c = plN sh k → ∀ (m a : Nat), a + m = c → (∀ i, i < a → hasN (most + 1) (row (f + i)) = true ∧ ∀ j, j < i → row (f + j) ≠ row (f + i)) → pnWP mX2_tellsPart adK (d + 2) (pnIs (.inl (some (.int (nB (decide (c = plN sh k) && telN row f c most))))) (hNet n g sh k pc bc ps bs sf ++ [.inl (0, len, .inl row)])) 0 0 (hNet n g sh k pc bc ps bs sf ++ [.inl (0, len, .inl row)]) [some (.ref 0), some (.ref 4), some (.int (nI f)), some (.int (nI c)), some (.int (nI most)), some (.int (nI (f + a)))] [] 25 := by
    intro hcp m
    induction m with
    | zero =>
      intro a ha hgood
      refine pn_iload (q := 27) dX2_tellsPart_25 rfl rfl ?_
      refine pn_iload_n (q := 28) dX2_tellsPart_27 rfl rfl ?_
      refine pn_iload_n (q := 29) dX2_tellsPart_28 rfl rfl ?_
      first | with_reducible refine pn_iaddN (q := 30) dX2_tellsPart_29 rfl ?_ | refine pn_iadd (q := 30) dX2_tellsPart_29 rfl ?_
      first | refine pn_nge (q := 33) (tgt := 86) dX2_tellsPart_30 (by decide) rfl (by omega) (by omega) (fun hc30 => ?_) (fun hc30 => ?_) | refine pn_icmp_ge (q := 33) (tgt := 86) dX2_tellsPart_30 (by decide) rfl (fun hc30 => ?_) (fun hc30 => ?_)
      · refine pn_iconst (q := 87) (v := nI 1) dX2_tellsPart_86 rfl (by decide) ?_
        refine pn_tret (b := (decide (c = plN sh k) && telN row f c most)) _ ?_ dX2_tellsPart_87 rfl ?_
        · rw [show telN row f c most = true from decide_eq_true (fun i hi => hgood i (by omega)), decide_eq_true hcp]; rfl
        · exact ⟨rfl, rfl⟩
      · omega
    | succ m ih =>
      intro a ha hgood
      rcases hasN_cases (row (f + a)) (most + 1) (by omega) with ⟨h1, h2⟩ | ⟨h1, h3, h2⟩ | ⟨j, hj, h1, h2⟩
      · refine pn_iload (q := 27) dX2_tellsPart_25 rfl rfl ?_
        refine pn_iload_n (q := 28) dX2_tellsPart_27 rfl rfl ?_
        refine pn_iload_n (q := 29) dX2_tellsPart_28 rfl rfl ?_
        first | with_reducible refine pn_iaddN (q := 30) dX2_tellsPart_29 rfl ?_ | refine pn_iadd (q := 30) dX2_tellsPart_29 rfl ?_
        first | refine pn_nge (q := 33) (tgt := 86) dX2_tellsPart_30 (by decide) rfl (by omega) (by omega) (fun hc30 => ?_) (fun hc30 => ?_) | refine pn_icmp_ge (q := 33) (tgt := 86) dX2_tellsPart_30 (by decide) rfl (fun hc30 => ?_) (fun hc30 => ?_)
        · omega
        · refine pn_aload_n (q := 34) dX2_tellsPart_33 rfl rfl rfl ?_
          refine pn_iload (q := 36) dX2_tellsPart_34 rfl rfl ?_
          refine pn_iald (q := 37) dX2_tellsPart_36 rfl rfl rfl (by omega) (by first | decide | omega) ?_
          refine pn_if_lt (q := 40) (tgt := 49) dX2_tellsPart_37 (by decide) rfl (fun hc37 => ?_) (fun hc37 => ?_)
          · refine pn_iconst (q := 50) (v := nI 0) dX2_tellsPart_49 rfl (by decide) ?_
            refine pn_tret (b := (decide (c = plN sh k) && telN row f c most)) _ ?_ dX2_tellsPart_50 rfl ?_
            · rw [show telN row f c most = false from decide_eq_false (fun h9 => by have := (h9 a (by omega)).1; rw [h2] at this; cases this)]; rw [Bool.and_false]; rfl
            · exact ⟨rfl, rfl⟩
          · exact absurd h1 hc37
      · have h4 : ¬ row (f + a) ≤ nI most := fun q => by
          have q1 := Int32.le_iff_toInt_le.mp q
          have q2 := Int32.le_iff_toInt_le.mp h1
          rw [nI_toInt (by omega)] at q1 q2
          omega
        refine pn_iload (q := 27) dX2_tellsPart_25 rfl rfl ?_
        refine pn_iload_n (q := 28) dX2_tellsPart_27 rfl rfl ?_
        refine pn_iload_n (q := 29) dX2_tellsPart_28 rfl rfl ?_
        first | with_reducible refine pn_iaddN (q := 30) dX2_tellsPart_29 rfl ?_ | refine pn_iadd (q := 30) dX2_tellsPart_29 rfl ?_
        first | refine pn_nge (q := 33) (tgt := 86) dX2_tellsPart_30 (by decide) rfl (by omega) (by omega) (fun hc30 => ?_) (fun hc30 => ?_) | refine pn_icmp_ge (q := 33) (tgt := 86) dX2_tellsPart_30 (by decide) rfl (fun hc30 => ?_) (fun hc30 => ?_)
        · omega
        · refine pn_aload_n (q := 34) dX2_tellsPart_33 rfl rfl rfl ?_
          refine pn_iload (q := 36) dX2_tellsPart_34 rfl rfl ?_
          refine pn_iald (q := 37) dX2_tellsPart_36 rfl rfl rfl (by omega) (by first | decide | omega) ?_
          refine pn_if_lt (q := 40) (tgt := 49) dX2_tellsPart_37 (by decide) rfl (fun hc37 => ?_) (fun hc37 => ?_)
          · exact absurd hc37 h3
          · refine pn_aload_n (q := 41) dX2_tellsPart_40 rfl rfl rfl ?_
            refine pn_iload (q := 43) dX2_tellsPart_41 rfl rfl ?_
            refine pn_iald (q := 44) dX2_tellsPart_43 rfl rfl rfl (by omega) (by first | decide | omega) ?_
            refine pn_iload (q := 46) dX2_tellsPart_44 rfl rfl ?_
            refine pn_icmp_le (q := 49) (tgt := 51) dX2_tellsPart_46 (by decide) rfl (fun hc46 => ?_) (fun hc46 => ?_)
            · exact absurd hc46 h4
            · refine pn_iconst (q := 50) (v := nI 0) dX2_tellsPart_49 rfl (by decide) ?_
              refine pn_tret (b := (decide (c = plN sh k) && telN row f c most)) _ ?_ dX2_tellsPart_50 rfl ?_
              · rw [show telN row f c most = false from decide_eq_false (fun h9 => by have := (h9 a (by omega)).1; rw [h2] at this; cases this)]; rw [Bool.and_false]; rfl
              · exact ⟨rfl, rfl⟩
      · have h3 : ¬ row (f + a) < 0 := by rw [h1]; exact nI_pos (by omega)
        have h4 : row (f + a) ≤ nI most := by rw [h1]; exact nI_le (by omega) (by omega)
        have k80 : (∀ j, j < a → row (f + j) ≠ row (f + a)) → pnWP mX2_tellsPart adK (d + 2) (pnIs (.inl (some (.int (nB (decide (c = plN sh k) && telN row f c most))))) (hNet n g sh k pc bc ps bs sf ++ [.inl (0, len, .inl row)])) 0 0 (hNet n g sh k pc bc ps bs sf ++ [.inl (0, len, .inl row)]) [some (.ref 0), some (.ref 4), some (.int (nI f)), some (.int (nI c)), some (.int (nI most)), some (.int (nI (f + a)))] [] 80 := by
          intro hall
          first | refine pn_iinc1 (q := 83) dX2_tellsPart_80 rfl rfl (by decide) ?_ | refine pn_iinc (q := 83) (mm := 1) dX2_tellsPart_80 rfl rfl (by decide) (by decide) ?_
          refine pn_goto (q := 25) dX2_tellsPart_83 (by decide) ?_
          exact ih (a + 1) (by omega) (fun i hi => by rcases Nat.lt_or_ge i a with h9 | h9; exact hgood i h9; rw [show i = a by omega]; exact ⟨h2, hall⟩)
        refine pn_iload (q := 27) dX2_tellsPart_25 rfl rfl ?_
        refine pn_iload_n (q := 28) dX2_tellsPart_27 rfl rfl ?_
        refine pn_iload_n (q := 29) dX2_tellsPart_28 rfl rfl ?_
        first | with_reducible refine pn_iaddN (q := 30) dX2_tellsPart_29 rfl ?_ | refine pn_iadd (q := 30) dX2_tellsPart_29 rfl ?_
        first | refine pn_nge (q := 33) (tgt := 86) dX2_tellsPart_30 (by decide) rfl (by omega) (by omega) (fun hc30 => ?_) (fun hc30 => ?_) | refine pn_icmp_ge (q := 33) (tgt := 86) dX2_tellsPart_30 (by decide) rfl (fun hc30 => ?_) (fun hc30 => ?_)
        · omega
        · refine pn_aload_n (q := 34) dX2_tellsPart_33 rfl rfl rfl ?_
          refine pn_iload (q := 36) dX2_tellsPart_34 rfl rfl ?_
          refine pn_iald (q := 37) dX2_tellsPart_36 rfl rfl rfl (by omega) (by first | decide | omega) ?_
          refine pn_if_lt (q := 40) (tgt := 49) dX2_tellsPart_37 (by decide) rfl (fun hc37 => ?_) (fun hc37 => ?_)
          · exact absurd hc37 h3
          · refine pn_aload_n (q := 41) dX2_tellsPart_40 rfl rfl rfl ?_
            refine pn_iload (q := 43) dX2_tellsPart_41 rfl rfl ?_
            refine pn_iald (q := 44) dX2_tellsPart_43 rfl rfl rfl (by omega) (by first | decide | omega) ?_
            refine pn_iload (q := 46) dX2_tellsPart_44 rfl rfl ?_
            refine pn_icmp_le (q := 49) (tgt := 51) dX2_tellsPart_46 (by decide) rfl (fun hc46 => ?_) (fun hc46 => ?_)
            · refine pn_iload_n (q := 52) dX2_tellsPart_51 rfl rfl ?_
              refine pn_istore (q := 54) dX2_tellsPart_52 rfl (by decide) ?_
              exact inner a (by omega) h2 hcp hgood k80 a 0 (by omega) (fun j hj => by omega)
            · exact absurd h4 hc46
  refine pn_iload_n (q := 1) dX2_tellsPart_0 rfl rfl ?_
  refine pn_aload_n (q := 2) dX2_tellsPart_1 rfl rfl rfl ?_
  refine pn_roV1 (q := 5) (c_places adK d n g sh k pc bc ps bs sf hsh) lkX2_80 dX2_tellsPart_2 rfl rfl (pnSel_of (I := [0, 1, 2, 3]) rfl rfl) (pnFree_none rfl) rfl rfl rfl (by omega) (Nat.le_of_ble_eq_true rfl) rfl ?_
  first | refine pn_nne (q := 8) (tgt := 20) dX2_tellsPart_5 (by decide) rfl (by omega) (by omega) (fun hc5 => ?_) (fun hc5 => ?_) | refine pn_icmp_ne (q := 8) (tgt := 20) dX2_tellsPart_5 (by decide) rfl (fun hc5 => ?_) (fun hc5 => ?_)
  · refine pn_iconst (q := 21) (v := nI 0) dX2_tellsPart_20 rfl (by decide) ?_
    refine pn_tret (b := (decide (c = plN sh k) && telN row f c most)) _ ?_ dX2_tellsPart_21 rfl ?_
    · rw [decide_eq_false ‹_›]; rfl
    · exact ⟨rfl, rfl⟩
  · refine pn_iload_n (q := 9) dX2_tellsPart_8 rfl rfl ?_
    first | refine pn_zlt (q := 12) (tgt := 20) dX2_tellsPart_9 (by decide) rfl (by omega) (fun hc9 => ?_) (fun hc9 => ?_) | refine pn_if_lt (q := 12) (tgt := 20) dX2_tellsPart_9 (by decide) rfl (fun hc9 => ?_) (fun hc9 => ?_)
    · exact hc9.elim
    · refine pn_iload_n (q := 13) dX2_tellsPart_12 rfl rfl ?_
      refine pn_iload_n (q := 14) dX2_tellsPart_13 rfl rfl ?_
      first | with_reducible refine pn_iaddN (q := 15) dX2_tellsPart_14 rfl ?_ | refine pn_iadd (q := 15) dX2_tellsPart_14 rfl ?_
      refine pn_aload_n (q := 16) dX2_tellsPart_15 rfl rfl rfl ?_
      refine pn_alen (q := 17) dX2_tellsPart_16 rfl rfl (by decide) ?_
      first | refine pn_nle (q := 20) (tgt := 22) dX2_tellsPart_17 (by decide) rfl (by omega) (by omega) (fun hc17 => ?_) (fun hc17 => ?_) | refine pn_icmp_le (q := 20) (tgt := 22) dX2_tellsPart_17 (by decide) rfl (fun hc17 => ?_) (fun hc17 => ?_)
      · refine pn_iload_n (q := 23) dX2_tellsPart_22 rfl rfl ?_
        refine pn_istore (q := 25) dX2_tellsPart_23 rfl (by decide) ?_
        exact outer hc5 c 0 (by omega) (fun i hi => by omega)
      · omega
set_option maxRecDepth 100000 in
theorem c_tellsPartS (adK : Nat → Nat) (d : Nat) (n : Nat) (g : Int64) (sh k pc bc : Nat) (ps : Nat → Int64) (bs sf : Nat → Int32)  (f c most : Nat) (hsh : sh ≤ 3) (hk : k ≤ 100) (hlen : 5 ≤ 1000) (hf : f + c ≤ 5) (hm : most ≤ 1000) : pnCt mX2_tellsPart adK (d + 2) 0 0 [.ref 0, .ref 3, .int (nI f), .int (nI c), .int (nI most)] (hNet n g sh k pc bc ps bs sf) (pnIs (.inl (some (.int (nB (decide (c = plN sh k) && telN sf f c most))))) (hNet n g sh k pc bc ps bs sf)) := by
  refine pnCt_of (by decide) kX2_tellsPart (Nat.le_of_ble_eq_true rfl) rfl (hNet_cl _ _ _ _ _ _ _ _ _) (pnCS_b rfl) ?_
  have hpl : plN sh k ≤ 101 := by unfold plN; split <;> omega
  have inner : ∀ (a : Nat), a < c → hasN (most + 1) (sf (f + a)) = true → c = plN sh k → (∀ i, i < a → hasN (most + 1) (sf (f + i)) = true ∧ ∀ j, j < i → sf (f + j) ≠ sf (f + i)) → ((∀ j, j < a → sf (f + j) ≠ sf (f + a)) → pnWP mX2_tellsPart adK (d + 2) (pnIs (.inl (some (.int (nB (decide (c = plN sh k) && telN sf f c most))))) (hNet n g sh k pc bc ps bs sf)) 0 0 (hNet n g sh k pc bc ps bs sf) [some (.ref 0), some (.ref 3), some (.int (nI f)), some (.int (nI c)), some (.int (nI most)), some (.int (nI (f + a)))] [] 80) →
      ∀ (m b : Nat), b + m = a → (∀ j, j < b → sf (f + j) ≠ sf (f + a)) → pnWP mX2_tellsPart adK (d + 2) (pnIs (.inl (some (.int (nB (decide (c = plN sh k) && telN sf f c most))))) (hNet n g sh k pc bc ps bs sf)) 0 0 (hNet n g sh k pc bc ps bs sf) [some (.ref 0), some (.ref 3), some (.int (nI f)), some (.int (nI c)), some (.int (nI most)), some (.int (nI (f + a))), some (.int (nI (f + b)))] [] 54 := by
    intro a ha hok hcp hgood kk m
    induction m with
    | zero =>
      intro b hb hne
      refine pn_iload (q := 56) dX2_tellsPart_54 rfl rfl ?_
      refine pn_iload (q := 58) dX2_tellsPart_56 rfl rfl ?_
      first | refine pn_nge (q := 61) (tgt := 80) dX2_tellsPart_58 (by decide) rfl (by omega) (by omega) (fun hc58 => ?_) (fun hc58 => ?_) | refine pn_icmp_ge (q := 61) (tgt := 80) dX2_tellsPart_58 (by decide) rfl (fun hc58 => ?_) (fun hc58 => ?_)
      · refine pn_locs (L' := [some (.ref 0), some (.ref 3), some (.int (nI f)), some (.int (nI c)), some (.int (nI most)), some (.int (nI (f + a)))]) (And.intro rfl (And.intro rfl (And.intro rfl (And.intro rfl (And.intro rfl (And.intro rfl trivial)))))) (kk (fun j hj => hne j (by omega)))
      · omega
    | succ m ih =>
      intro b hb hne
      refine pn_iload (q := 56) dX2_tellsPart_54 rfl rfl ?_
      refine pn_iload (q := 58) dX2_tellsPart_56 rfl rfl ?_
      first | refine pn_nge (q := 61) (tgt := 80) dX2_tellsPart_58 (by decide) rfl (by omega) (by omega) (fun hc58 => ?_) (fun hc58 => ?_) | refine pn_icmp_ge (q := 61) (tgt := 80) dX2_tellsPart_58 (by decide) rfl (fun hc58 => ?_) (fun hc58 => ?_)
      · omega
      · refine pn_aload_n (q := 62) dX2_tellsPart_61 rfl rfl rfl ?_
        refine pn_iload (q := 64) dX2_tellsPart_62 rfl rfl ?_
        refine pn_iald (q := 65) dX2_tellsPart_64 rfl rfl rfl (by omega) (by first | decide | omega) ?_
        refine pn_aload_n (q := 66) dX2_tellsPart_65 rfl rfl rfl ?_
        refine pn_iload (q := 68) dX2_tellsPart_66 rfl rfl ?_
        refine pn_iald (q := 69) dX2_tellsPart_68 rfl rfl rfl (by omega) (by first | decide | omega) ?_
        refine pn_icmp_ne (q := 72) (tgt := 74) dX2_tellsPart_69 (by decide) rfl (fun hc69 => ?_) (fun hc69 => ?_)
        · first | refine pn_iinc1 (q := 77) dX2_tellsPart_74 rfl rfl (by decide) ?_ | refine pn_iinc (q := 77) (mm := 1) dX2_tellsPart_74 rfl rfl (by decide) (by decide) ?_
          refine pn_goto (q := 54) dX2_tellsPart_77 (by decide) ?_
          exact ih (b + 1) (by omega) (fun j hj => by rcases Nat.lt_or_ge j b with h9 | h9; exact hne j h9; rw [show j = b by omega]; exact hc69)
        · refine pn_iconst (q := 73) (v := nI 0) dX2_tellsPart_72 rfl (by decide) ?_
          refine pn_tret (b := (decide (c = plN sh k) && telN sf f c most)) _ ?_ dX2_tellsPart_73 rfl ?_
          · rw [show telN sf f c most = false from decide_eq_false (fun h9 => (h9 a ha).2 b (by omega) hc69)]; rw [Bool.and_false]; rfl
          · exact ⟨rfl, rfl⟩
  have outer : c = plN sh k → ∀ (m a : Nat), a + m = c → (∀ i, i < a → hasN (most + 1) (sf (f + i)) = true ∧ ∀ j, j < i → sf (f + j) ≠ sf (f + i)) → pnWP mX2_tellsPart adK (d + 2) (pnIs (.inl (some (.int (nB (decide (c = plN sh k) && telN sf f c most))))) (hNet n g sh k pc bc ps bs sf)) 0 0 (hNet n g sh k pc bc ps bs sf) [some (.ref 0), some (.ref 3), some (.int (nI f)), some (.int (nI c)), some (.int (nI most)), some (.int (nI (f + a)))] [] 25 := by
    intro hcp m
    induction m with
    | zero =>
      intro a ha hgood
      refine pn_iload (q := 27) dX2_tellsPart_25 rfl rfl ?_
      refine pn_iload_n (q := 28) dX2_tellsPart_27 rfl rfl ?_
      refine pn_iload_n (q := 29) dX2_tellsPart_28 rfl rfl ?_
      first | with_reducible refine pn_iaddN (q := 30) dX2_tellsPart_29 rfl ?_ | refine pn_iadd (q := 30) dX2_tellsPart_29 rfl ?_
      first | refine pn_nge (q := 33) (tgt := 86) dX2_tellsPart_30 (by decide) rfl (by omega) (by omega) (fun hc30 => ?_) (fun hc30 => ?_) | refine pn_icmp_ge (q := 33) (tgt := 86) dX2_tellsPart_30 (by decide) rfl (fun hc30 => ?_) (fun hc30 => ?_)
      · refine pn_iconst (q := 87) (v := nI 1) dX2_tellsPart_86 rfl (by decide) ?_
        refine pn_tret (b := (decide (c = plN sh k) && telN sf f c most)) _ ?_ dX2_tellsPart_87 rfl ?_
        · rw [show telN sf f c most = true from decide_eq_true (fun i hi => hgood i (by omega)), decide_eq_true hcp]; rfl
        · exact ⟨rfl, rfl⟩
      · omega
    | succ m ih =>
      intro a ha hgood
      rcases hasN_cases (sf (f + a)) (most + 1) (by omega) with ⟨h1, h2⟩ | ⟨h1, h3, h2⟩ | ⟨j, hj, h1, h2⟩
      · refine pn_iload (q := 27) dX2_tellsPart_25 rfl rfl ?_
        refine pn_iload_n (q := 28) dX2_tellsPart_27 rfl rfl ?_
        refine pn_iload_n (q := 29) dX2_tellsPart_28 rfl rfl ?_
        first | with_reducible refine pn_iaddN (q := 30) dX2_tellsPart_29 rfl ?_ | refine pn_iadd (q := 30) dX2_tellsPart_29 rfl ?_
        first | refine pn_nge (q := 33) (tgt := 86) dX2_tellsPart_30 (by decide) rfl (by omega) (by omega) (fun hc30 => ?_) (fun hc30 => ?_) | refine pn_icmp_ge (q := 33) (tgt := 86) dX2_tellsPart_30 (by decide) rfl (fun hc30 => ?_) (fun hc30 => ?_)
        · omega
        · refine pn_aload_n (q := 34) dX2_tellsPart_33 rfl rfl rfl ?_
          refine pn_iload (q := 36) dX2_tellsPart_34 rfl rfl ?_
          refine pn_iald (q := 37) dX2_tellsPart_36 rfl rfl rfl (by omega) (by first | decide | omega) ?_
          refine pn_if_lt (q := 40) (tgt := 49) dX2_tellsPart_37 (by decide) rfl (fun hc37 => ?_) (fun hc37 => ?_)
          · refine pn_iconst (q := 50) (v := nI 0) dX2_tellsPart_49 rfl (by decide) ?_
            refine pn_tret (b := (decide (c = plN sh k) && telN sf f c most)) _ ?_ dX2_tellsPart_50 rfl ?_
            · rw [show telN sf f c most = false from decide_eq_false (fun h9 => by have := (h9 a (by omega)).1; rw [h2] at this; cases this)]; rw [Bool.and_false]; rfl
            · exact ⟨rfl, rfl⟩
          · exact absurd h1 hc37
      · have h4 : ¬ sf (f + a) ≤ nI most := fun q => by
          have q1 := Int32.le_iff_toInt_le.mp q
          have q2 := Int32.le_iff_toInt_le.mp h1
          rw [nI_toInt (by omega)] at q1 q2
          omega
        refine pn_iload (q := 27) dX2_tellsPart_25 rfl rfl ?_
        refine pn_iload_n (q := 28) dX2_tellsPart_27 rfl rfl ?_
        refine pn_iload_n (q := 29) dX2_tellsPart_28 rfl rfl ?_
        first | with_reducible refine pn_iaddN (q := 30) dX2_tellsPart_29 rfl ?_ | refine pn_iadd (q := 30) dX2_tellsPart_29 rfl ?_
        first | refine pn_nge (q := 33) (tgt := 86) dX2_tellsPart_30 (by decide) rfl (by omega) (by omega) (fun hc30 => ?_) (fun hc30 => ?_) | refine pn_icmp_ge (q := 33) (tgt := 86) dX2_tellsPart_30 (by decide) rfl (fun hc30 => ?_) (fun hc30 => ?_)
        · omega
        · refine pn_aload_n (q := 34) dX2_tellsPart_33 rfl rfl rfl ?_
          refine pn_iload (q := 36) dX2_tellsPart_34 rfl rfl ?_
          refine pn_iald (q := 37) dX2_tellsPart_36 rfl rfl rfl (by omega) (by first | decide | omega) ?_
          refine pn_if_lt (q := 40) (tgt := 49) dX2_tellsPart_37 (by decide) rfl (fun hc37 => ?_) (fun hc37 => ?_)
          · exact absurd hc37 h3
          · refine pn_aload_n (q := 41) dX2_tellsPart_40 rfl rfl rfl ?_
            refine pn_iload (q := 43) dX2_tellsPart_41 rfl rfl ?_
            refine pn_iald (q := 44) dX2_tellsPart_43 rfl rfl rfl (by omega) (by first | decide | omega) ?_
            refine pn_iload (q := 46) dX2_tellsPart_44 rfl rfl ?_
            refine pn_icmp_le (q := 49) (tgt := 51) dX2_tellsPart_46 (by decide) rfl (fun hc46 => ?_) (fun hc46 => ?_)
            · exact absurd hc46 h4
            · refine pn_iconst (q := 50) (v := nI 0) dX2_tellsPart_49 rfl (by decide) ?_
              refine pn_tret (b := (decide (c = plN sh k) && telN sf f c most)) _ ?_ dX2_tellsPart_50 rfl ?_
              · rw [show telN sf f c most = false from decide_eq_false (fun h9 => by have := (h9 a (by omega)).1; rw [h2] at this; cases this)]; rw [Bool.and_false]; rfl
              · exact ⟨rfl, rfl⟩
      · have h3 : ¬ sf (f + a) < 0 := by rw [h1]; exact nI_pos (by omega)
        have h4 : sf (f + a) ≤ nI most := by rw [h1]; exact nI_le (by omega) (by omega)
        have k80 : (∀ j, j < a → sf (f + j) ≠ sf (f + a)) → pnWP mX2_tellsPart adK (d + 2) (pnIs (.inl (some (.int (nB (decide (c = plN sh k) && telN sf f c most))))) (hNet n g sh k pc bc ps bs sf)) 0 0 (hNet n g sh k pc bc ps bs sf) [some (.ref 0), some (.ref 3), some (.int (nI f)), some (.int (nI c)), some (.int (nI most)), some (.int (nI (f + a)))] [] 80 := by
          intro hall
          first | refine pn_iinc1 (q := 83) dX2_tellsPart_80 rfl rfl (by decide) ?_ | refine pn_iinc (q := 83) (mm := 1) dX2_tellsPart_80 rfl rfl (by decide) (by decide) ?_
          refine pn_goto (q := 25) dX2_tellsPart_83 (by decide) ?_
          exact ih (a + 1) (by omega) (fun i hi => by rcases Nat.lt_or_ge i a with h9 | h9; exact hgood i h9; rw [show i = a by omega]; exact ⟨h2, hall⟩)
        refine pn_iload (q := 27) dX2_tellsPart_25 rfl rfl ?_
        refine pn_iload_n (q := 28) dX2_tellsPart_27 rfl rfl ?_
        refine pn_iload_n (q := 29) dX2_tellsPart_28 rfl rfl ?_
        first | with_reducible refine pn_iaddN (q := 30) dX2_tellsPart_29 rfl ?_ | refine pn_iadd (q := 30) dX2_tellsPart_29 rfl ?_
        first | refine pn_nge (q := 33) (tgt := 86) dX2_tellsPart_30 (by decide) rfl (by omega) (by omega) (fun hc30 => ?_) (fun hc30 => ?_) | refine pn_icmp_ge (q := 33) (tgt := 86) dX2_tellsPart_30 (by decide) rfl (fun hc30 => ?_) (fun hc30 => ?_)
        · omega
        · refine pn_aload_n (q := 34) dX2_tellsPart_33 rfl rfl rfl ?_
          refine pn_iload (q := 36) dX2_tellsPart_34 rfl rfl ?_
          refine pn_iald (q := 37) dX2_tellsPart_36 rfl rfl rfl (by omega) (by first | decide | omega) ?_
          refine pn_if_lt (q := 40) (tgt := 49) dX2_tellsPart_37 (by decide) rfl (fun hc37 => ?_) (fun hc37 => ?_)
          · exact absurd hc37 h3
          · refine pn_aload_n (q := 41) dX2_tellsPart_40 rfl rfl rfl ?_
            refine pn_iload (q := 43) dX2_tellsPart_41 rfl rfl ?_
            refine pn_iald (q := 44) dX2_tellsPart_43 rfl rfl rfl (by omega) (by first | decide | omega) ?_
            refine pn_iload (q := 46) dX2_tellsPart_44 rfl rfl ?_
            refine pn_icmp_le (q := 49) (tgt := 51) dX2_tellsPart_46 (by decide) rfl (fun hc46 => ?_) (fun hc46 => ?_)
            · refine pn_iload_n (q := 52) dX2_tellsPart_51 rfl rfl ?_
              refine pn_istore (q := 54) dX2_tellsPart_52 rfl (by decide) ?_
              exact inner a (by omega) h2 hcp hgood k80 a 0 (by omega) (fun j hj => by omega)
            · exact absurd h4 hc46
  refine pn_iload_n (q := 1) dX2_tellsPart_0 rfl rfl ?_
  refine pn_aload_n (q := 2) dX2_tellsPart_1 rfl rfl rfl ?_
  refine pn_roV1 (q := 5) (c_places adK d n g sh k pc bc ps bs sf hsh) lkX2_80 dX2_tellsPart_2 rfl rfl (pnSel_of (I := [0, 1, 2, 3]) rfl rfl) (pnFree_none rfl) rfl rfl rfl (by omega) (Nat.le_of_ble_eq_true rfl) rfl ?_
  first | refine pn_nne (q := 8) (tgt := 20) dX2_tellsPart_5 (by decide) rfl (by omega) (by omega) (fun hc5 => ?_) (fun hc5 => ?_) | refine pn_icmp_ne (q := 8) (tgt := 20) dX2_tellsPart_5 (by decide) rfl (fun hc5 => ?_) (fun hc5 => ?_)
  · refine pn_iconst (q := 21) (v := nI 0) dX2_tellsPart_20 rfl (by decide) ?_
    refine pn_tret (b := (decide (c = plN sh k) && telN sf f c most)) _ ?_ dX2_tellsPart_21 rfl ?_
    · rw [decide_eq_false ‹_›]; rfl
    · exact ⟨rfl, rfl⟩
  · refine pn_iload_n (q := 9) dX2_tellsPart_8 rfl rfl ?_
    first | refine pn_zlt (q := 12) (tgt := 20) dX2_tellsPart_9 (by decide) rfl (by omega) (fun hc9 => ?_) (fun hc9 => ?_) | refine pn_if_lt (q := 12) (tgt := 20) dX2_tellsPart_9 (by decide) rfl (fun hc9 => ?_) (fun hc9 => ?_)
    · exact hc9.elim
    · refine pn_iload_n (q := 13) dX2_tellsPart_12 rfl rfl ?_
      refine pn_iload_n (q := 14) dX2_tellsPart_13 rfl rfl ?_
      first | with_reducible refine pn_iaddN (q := 15) dX2_tellsPart_14 rfl ?_ | refine pn_iadd (q := 15) dX2_tellsPart_14 rfl ?_
      refine pn_aload_n (q := 16) dX2_tellsPart_15 rfl rfl rfl ?_
      refine pn_alen (q := 17) dX2_tellsPart_16 rfl rfl (by decide) ?_
      first | refine pn_nle (q := 20) (tgt := 22) dX2_tellsPart_17 (by decide) rfl (by omega) (by omega) (fun hc17 => ?_) (fun hc17 => ?_) | refine pn_icmp_le (q := 20) (tgt := 22) dX2_tellsPart_17 (by decide) rfl (fun hc17 => ?_) (fun hc17 => ?_)
      · refine pn_iload_n (q := 23) dX2_tellsPart_22 rfl rfl ?_
        refine pn_istore (q := 25) dX2_tellsPart_23 rfl (by decide) ?_
        exact outer hc5 c 0 (by omega) (fun i hi => by omega)
      · omega
set_option maxRecDepth 100000 in
theorem c_tellsPartB (adK : Nat → Nat) (d : Nat) (n : Nat) (g : Int64) (sh k pc bc : Nat) (ps : Nat → Int64) (bs sf : Nat → Int32)  (f c most : Nat) (hsh : sh ≤ 3) (hk : k ≤ 100) (hlen : 20 ≤ 1000) (hf : f + c ≤ 20) (hm : most ≤ 1000) : pnCt mX2_tellsPart adK (d + 2) 0 0 [.ref 0, .ref 2, .int (nI f), .int (nI c), .int (nI most)] (hNet n g sh k pc bc ps bs sf) (pnIs (.inl (some (.int (nB (decide (c = plN sh k) && telN bs f c most))))) (hNet n g sh k pc bc ps bs sf)) := by
  refine pnCt_of (by decide) kX2_tellsPart (Nat.le_of_ble_eq_true rfl) rfl (hNet_cl _ _ _ _ _ _ _ _ _) (pnCS_b rfl) ?_
  have hpl : plN sh k ≤ 101 := by unfold plN; split <;> omega
  have inner : ∀ (a : Nat), a < c → hasN (most + 1) (bs (f + a)) = true → c = plN sh k → (∀ i, i < a → hasN (most + 1) (bs (f + i)) = true ∧ ∀ j, j < i → bs (f + j) ≠ bs (f + i)) → ((∀ j, j < a → bs (f + j) ≠ bs (f + a)) → pnWP mX2_tellsPart adK (d + 2) (pnIs (.inl (some (.int (nB (decide (c = plN sh k) && telN bs f c most))))) (hNet n g sh k pc bc ps bs sf)) 0 0 (hNet n g sh k pc bc ps bs sf) [some (.ref 0), some (.ref 2), some (.int (nI f)), some (.int (nI c)), some (.int (nI most)), some (.int (nI (f + a)))] [] 80) →
      ∀ (m b : Nat), b + m = a → (∀ j, j < b → bs (f + j) ≠ bs (f + a)) → pnWP mX2_tellsPart adK (d + 2) (pnIs (.inl (some (.int (nB (decide (c = plN sh k) && telN bs f c most))))) (hNet n g sh k pc bc ps bs sf)) 0 0 (hNet n g sh k pc bc ps bs sf) [some (.ref 0), some (.ref 2), some (.int (nI f)), some (.int (nI c)), some (.int (nI most)), some (.int (nI (f + a))), some (.int (nI (f + b)))] [] 54 := by
    intro a ha hok hcp hgood kk m
    induction m with
    | zero =>
      intro b hb hne
      refine pn_iload (q := 56) dX2_tellsPart_54 rfl rfl ?_
      refine pn_iload (q := 58) dX2_tellsPart_56 rfl rfl ?_
      first | refine pn_nge (q := 61) (tgt := 80) dX2_tellsPart_58 (by decide) rfl (by omega) (by omega) (fun hc58 => ?_) (fun hc58 => ?_) | refine pn_icmp_ge (q := 61) (tgt := 80) dX2_tellsPart_58 (by decide) rfl (fun hc58 => ?_) (fun hc58 => ?_)
      · refine pn_locs (L' := [some (.ref 0), some (.ref 2), some (.int (nI f)), some (.int (nI c)), some (.int (nI most)), some (.int (nI (f + a)))]) (And.intro rfl (And.intro rfl (And.intro rfl (And.intro rfl (And.intro rfl (And.intro rfl trivial)))))) (kk (fun j hj => hne j (by omega)))
      · omega
    | succ m ih =>
      intro b hb hne
      refine pn_iload (q := 56) dX2_tellsPart_54 rfl rfl ?_
      refine pn_iload (q := 58) dX2_tellsPart_56 rfl rfl ?_
      first | refine pn_nge (q := 61) (tgt := 80) dX2_tellsPart_58 (by decide) rfl (by omega) (by omega) (fun hc58 => ?_) (fun hc58 => ?_) | refine pn_icmp_ge (q := 61) (tgt := 80) dX2_tellsPart_58 (by decide) rfl (fun hc58 => ?_) (fun hc58 => ?_)
      · omega
      · refine pn_aload_n (q := 62) dX2_tellsPart_61 rfl rfl rfl ?_
        refine pn_iload (q := 64) dX2_tellsPart_62 rfl rfl ?_
        refine pn_iald (q := 65) dX2_tellsPart_64 rfl rfl rfl (by omega) (by first | decide | omega) ?_
        refine pn_aload_n (q := 66) dX2_tellsPart_65 rfl rfl rfl ?_
        refine pn_iload (q := 68) dX2_tellsPart_66 rfl rfl ?_
        refine pn_iald (q := 69) dX2_tellsPart_68 rfl rfl rfl (by omega) (by first | decide | omega) ?_
        refine pn_icmp_ne (q := 72) (tgt := 74) dX2_tellsPart_69 (by decide) rfl (fun hc69 => ?_) (fun hc69 => ?_)
        · first | refine pn_iinc1 (q := 77) dX2_tellsPart_74 rfl rfl (by decide) ?_ | refine pn_iinc (q := 77) (mm := 1) dX2_tellsPart_74 rfl rfl (by decide) (by decide) ?_
          refine pn_goto (q := 54) dX2_tellsPart_77 (by decide) ?_
          exact ih (b + 1) (by omega) (fun j hj => by rcases Nat.lt_or_ge j b with h9 | h9; exact hne j h9; rw [show j = b by omega]; exact hc69)
        · refine pn_iconst (q := 73) (v := nI 0) dX2_tellsPart_72 rfl (by decide) ?_
          refine pn_tret (b := (decide (c = plN sh k) && telN bs f c most)) _ ?_ dX2_tellsPart_73 rfl ?_
          · rw [show telN bs f c most = false from decide_eq_false (fun h9 => (h9 a ha).2 b (by omega) hc69)]; rw [Bool.and_false]; rfl
          · exact ⟨rfl, rfl⟩
  have outer : c = plN sh k → ∀ (m a : Nat), a + m = c → (∀ i, i < a → hasN (most + 1) (bs (f + i)) = true ∧ ∀ j, j < i → bs (f + j) ≠ bs (f + i)) → pnWP mX2_tellsPart adK (d + 2) (pnIs (.inl (some (.int (nB (decide (c = plN sh k) && telN bs f c most))))) (hNet n g sh k pc bc ps bs sf)) 0 0 (hNet n g sh k pc bc ps bs sf) [some (.ref 0), some (.ref 2), some (.int (nI f)), some (.int (nI c)), some (.int (nI most)), some (.int (nI (f + a)))] [] 25 := by
    intro hcp m
    induction m with
    | zero =>
      intro a ha hgood
      refine pn_iload (q := 27) dX2_tellsPart_25 rfl rfl ?_
      refine pn_iload_n (q := 28) dX2_tellsPart_27 rfl rfl ?_
      refine pn_iload_n (q := 29) dX2_tellsPart_28 rfl rfl ?_
      first | with_reducible refine pn_iaddN (q := 30) dX2_tellsPart_29 rfl ?_ | refine pn_iadd (q := 30) dX2_tellsPart_29 rfl ?_
      first | refine pn_nge (q := 33) (tgt := 86) dX2_tellsPart_30 (by decide) rfl (by omega) (by omega) (fun hc30 => ?_) (fun hc30 => ?_) | refine pn_icmp_ge (q := 33) (tgt := 86) dX2_tellsPart_30 (by decide) rfl (fun hc30 => ?_) (fun hc30 => ?_)
      · refine pn_iconst (q := 87) (v := nI 1) dX2_tellsPart_86 rfl (by decide) ?_
        refine pn_tret (b := (decide (c = plN sh k) && telN bs f c most)) _ ?_ dX2_tellsPart_87 rfl ?_
        · rw [show telN bs f c most = true from decide_eq_true (fun i hi => hgood i (by omega)), decide_eq_true hcp]; rfl
        · exact ⟨rfl, rfl⟩
      · omega
    | succ m ih =>
      intro a ha hgood
      rcases hasN_cases (bs (f + a)) (most + 1) (by omega) with ⟨h1, h2⟩ | ⟨h1, h3, h2⟩ | ⟨j, hj, h1, h2⟩
      · refine pn_iload (q := 27) dX2_tellsPart_25 rfl rfl ?_
        refine pn_iload_n (q := 28) dX2_tellsPart_27 rfl rfl ?_
        refine pn_iload_n (q := 29) dX2_tellsPart_28 rfl rfl ?_
        first | with_reducible refine pn_iaddN (q := 30) dX2_tellsPart_29 rfl ?_ | refine pn_iadd (q := 30) dX2_tellsPart_29 rfl ?_
        first | refine pn_nge (q := 33) (tgt := 86) dX2_tellsPart_30 (by decide) rfl (by omega) (by omega) (fun hc30 => ?_) (fun hc30 => ?_) | refine pn_icmp_ge (q := 33) (tgt := 86) dX2_tellsPart_30 (by decide) rfl (fun hc30 => ?_) (fun hc30 => ?_)
        · omega
        · refine pn_aload_n (q := 34) dX2_tellsPart_33 rfl rfl rfl ?_
          refine pn_iload (q := 36) dX2_tellsPart_34 rfl rfl ?_
          refine pn_iald (q := 37) dX2_tellsPart_36 rfl rfl rfl (by omega) (by first | decide | omega) ?_
          refine pn_if_lt (q := 40) (tgt := 49) dX2_tellsPart_37 (by decide) rfl (fun hc37 => ?_) (fun hc37 => ?_)
          · refine pn_iconst (q := 50) (v := nI 0) dX2_tellsPart_49 rfl (by decide) ?_
            refine pn_tret (b := (decide (c = plN sh k) && telN bs f c most)) _ ?_ dX2_tellsPart_50 rfl ?_
            · rw [show telN bs f c most = false from decide_eq_false (fun h9 => by have := (h9 a (by omega)).1; rw [h2] at this; cases this)]; rw [Bool.and_false]; rfl
            · exact ⟨rfl, rfl⟩
          · exact absurd h1 hc37
      · have h4 : ¬ bs (f + a) ≤ nI most := fun q => by
          have q1 := Int32.le_iff_toInt_le.mp q
          have q2 := Int32.le_iff_toInt_le.mp h1
          rw [nI_toInt (by omega)] at q1 q2
          omega
        refine pn_iload (q := 27) dX2_tellsPart_25 rfl rfl ?_
        refine pn_iload_n (q := 28) dX2_tellsPart_27 rfl rfl ?_
        refine pn_iload_n (q := 29) dX2_tellsPart_28 rfl rfl ?_
        first | with_reducible refine pn_iaddN (q := 30) dX2_tellsPart_29 rfl ?_ | refine pn_iadd (q := 30) dX2_tellsPart_29 rfl ?_
        first | refine pn_nge (q := 33) (tgt := 86) dX2_tellsPart_30 (by decide) rfl (by omega) (by omega) (fun hc30 => ?_) (fun hc30 => ?_) | refine pn_icmp_ge (q := 33) (tgt := 86) dX2_tellsPart_30 (by decide) rfl (fun hc30 => ?_) (fun hc30 => ?_)
        · omega
        · refine pn_aload_n (q := 34) dX2_tellsPart_33 rfl rfl rfl ?_
          refine pn_iload (q := 36) dX2_tellsPart_34 rfl rfl ?_
          refine pn_iald (q := 37) dX2_tellsPart_36 rfl rfl rfl (by omega) (by first | decide | omega) ?_
          refine pn_if_lt (q := 40) (tgt := 49) dX2_tellsPart_37 (by decide) rfl (fun hc37 => ?_) (fun hc37 => ?_)
          · exact absurd hc37 h3
          · refine pn_aload_n (q := 41) dX2_tellsPart_40 rfl rfl rfl ?_
            refine pn_iload (q := 43) dX2_tellsPart_41 rfl rfl ?_
            refine pn_iald (q := 44) dX2_tellsPart_43 rfl rfl rfl (by omega) (by first | decide | omega) ?_
            refine pn_iload (q := 46) dX2_tellsPart_44 rfl rfl ?_
            refine pn_icmp_le (q := 49) (tgt := 51) dX2_tellsPart_46 (by decide) rfl (fun hc46 => ?_) (fun hc46 => ?_)
            · exact absurd hc46 h4
            · refine pn_iconst (q := 50) (v := nI 0) dX2_tellsPart_49 rfl (by decide) ?_
              refine pn_tret (b := (decide (c = plN sh k) && telN bs f c most)) _ ?_ dX2_tellsPart_50 rfl ?_
              · rw [show telN bs f c most = false from decide_eq_false (fun h9 => by have := (h9 a (by omega)).1; rw [h2] at this; cases this)]; rw [Bool.and_false]; rfl
              · exact ⟨rfl, rfl⟩
      · have h3 : ¬ bs (f + a) < 0 := by rw [h1]; exact nI_pos (by omega)
        have h4 : bs (f + a) ≤ nI most := by rw [h1]; exact nI_le (by omega) (by omega)
        have k80 : (∀ j, j < a → bs (f + j) ≠ bs (f + a)) → pnWP mX2_tellsPart adK (d + 2) (pnIs (.inl (some (.int (nB (decide (c = plN sh k) && telN bs f c most))))) (hNet n g sh k pc bc ps bs sf)) 0 0 (hNet n g sh k pc bc ps bs sf) [some (.ref 0), some (.ref 2), some (.int (nI f)), some (.int (nI c)), some (.int (nI most)), some (.int (nI (f + a)))] [] 80 := by
          intro hall
          first | refine pn_iinc1 (q := 83) dX2_tellsPart_80 rfl rfl (by decide) ?_ | refine pn_iinc (q := 83) (mm := 1) dX2_tellsPart_80 rfl rfl (by decide) (by decide) ?_
          refine pn_goto (q := 25) dX2_tellsPart_83 (by decide) ?_
          exact ih (a + 1) (by omega) (fun i hi => by rcases Nat.lt_or_ge i a with h9 | h9; exact hgood i h9; rw [show i = a by omega]; exact ⟨h2, hall⟩)
        refine pn_iload (q := 27) dX2_tellsPart_25 rfl rfl ?_
        refine pn_iload_n (q := 28) dX2_tellsPart_27 rfl rfl ?_
        refine pn_iload_n (q := 29) dX2_tellsPart_28 rfl rfl ?_
        first | with_reducible refine pn_iaddN (q := 30) dX2_tellsPart_29 rfl ?_ | refine pn_iadd (q := 30) dX2_tellsPart_29 rfl ?_
        first | refine pn_nge (q := 33) (tgt := 86) dX2_tellsPart_30 (by decide) rfl (by omega) (by omega) (fun hc30 => ?_) (fun hc30 => ?_) | refine pn_icmp_ge (q := 33) (tgt := 86) dX2_tellsPart_30 (by decide) rfl (fun hc30 => ?_) (fun hc30 => ?_)
        · omega
        · refine pn_aload_n (q := 34) dX2_tellsPart_33 rfl rfl rfl ?_
          refine pn_iload (q := 36) dX2_tellsPart_34 rfl rfl ?_
          refine pn_iald (q := 37) dX2_tellsPart_36 rfl rfl rfl (by omega) (by first | decide | omega) ?_
          refine pn_if_lt (q := 40) (tgt := 49) dX2_tellsPart_37 (by decide) rfl (fun hc37 => ?_) (fun hc37 => ?_)
          · exact absurd hc37 h3
          · refine pn_aload_n (q := 41) dX2_tellsPart_40 rfl rfl rfl ?_
            refine pn_iload (q := 43) dX2_tellsPart_41 rfl rfl ?_
            refine pn_iald (q := 44) dX2_tellsPart_43 rfl rfl rfl (by omega) (by first | decide | omega) ?_
            refine pn_iload (q := 46) dX2_tellsPart_44 rfl rfl ?_
            refine pn_icmp_le (q := 49) (tgt := 51) dX2_tellsPart_46 (by decide) rfl (fun hc46 => ?_) (fun hc46 => ?_)
            · refine pn_iload_n (q := 52) dX2_tellsPart_51 rfl rfl ?_
              refine pn_istore (q := 54) dX2_tellsPart_52 rfl (by decide) ?_
              exact inner a (by omega) h2 hcp hgood k80 a 0 (by omega) (fun j hj => by omega)
            · exact absurd h4 hc46
  refine pn_iload_n (q := 1) dX2_tellsPart_0 rfl rfl ?_
  refine pn_aload_n (q := 2) dX2_tellsPart_1 rfl rfl rfl ?_
  refine pn_roV1 (q := 5) (c_places adK d n g sh k pc bc ps bs sf hsh) lkX2_80 dX2_tellsPart_2 rfl rfl (pnSel_of (I := [0, 1, 2, 3]) rfl rfl) (pnFree_none rfl) rfl rfl rfl (by omega) (Nat.le_of_ble_eq_true rfl) rfl ?_
  first | refine pn_nne (q := 8) (tgt := 20) dX2_tellsPart_5 (by decide) rfl (by omega) (by omega) (fun hc5 => ?_) (fun hc5 => ?_) | refine pn_icmp_ne (q := 8) (tgt := 20) dX2_tellsPart_5 (by decide) rfl (fun hc5 => ?_) (fun hc5 => ?_)
  · refine pn_iconst (q := 21) (v := nI 0) dX2_tellsPart_20 rfl (by decide) ?_
    refine pn_tret (b := (decide (c = plN sh k) && telN bs f c most)) _ ?_ dX2_tellsPart_21 rfl ?_
    · rw [decide_eq_false ‹_›]; rfl
    · exact ⟨rfl, rfl⟩
  · refine pn_iload_n (q := 9) dX2_tellsPart_8 rfl rfl ?_
    first | refine pn_zlt (q := 12) (tgt := 20) dX2_tellsPart_9 (by decide) rfl (by omega) (fun hc9 => ?_) (fun hc9 => ?_) | refine pn_if_lt (q := 12) (tgt := 20) dX2_tellsPart_9 (by decide) rfl (fun hc9 => ?_) (fun hc9 => ?_)
    · exact hc9.elim
    · refine pn_iload_n (q := 13) dX2_tellsPart_12 rfl rfl ?_
      refine pn_iload_n (q := 14) dX2_tellsPart_13 rfl rfl ?_
      first | with_reducible refine pn_iaddN (q := 15) dX2_tellsPart_14 rfl ?_ | refine pn_iadd (q := 15) dX2_tellsPart_14 rfl ?_
      refine pn_aload_n (q := 16) dX2_tellsPart_15 rfl rfl rfl ?_
      refine pn_alen (q := 17) dX2_tellsPart_16 rfl rfl (by decide) ?_
      first | refine pn_nle (q := 20) (tgt := 22) dX2_tellsPart_17 (by decide) rfl (by omega) (by omega) (fun hc17 => ?_) (fun hc17 => ?_) | refine pn_icmp_le (q := 20) (tgt := 22) dX2_tellsPart_17 (by decide) rfl (fun hc17 => ?_) (fun hc17 => ?_)
      · refine pn_iload_n (q := 23) dX2_tellsPart_22 rfl rfl ?_
        refine pn_istore (q := 25) dX2_tellsPart_23 rfl (by decide) ?_
        exact outer hc5 c 0 (by omega) (fun i hi => by omega)
      · omega
