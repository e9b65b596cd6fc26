def bc1 (x : Int64) : Int64 := x - ((x.toUInt64 >>> ((nI 1).toInt64.toUInt64 &&& Int64.toUInt64 63)).toInt64 &&& 6148914691236517205)
def bc2 (x : Int64) : Int64 := (x &&& 3689348814741910323) + ((x.toUInt64 >>> ((nI 2).toInt64.toUInt64 &&& Int64.toUInt64 63)).toInt64 &&& 3689348814741910323)
def bc3 (x : Int64) : Int64 := (x + (x.toUInt64 >>> ((nI 4).toInt64.toUInt64 &&& Int64.toUInt64 63)).toInt64) &&& 1085102592571150095
def bc4 (j : Nat) (x : Int64) : Int64 := x + (x.toUInt64 >>> ((nI j).toInt64.toUInt64 &&& Int64.toUInt64 63)).toInt64
def bcI (x : Int64) : Int32 := (bc4 32 (bc4 16 (bc4 8 (bc3 (bc2 (bc1 x)))))).toInt32 &&& nI 127
set_option maxRecDepth 100000 in
theorem c_bitCount (adK : Nat → Nat) (d : Nat) (x : Int64) : pnCt mJ13_bitCount_95d88 adK d 0 0 [.long x] [] (pnIs (.inl (some (.int (bcI x)))) []) := by
  refine pnCt_of (by decide) kJ13_bitCount_95d88 (Nat.le_of_ble_eq_true rfl) rfl (pnCH_b rfl) (pnCS_b rfl) ?_
  refine pn_lload_n (q := 1) dJ13_bitCount_95d88_0 rfl rfl ?_
  refine pn_lload_n (q := 2) dJ13_bitCount_95d88_1 rfl rfl ?_
  refine pn_iconst (q := 3) (v := nI 1) dJ13_bitCount_95d88_2 rfl (by decide) ?_
  refine pn_lushr (q := 4) dJ13_bitCount_95d88_3 rfl ?_
  refine pn_ldc2 (q := 7) pw_475 dJ13_bitCount_95d88_4 rfl ?_
  refine pn_land (q := 8) dJ13_bitCount_95d88_7 rfl ?_
  refine pn_lsub (q := 9) dJ13_bitCount_95d88_8 rfl ?_
  refine pn_lstore_n (q := 10) dJ13_bitCount_95d88_9 rfl (by decide) ?_
  refine pn_lload_n (q := 11) dJ13_bitCount_95d88_10 rfl rfl ?_
  refine pn_ldc2 (q := 14) pw_476 dJ13_bitCount_95d88_11 rfl ?_
  refine pn_land (q := 15) dJ13_bitCount_95d88_14 rfl ?_
  refine pn_lload_n (q := 16) dJ13_bitCount_95d88_15 rfl rfl ?_
  refine pn_iconst (q := 17) (v := nI 2) dJ13_bitCount_95d88_16 rfl (by decide) ?_
  refine pn_lushr (q := 18) dJ13_bitCount_95d88_17 rfl ?_
  refine pn_ldc2 (q := 21) pw_476 dJ13_bitCount_95d88_18 rfl ?_
  refine pn_land (q := 22) dJ13_bitCount_95d88_21 rfl ?_
  refine pn_ladd (q := 23) dJ13_bitCount_95d88_22 rfl ?_
  refine pn_lstore_n (q := 24) dJ13_bitCount_95d88_23 rfl (by decide) ?_
  refine pn_lload_n (q := 25) dJ13_bitCount_95d88_24 rfl rfl ?_
  refine pn_lload_n (q := 26) dJ13_bitCount_95d88_25 rfl rfl ?_
  refine pn_iconst (q := 27) (v := nI 4) dJ13_bitCount_95d88_26 rfl (by decide) ?_
  refine pn_lushr (q := 28) dJ13_bitCount_95d88_27 rfl ?_
  refine pn_ladd (q := 29) dJ13_bitCount_95d88_28 rfl ?_
  refine pn_ldc2 (q := 32) pw_477 dJ13_bitCount_95d88_29 rfl ?_
  refine pn_land (q := 33) dJ13_bitCount_95d88_32 rfl ?_
  refine pn_lstore_n (q := 34) dJ13_bitCount_95d88_33 rfl (by decide) ?_
  refine pn_lload_n (q := 35) dJ13_bitCount_95d88_34 rfl rfl ?_
  refine pn_lload_n (q := 36) dJ13_bitCount_95d88_35 rfl rfl ?_
  refine pn_bipush (q := 38) (v := nI 8) dJ13_bitCount_95d88_36 rfl (by decide) ?_
  refine pn_lushr (q := 39) dJ13_bitCount_95d88_38 rfl ?_
  refine pn_ladd (q := 40) dJ13_bitCount_95d88_39 rfl ?_
  refine pn_lstore_n (q := 41) dJ13_bitCount_95d88_40 rfl (by decide) ?_
  refine pn_lload_n (q := 42) dJ13_bitCount_95d88_41 rfl rfl ?_
  refine pn_lload_n (q := 43) dJ13_bitCount_95d88_42 rfl rfl ?_
  refine pn_bipush (q := 45) (v := nI 16) dJ13_bitCount_95d88_43 rfl (by decide) ?_
  refine pn_lushr (q := 46) dJ13_bitCount_95d88_45 rfl ?_
  refine pn_ladd (q := 47) dJ13_bitCount_95d88_46 rfl ?_
  refine pn_lstore_n (q := 48) dJ13_bitCount_95d88_47 rfl (by decide) ?_
  refine pn_lload_n (q := 49) dJ13_bitCount_95d88_48 rfl rfl ?_
  refine pn_lload_n (q := 50) dJ13_bitCount_95d88_49 rfl rfl ?_
  refine pn_bipush (q := 52) (v := nI 32) dJ13_bitCount_95d88_50 rfl (by decide) ?_
  refine pn_lushr (q := 53) dJ13_bitCount_95d88_52 rfl ?_
  refine pn_ladd (q := 54) dJ13_bitCount_95d88_53 rfl ?_
  refine pn_lstore_n (q := 55) dJ13_bitCount_95d88_54 rfl (by decide) ?_
  refine pn_lload_n (q := 56) dJ13_bitCount_95d88_55 rfl rfl ?_
  refine pn_l2i (q := 57) dJ13_bitCount_95d88_56 rfl ?_
  refine pn_bipush (q := 59) (v := nI 127) dJ13_bitCount_95d88_57 rfl (by decide) ?_
  refine pn_iand (q := 60) dJ13_bitCount_95d88_59 rfl ?_
  refine pn_iret dJ13_bitCount_95d88_60 rfl ?_
  exact ⟨rfl, rfl⟩
set_option maxRecDepth 100000 in
theorem c_hasPart (adK : Nat → Nat) (d : Nat) (n : Nat) (g : Int64) (sh k pc bc : Nat) (ps : Nat → Int64) (bs sf : Nat → Int32) (x : Int32) (hpc : pc ≤ 55) : pnCt mX2_hasPart adK d 0 0 [.ref 0, .int x] (hNet n g sh k pc bc ps bs sf) (pnIs (.inl (some (.int (nB (hasN pc x))))) (hNet n g sh k pc bc ps bs sf)) := by
  refine pnCt_of (by decide) kX2_hasPart (Nat.le_of_ble_eq_true rfl) rfl (hNet_cl _ _ _ _ _ _ _ _ _) (pnCS_b rfl) ?_
  rcases hasN_cases x pc (by omega) with ⟨h1, h2⟩ | ⟨h1, h3, h2⟩ | ⟨j, hj, h1, h2⟩
  · refine pn_iload_n (q := 1) dX2_hasPart_0 rfl rfl ?_
    refine pn_if_lt (q := 4) (tgt := 25) dX2_hasPart_1 (by decide) rfl (fun hc1 => ?_) (fun hc1 => ?_)
    · refine pn_iconst (q := 26) (v := nI 0) dX2_hasPart_25 rfl (by decide) ?_
      refine pn_tret (b := hasN pc x) _ ?_ dX2_hasPart_26 rfl ?_
      · first | exact absurd h1 ‹_› | (rw [h2]; rfl)
      · exact ⟨rfl, rfl⟩
    · refine pn_iload_n (q := 5) dX2_hasPart_4 rfl rfl ?_
      refine pn_aload_n (q := 6) dX2_hasPart_5 rfl rfl rfl ?_
      refine pn_get (q := 9) fX2_25 dX2_hasPart_6 rfl rfl rfl ?_
      refine pn_icmp_ge (q := 12) (tgt := 25) dX2_hasPart_9 (by decide) rfl (fun hc9 => ?_) (fun hc9 => ?_)
      · refine pn_iconst (q := 26) (v := nI 0) dX2_hasPart_25 rfl (by decide) ?_
        refine pn_tret (b := hasN pc x) _ ?_ dX2_hasPart_26 rfl ?_
        · first | exact absurd h1 ‹_› | (rw [h2]; rfl)
        · exact ⟨rfl, rfl⟩
      · refine pn_iload_n (q := 13) dX2_hasPart_12 rfl rfl ?_
        refine pn_aload_n (q := 14) dX2_hasPart_13 rfl rfl rfl ?_
        refine pn_get (q := 17) fX2_31 dX2_hasPart_14 rfl rfl rfl ?_
        refine pn_alen (q := 18) dX2_hasPart_17 rfl rfl (by decide) ?_
        refine pn_icmp_ge (q := 21) (tgt := 25) dX2_hasPart_18 (by decide) rfl (fun hc18 => ?_) (fun hc18 => ?_)
        · refine pn_iconst (q := 26) (v := nI 0) dX2_hasPart_25 rfl (by decide) ?_
          refine pn_tret (b := hasN pc x) _ ?_ dX2_hasPart_26 rfl ?_
          · first | exact absurd h1 ‹_› | (rw [h2]; rfl)
          · exact ⟨rfl, rfl⟩
        · refine pn_iconst (q := 22) (v := nI 1) dX2_hasPart_21 rfl (by decide) ?_
          refine pn_goto (q := 26) dX2_hasPart_22 (by decide) ?_
          refine pn_tret (b := hasN pc x) _ ?_ dX2_hasPart_26 rfl ?_
          · first | exact absurd h1 ‹_› | (rw [h2]; rfl)
          · exact ⟨rfl, rfl⟩
  · refine pn_iload_n (q := 1) dX2_hasPart_0 rfl rfl ?_
    refine pn_if_lt (q := 4) (tgt := 25) dX2_hasPart_1 (by decide) rfl (fun hc1 => ?_) (fun hc1 => ?_)
    · refine pn_iconst (q := 26) (v := nI 0) dX2_hasPart_25 rfl (by decide) ?_
      refine pn_tret (b := hasN pc x) _ ?_ dX2_hasPart_26 rfl ?_
      · first | exact absurd h1 ‹_› | (rw [h2]; rfl)
      · exact ⟨rfl, rfl⟩
    · refine pn_iload_n (q := 5) dX2_hasPart_4 rfl rfl ?_
      refine pn_aload_n (q := 6) dX2_hasPart_5 rfl rfl rfl ?_
      refine pn_get (q := 9) fX2_25 dX2_hasPart_6 rfl rfl rfl ?_
      refine pn_icmp_ge (q := 12) (tgt := 25) dX2_hasPart_9 (by decide) rfl (fun hc9 => ?_) (fun hc9 => ?_)
      · refine pn_iconst (q := 26) (v := nI 0) dX2_hasPart_25 rfl (by decide) ?_
        refine pn_tret (b := hasN pc x) _ ?_ dX2_hasPart_26 rfl ?_
        · first | exact absurd h1 ‹_› | (rw [h2]; rfl)
        · exact ⟨rfl, rfl⟩
      · refine pn_iload_n (q := 13) dX2_hasPart_12 rfl rfl ?_
        refine pn_aload_n (q := 14) dX2_hasPart_13 rfl rfl rfl ?_
        refine pn_get (q := 17) fX2_31 dX2_hasPart_14 rfl rfl rfl ?_
        refine pn_alen (q := 18) dX2_hasPart_17 rfl rfl (by decide) ?_
        refine pn_icmp_ge (q := 21) (tgt := 25) dX2_hasPart_18 (by decide) rfl (fun hc18 => ?_) (fun hc18 => ?_)
        · refine pn_iconst (q := 26) (v := nI 0) dX2_hasPart_25 rfl (by decide) ?_
          refine pn_tret (b := hasN pc x) _ ?_ dX2_hasPart_26 rfl ?_
          · first | exact absurd h1 ‹_› | (rw [h2]; rfl)
          · exact ⟨rfl, rfl⟩
        · refine pn_iconst (q := 22) (v := nI 1) dX2_hasPart_21 rfl (by decide) ?_
          refine pn_goto (q := 26) dX2_hasPart_22 (by decide) ?_
          refine pn_tret (b := hasN pc x) _ ?_ dX2_hasPart_26 rfl ?_
          · first | exact absurd h1 ‹_› | (rw [h2]; rfl)
          · exact ⟨rfl, rfl⟩
  · rw [h2]
    subst h1
    refine pn_iload_n (q := 1) dX2_hasPart_0 rfl rfl ?_
    first | refine pn_zlt (q := 4) (tgt := 25) dX2_hasPart_1 (by decide) rfl (by omega) (fun hc1 => ?_) (fun hc1 => ?_) | refine pn_if_lt (q := 4) (tgt := 25) dX2_hasPart_1 (by decide) rfl (fun hc1 => ?_) (fun hc1 => ?_)
    · exact absurd hc1 (by simp)
    · refine pn_iload_n (q := 5) dX2_hasPart_4 rfl rfl ?_
      refine pn_aload_n (q := 6) dX2_hasPart_5 rfl rfl rfl ?_
      refine pn_get (q := 9) fX2_25 dX2_hasPart_6 rfl rfl rfl ?_
      first | refine pn_nge (q := 12) (tgt := 25) dX2_hasPart_9 (by decide) rfl (by omega) (by omega) (fun hc9 => ?_) (fun hc9 => ?_) | refine pn_icmp_ge (q := 12) (tgt := 25) dX2_hasPart_9 (by decide) rfl (fun hc9 => ?_) (fun hc9 => ?_)
      · omega
      · refine pn_iload_n (q := 13) dX2_hasPart_12 rfl rfl ?_
        refine pn_aload_n (q := 14) dX2_hasPart_13 rfl rfl rfl ?_
        refine pn_get (q := 17) fX2_31 dX2_hasPart_14 rfl rfl rfl ?_
        refine pn_alen (q := 18) dX2_hasPart_17 rfl rfl (by decide) ?_
        first | refine pn_nge (q := 21) (tgt := 25) dX2_hasPart_18 (by decide) rfl (by omega) (by omega) (fun hc18 => ?_) (fun hc18 => ?_) | refine pn_icmp_ge (q := 21) (tgt := 25) dX2_hasPart_18 (by decide) rfl (fun hc18 => ?_) (fun hc18 => ?_)
        · omega
        · refine pn_iconst (q := 22) (v := nI 1) dX2_hasPart_21 rfl (by decide) ?_
          refine pn_goto (q := 26) dX2_hasPart_22 (by decide) ?_
          refine pn_tret (b := true) _ ?_ dX2_hasPart_26 rfl ?_
          · rfl
          · exact ⟨rfl, rfl⟩
/-- the first of pc parts that meets some lines -/
def pwN (ps : Nat → Int64) (x : Int64) : Nat → Nat → Int32
  | _, 0 => -1
  | i, m + 1 => if ps i &&& x = 0 then pwN ps x (i + 1) m else nI i
set_option maxRecDepth 100000 in
theorem c_partWith (adK : Nat → Nat) (d : Nat) (n : Nat) (g : Int64) (sh k pc bc : Nat) (ps : Nat → Int64) (bs sf : Nat → Int32) (x : Int64) (hpc : pc ≤ 55) : pnCt mX2_partWith adK d 0 0 [.ref 0, .long x] (hNet n g sh k pc bc ps bs sf) (pnIs (.inl (some (.int (pwN ps x 0 pc)))) (hNet n g sh k pc bc ps bs sf)) := by
  refine pnCt_of (by decide) kX2_partWith (Nat.le_of_ble_eq_true rfl) rfl (hNet_cl _ _ _ _ _ _ _ _ _) (pnCS_b rfl) ?_
  refine pn_iconst (q := 1) (v := nI 0) dX2_partWith_0 rfl (by decide) ?_
  refine pn_istore_n (q := 2) dX2_partWith_1 rfl (by decide) ?_
  have loop : ∀ (m i : Nat), i + m = pc → pwN ps x i m = pwN ps x 0 pc → pnWP mX2_partWith adK d (pnIs (.inl (some (.int (pwN ps x 0 pc)))) (hNet n g sh k pc bc ps bs sf)) 0 0 (hNet n g sh k pc bc ps bs sf) [some (.ref 0), some (.long x), none, some (.int (nI i))] [] 2 := by
    intro m
    induction m with
    | zero =>
      intro i hi e
      refine pn_iload_n (q := 3) dX2_partWith_2 rfl rfl ?_
      refine pn_aload_n (q := 4) dX2_partWith_3 rfl rfl rfl ?_
      refine pn_get (q := 7) fX2_25 dX2_partWith_4 rfl rfl rfl ?_
      first | refine pn_nge (q := 10) (tgt := 40) dX2_partWith_7 (by decide) rfl (by omega) (by omega) (fun hc7 => ?_) (fun hc7 => ?_) | refine pn_icmp_ge (q := 10) (tgt := 40) dX2_partWith_7 (by decide) rfl (fun hc7 => ?_) (fun hc7 => ?_)
      · refine pn_iconst (q := 41) (v := (-1)) dX2_partWith_40 rfl (by decide) ?_
        refine pn_iret dX2_partWith_41 rfl ?_
        exact ⟨by rw [← e]; rfl, rfl⟩
      · omega
    | succ m ih =>
      intro i hi e
      refine pn_iload_n (q := 3) dX2_partWith_2 rfl rfl ?_
      refine pn_aload_n (q := 4) dX2_partWith_3 rfl rfl rfl ?_
      refine pn_get (q := 7) fX2_25 dX2_partWith_4 rfl rfl rfl ?_
      refine pn_nge (q := 10) (tgt := 40) dX2_partWith_7 (by decide) rfl (by omega) (by omega) (fun hc => ?_) (fun hc => ?_)
      · omega
      · have e2 : pwN ps x i (m + 1) = if ps i &&& x = 0 then pwN ps x (i + 1) m else nI i := rfl
        refine pn_iload_n (q := 11) dX2_partWith_10 rfl rfl ?_
        refine pn_aload_n (q := 12) dX2_partWith_11 rfl rfl rfl ?_
        refine pn_get (q := 15) fX2_31 dX2_partWith_12 rfl rfl rfl ?_
        refine pn_alen (q := 16) dX2_partWith_15 rfl rfl (by decide) ?_
        first | refine pn_nge (q := 19) (tgt := 40) dX2_partWith_16 (by decide) rfl (by omega) (by omega) (fun hc16 => ?_) (fun hc16 => ?_) | refine pn_icmp_ge (q := 19) (tgt := 40) dX2_partWith_16 (by decide) rfl (fun hc16 => ?_) (fun hc16 => ?_)
        · omega
        · refine pn_aload_n (q := 20) dX2_partWith_19 rfl rfl rfl ?_
          refine pn_get (q := 23) fX2_31 dX2_partWith_20 rfl rfl rfl ?_
          refine pn_iload_n (q := 24) dX2_partWith_23 rfl rfl ?_
          first | refine pn_lald1 (q := 25) dX2_partWith_24 rfl rfl rfl (by omega) (by first | decide | omega) ?_ | refine pn_lald5 (q := 25) dX2_partWith_24 rfl rfl rfl (by omega) (by first | decide | omega) ?_
          refine pn_lload_n (q := 26) dX2_partWith_25 rfl rfl ?_
          refine pn_land (q := 27) dX2_partWith_26 rfl ?_
          refine pn_lconst (q := 28) (v := 0) dX2_partWith_27 rfl (by decide) ?_
          refine pn_leq (q1 := 29) (q := 32) (tgt := 34) dX2_partWith_28 rfl dX2_partWith_29 (by decide) rfl (fun hc28 => ?_) (fun hc28 => ?_)
          · first | refine pn_iinc1 (q := 37) dX2_partWith_34 rfl rfl (by decide) ?_ | refine pn_iinc (q := 37) (mm := 1) dX2_partWith_34 rfl rfl (by decide) (by decide) ?_
            refine pn_goto (q := 2) dX2_partWith_37 (by decide) ?_
            exact ih (i + 1) (by omega) (by rw [← e, e2, if_pos ‹_›])
          · refine pn_iload_n (q := 33) dX2_partWith_32 rfl rfl ?_
            refine pn_iret dX2_partWith_33 rfl ?_
            exact ⟨by rw [← e, e2, if_neg ‹_›], rfl⟩
  exact loop pc 0 (by omega) rfl
def pmN (ps : Nat → Int64) (x : Int64) : Nat → Nat
  | 0 => 0
  | i + 1 => if ps i &&& x = 0 then pmN ps x i else pmN ps x i + 1
theorem pmN_le (ps : Nat → Int64) (x : Int64) : ∀ i, pmN ps x i ≤ i
  | 0 => Nat.le_refl _
  | i + 1 => by have := pmN_le ps x i; unfold pmN; split <;> omega
set_option maxRecDepth 100000 in
theorem c_partsMeeting (adK : Nat → Nat) (d : Nat) (n : Nat) (g : Int64) (sh k pc bc : Nat) (ps : Nat → Int64) (bs sf : Nat → Int32) (x : Int64) (hpc : pc ≤ 55) : pnCt mX2_partsMeeting adK d 0 0 [.ref 0, .long x] (hNet n g sh k pc bc ps bs sf) (pnIs (.inl (some (.int (nI (pmN ps x pc))))) (hNet n g sh k pc bc ps bs sf)) := by
  refine pnCt_of (by decide) kX2_partsMeeting (Nat.le_of_ble_eq_true rfl) rfl (hNet_cl _ _ _ _ _ _ _ _ _) (pnCS_b rfl) ?_
  refine pn_iconst (q := 1) (v := nI 0) dX2_partsMeeting_0 rfl (by decide) ?_
  refine pn_istore_n (q := 2) dX2_partsMeeting_1 rfl (by decide) ?_
  refine pn_iconst (q := 3) (v := nI 0) dX2_partsMeeting_2 rfl (by decide) ?_
  refine pn_istore (q := 5) dX2_partsMeeting_3 rfl (by decide) ?_
  have loop : ∀ (m i : Nat), i + m = pc → pnWP mX2_partsMeeting adK d (pnIs (.inl (some (.int (nI (pmN ps x pc))))) (hNet n g sh k pc bc ps bs sf)) 0 0 (hNet n g sh k pc bc ps bs sf) [some (.ref 0), some (.long x), none, some (.int (nI (pmN ps x i))), some (.int (nI i))] [] 5 := by
    intro m
    induction m with
    | zero =>
      intro i hi
      refine pn_iload (q := 7) dX2_partsMeeting_5 rfl rfl ?_
      refine pn_aload_n (q := 8) dX2_partsMeeting_7 rfl rfl rfl ?_
      refine pn_get (q := 11) fX2_25 dX2_partsMeeting_8 rfl rfl rfl ?_
      first | refine pn_nge (q := 14) (tgt := 47) dX2_partsMeeting_11 (by decide) rfl (by omega) (by omega) (fun hc11 => ?_) (fun hc11 => ?_) | refine pn_icmp_ge (q := 14) (tgt := 47) dX2_partsMeeting_11 (by decide) rfl (fun hc11 => ?_) (fun hc11 => ?_)
      · refine pn_iload_n (q := 48) dX2_partsMeeting_47 rfl rfl ?_
        refine pn_iret dX2_partsMeeting_48 rfl ?_
        exact ⟨by rw [show i = pc by omega], rfl⟩
      · omega
    | succ m ih =>
      intro i hi
      refine pn_iload (q := 7) dX2_partsMeeting_5 rfl rfl ?_
      refine pn_aload_n (q := 8) dX2_partsMeeting_7 rfl rfl rfl ?_
      refine pn_get (q := 11) fX2_25 dX2_partsMeeting_8 rfl rfl rfl ?_
      refine pn_nge (q := 14) (tgt := 47) dX2_partsMeeting_11 (by decide) rfl (by omega) (by omega) (fun hc => ?_) (fun hc => ?_)
      · omega
      · have e2 : pmN ps x (i + 1) = if ps i &&& x = 0 then pmN ps x i else pmN ps x i + 1 := rfl
        have k9 := ih (i + 1) (by omega)
        refine pn_iload (q := 16) dX2_partsMeeting_14 rfl rfl ?_
        refine pn_aload_n (q := 17) dX2_partsMeeting_16 rfl rfl rfl ?_
        refine pn_get (q := 20) fX2_31 dX2_partsMeeting_17 rfl rfl rfl ?_
        refine pn_alen (q := 21) dX2_partsMeeting_20 rfl rfl (by decide) ?_
        first | refine pn_nge (q := 24) (tgt := 47) dX2_partsMeeting_21 (by decide) rfl (by omega) (by omega) (fun hc21 => ?_) (fun hc21 => ?_) | refine pn_icmp_ge (q := 24) (tgt := 47) dX2_partsMeeting_21 (by decide) rfl (fun hc21 => ?_) (fun hc21 => ?_)
        · omega
        · refine pn_aload_n (q := 25) dX2_partsMeeting_24 rfl rfl rfl ?_
          refine pn_get (q := 28) fX2_31 dX2_partsMeeting_25 rfl rfl rfl ?_
          refine pn_iload (q := 30) dX2_partsMeeting_28 rfl rfl ?_
          first | refine pn_lald1 (q := 31) dX2_partsMeeting_30 rfl rfl rfl (by omega) (by first | decide | omega) ?_ | refine pn_lald5 (q := 31) dX2_partsMeeting_30 rfl rfl rfl (by omega) (by first | decide | omega) ?_
          refine pn_lload_n (q := 32) dX2_partsMeeting_31 rfl rfl ?_
          refine pn_land (q := 33) dX2_partsMeeting_32 rfl ?_
          refine pn_lconst (q := 34) (v := 0) dX2_partsMeeting_33 rfl (by decide) ?_
          refine pn_leq (q1 := 35) (q := 38) (tgt := 41) dX2_partsMeeting_34 rfl dX2_partsMeeting_35 (by decide) rfl (fun hc34 => ?_) (fun hc34 => ?_)
          · first | refine pn_iinc1 (q := 44) dX2_partsMeeting_41 rfl rfl (by decide) ?_ | refine pn_iinc (q := 44) (mm := 1) dX2_partsMeeting_41 rfl rfl (by decide) (by decide) ?_
            refine pn_goto (q := 5) dX2_partsMeeting_44 (by decide) ?_
            (first | (rw [e2, if_pos ‹_›] at k9; exact k9) | (rw [e2, if_neg ‹_›] at k9; exact k9))
          · first | refine pn_iinc1 (q := 41) dX2_partsMeeting_38 rfl rfl (by decide) ?_ | refine pn_iinc (q := 41) (mm := 1) dX2_partsMeeting_38 rfl rfl (by decide) (by decide) ?_
            first | refine pn_iinc1 (q := 44) dX2_partsMeeting_41 rfl rfl (by decide) ?_ | refine pn_iinc (q := 44) (mm := 1) dX2_partsMeeting_41 rfl rfl (by decide) (by decide) ?_
            refine pn_goto (q := 5) dX2_partsMeeting_44 (by decide) ?_
            (first | (rw [e2, if_pos ‹_›] at k9; exact k9) | (rw [e2, if_neg ‹_›] at k9; exact k9))
  exact loop pc 0 (by omega)
set_option maxRecDepth 100000 in
theorem c_putIn (adK : Nat → Nat) (d : Nat) (n : Nat) (g : Int64) (sh k pc bc : Nat) (ps : Nat → Int64) (bs sf : Nat → Int32) (x : Int64) (hpc : pc < 55) : pnCt mX2_putIn adK d 0 0 [.ref 0, .long x] (hNet n g sh k pc bc ps bs sf) (pnIs (.inl none) (hNet n g sh k (pc + 1) bc (vp_updL ps pc x) bs sf)) := by
  refine pnCt_of (by decide) kX2_putIn (Nat.le_of_ble_eq_true rfl) rfl (hNet_cl _ _ _ _ _ _ _ _ _) (pnCS_b rfl) ?_
  refine pn_aload_n (q := 1) dX2_putIn_0 rfl rfl rfl ?_
  refine pn_get (q := 4) fX2_25 dX2_putIn_1 rfl rfl rfl ?_
  first | refine pn_zlt (q := 7) (tgt := 39) dX2_putIn_4 (by decide) rfl (by omega) (fun hc4 => ?_) (fun hc4 => ?_) | refine pn_if_lt (q := 7) (tgt := 39) dX2_putIn_4 (by decide) rfl (fun hc4 => ?_) (fun hc4 => ?_)
  · exact hc4.elim
  · refine pn_aload_n (q := 8) dX2_putIn_7 rfl rfl rfl ?_
    refine pn_get (q := 11) fX2_25 dX2_putIn_8 rfl rfl rfl ?_
    refine pn_aload_n (q := 12) dX2_putIn_11 rfl rfl rfl ?_
    refine pn_get (q := 15) fX2_31 dX2_putIn_12 rfl rfl rfl ?_
    refine pn_alen (q := 16) dX2_putIn_15 rfl rfl (by decide) ?_
    first | refine pn_nge (q := 19) (tgt := 39) dX2_putIn_16 (by decide) rfl (by omega) (by omega) (fun hc16 => ?_) (fun hc16 => ?_) | refine pn_icmp_ge (q := 19) (tgt := 39) dX2_putIn_16 (by decide) rfl (fun hc16 => ?_) (fun hc16 => ?_)
    · omega
    · refine pn_aload_n (q := 20) dX2_putIn_19 rfl rfl rfl ?_
      refine pn_get (q := 23) fX2_31 dX2_putIn_20 rfl rfl rfl ?_
      refine pn_aload_n (q := 24) dX2_putIn_23 rfl rfl rfl ?_
      refine pn_get (q := 27) fX2_25 dX2_putIn_24 rfl rfl rfl ?_
      refine pn_lload_n (q := 28) dX2_putIn_27 rfl rfl ?_
      first | refine pn_last1 (q := 29) dX2_putIn_28 rfl rfl rfl (by omega) (by first | decide | omega) ?_ | refine pn_last5 (q := 29) dX2_putIn_28 rfl rfl rfl (by omega) (by first | decide | omega) ?_
      refine pn_aload_n (q := 30) dX2_putIn_29 rfl rfl rfl ?_
      refine pn_dup (q := 31) dX2_putIn_30 rfl rfl ?_
      refine pn_get (q := 34) fX2_25 dX2_putIn_31 rfl rfl rfl ?_
      refine pn_iconst (q := 35) (v := nI 1) dX2_putIn_34 rfl (by decide) ?_
      first | with_reducible refine pn_iaddN (q := 36) dX2_putIn_35 rfl ?_ | refine pn_iadd (q := 36) dX2_putIn_35 rfl ?_
      refine pn_put (q := 39) fX2_25 dX2_putIn_36 rfl rfl (Nat.le_of_ble_eq_true rfl) (pnF_int _) ?_
      refine pn_vret dX2_putIn_39 rfl ?_
      exact ⟨rfl, rfl⟩
set_option maxRecDepth 100000 in
theorem c_putIn_full (adK : Nat → Nat) (d : Nat) (n : Nat) (g : Int64) (sh k pc bc : Nat) (ps : Nat → Int64) (bs sf : Nat → Int32) (x : Int64) (hpc : pc = 55) : pnCt mX2_putIn adK d 0 0 [.ref 0, .long x] (hNet n g sh k pc bc ps bs sf) (pnIs (.inl none) (hNet n g sh k pc bc ps bs sf)) := by
  refine pnCt_of (by decide) kX2_putIn (Nat.le_of_ble_eq_true rfl) rfl (hNet_cl _ _ _ _ _ _ _ _ _) (pnCS_b rfl) ?_
  subst hpc
  refine pn_aload_n (q := 1) dX2_putIn_0 rfl rfl rfl ?_
  refine pn_get (q := 4) fX2_25 dX2_putIn_1 rfl rfl rfl ?_
  first | refine pn_zlt (q := 7) (tgt := 39) dX2_putIn_4 (by decide) rfl (by omega) (fun hc4 => ?_) (fun hc4 => ?_) | refine pn_if_lt (q := 7) (tgt := 39) dX2_putIn_4 (by decide) rfl (fun hc4 => ?_) (fun hc4 => ?_)
  · exact hc4.elim
  · refine pn_aload_n (q := 8) dX2_putIn_7 rfl rfl rfl ?_
    refine pn_get (q := 11) fX2_25 dX2_putIn_8 rfl rfl rfl ?_
    refine pn_aload_n (q := 12) dX2_putIn_11 rfl rfl rfl ?_
    refine pn_get (q := 15) fX2_31 dX2_putIn_12 rfl rfl rfl ?_
    refine pn_alen (q := 16) dX2_putIn_15 rfl rfl (by decide) ?_
    first | refine pn_nge (q := 19) (tgt := 39) dX2_putIn_16 (by decide) rfl (by omega) (by omega) (fun hc16 => ?_) (fun hc16 => ?_) | refine pn_icmp_ge (q := 19) (tgt := 39) dX2_putIn_16 (by decide) rfl (fun hc16 => ?_) (fun hc16 => ?_)
    · refine pn_vret dX2_putIn_39 rfl ?_
      exact ⟨rfl, rfl⟩
    · omega
/-- parts from i on, a place less -/
def shN (ps : Nat → Int64) (p : Nat) : Nat → Nat → Int64
  | 0 => ps
  | m + 1 => vp_updL (shN ps p m) (p + m) (ps (p + m + 1))
theorem shN_out (ps : Nat → Int64) (p : Nat) : ∀ (m j : Nat), j < p ∨ p + m ≤ j → shN ps p m j = ps j
  | 0, j, _ => rfl
  | m + 1, j, h => by
    unfold shN vp_updL
    rw [if_neg (by omega)]
    exact shN_out ps p m j (by omega)
theorem shN_in (ps : Nat → Int64) (p : Nat) : ∀ (m j : Nat), p ≤ j → j < p + m → shN ps p m j = ps (j + 1)
  | 0, j, h1, h2 => by omega
  | m + 1, j, h1, h2 => by
    unfold shN vp_updL
    by_cases e : j = p + m
    · rw [if_pos e, e]
    · rw [if_neg e]; exact shN_in ps p m j h1 (by omega)
set_option maxRecDepth 100000 in
theorem c_takeOut (adK : Nat → Nat) (d : Nat) (n : Nat) (g : Int64) (sh k pc bc : Nat) (ps : Nat → Int64) (bs sf : Nat → Int32) (p : Nat) (hp : p < pc) (hpc : pc ≤ 55) : pnCt mX2_takeOut adK (d + 1) 0 0 [.ref 0, .int (nI p)] (hNet n g sh k pc bc ps bs sf) (pnIs (.inl none) (hNet n g sh k (pc - 1) bc (shN ps p (pc - 1 - p)) bs sf)) := by
  refine pnCt_of (by decide) kX2_takeOut (Nat.le_of_ble_eq_true rfl) rfl (hNet_cl _ _ _ _ _ _ _ _ _) (pnCS_b rfl) ?_
  have ht : hasN pc (nI p) = true := by
    rcases hasN_cases (nI p) pc (by omega) with ⟨h1, h2⟩ | ⟨h1, h3, h2⟩ | ⟨j, hj, h1, h2⟩
    · exact absurd h1 (nI_pos (by omega))
    · exact absurd h1 (nI_ge hp (by omega))
    · exact h2
  refine pn_aload_n (q := 1) dX2_takeOut_0 rfl rfl rfl ?_
  refine pn_iload_n (q := 2) dX2_takeOut_1 rfl rfl ?_
  refine pn_roV1 (q := 5) (c_hasPart adK d n g sh k pc bc ps bs sf (nI p) hpc) lkX2_76 dX2_takeOut_2 rfl rfl (pnSel_of (I := [0, 1, 2, 3]) rfl rfl) (pnFree_none rfl) rfl rfl rfl (by omega) (Nat.le_of_ble_eq_true rfl) rfl ?_
  rw [ht]
  have loop : ∀ (m i : Nat), i + m = pc - 1 → p ≤ i → pnWP mX2_takeOut adK (d + 1) (pnIs (.inl none) (hNet n g sh k (pc - 1) bc (shN ps p (pc - 1 - p)) bs sf)) 0 0 (hNet n g sh k pc bc (shN ps p (i - p)) bs sf) [some (.ref 0), some (.int (nI p)), some (.int (nI i))] [] 11 := by
    intro m
    induction m with
    | zero =>
      intro i hi hpi
      refine pn_iload_n (q := 12) dX2_takeOut_11 rfl rfl ?_
      refine pn_iconst (q := 13) (v := nI 1) dX2_takeOut_12 rfl (by decide) ?_
      first | with_reducible refine pn_iaddN (q := 14) dX2_takeOut_13 rfl ?_ | refine pn_iadd (q := 14) dX2_takeOut_13 rfl ?_
      refine pn_aload_n (q := 15) dX2_takeOut_14 rfl rfl rfl ?_
      refine pn_get (q := 18) fX2_25 dX2_takeOut_15 rfl rfl rfl ?_
      first | refine pn_nge (q := 21) (tgt := 52) dX2_takeOut_18 (by decide) rfl (by omega) (by omega) (fun hc18 => ?_) (fun hc18 => ?_) | refine pn_icmp_ge (q := 21) (tgt := 52) dX2_takeOut_18 (by decide) rfl (fun hc18 => ?_) (fun hc18 => ?_)
      · refine pn_aload_n (q := 53) dX2_takeOut_52 rfl rfl rfl ?_
        refine pn_dup (q := 54) dX2_takeOut_53 rfl rfl ?_
        refine pn_get (q := 57) fX2_25 dX2_takeOut_54 rfl rfl rfl ?_
        refine pn_iconst (q := 58) (v := nI 1) dX2_takeOut_57 rfl (by decide) ?_
        first | with_reducible refine pn_isubN (q := 59) dX2_takeOut_58 rfl (by omega) ?_ | refine pn_isub (q := 59) dX2_takeOut_58 rfl ?_
        refine pn_put (q := 62) fX2_25 dX2_takeOut_59 rfl rfl (Nat.le_of_ble_eq_true rfl) (pnF_int _) ?_
        refine pn_vret dX2_takeOut_62 rfl ?_
        exact ⟨rfl, by rw [show i = pc - 1 by omega]; rfl⟩
      · omega
    | succ m ih =>
      intro i hi hpi
      have e1 : shN ps p (i + 1 - p) = vp_updL (shN ps p (i - p)) i (shN ps p (i - p) (i + 1)) := by
        rw [show i + 1 - p = (i - p) + 1 by omega, shN_out ps p (i - p) (i + 1) (by omega)]
        show vp_updL (shN ps p (i - p)) (p + (i - p)) (ps (p + (i - p) + 1)) = _
        rw [show p + (i - p) = i by omega]
      have k9 := ih (i + 1) (by omega) (by omega)
      rw [e1] at k9
      refine pn_iload_n (q := 12) dX2_takeOut_11 rfl rfl ?_
      refine pn_iconst (q := 13) (v := nI 1) dX2_takeOut_12 rfl (by decide) ?_
      first | with_reducible refine pn_iaddN (q := 14) dX2_takeOut_13 rfl ?_ | refine pn_iadd (q := 14) dX2_takeOut_13 rfl ?_
      refine pn_aload_n (q := 15) dX2_takeOut_14 rfl rfl rfl ?_
      refine pn_get (q := 18) fX2_25 dX2_takeOut_15 rfl rfl rfl ?_
      first | refine pn_nge (q := 21) (tgt := 52) dX2_takeOut_18 (by decide) rfl (by omega) (by omega) (fun hc18 => ?_) (fun hc18 => ?_) | refine pn_icmp_ge (q := 21) (tgt := 52) dX2_takeOut_18 (by decide) rfl (fun hc18 => ?_) (fun hc18 => ?_)
      · omega
      · refine pn_iload_n (q := 22) dX2_takeOut_21 rfl rfl ?_
        refine pn_iconst (q := 23) (v := nI 1) dX2_takeOut_22 rfl (by decide) ?_
        first | with_reducible refine pn_iaddN (q := 24) dX2_takeOut_23 rfl ?_ | refine pn_iadd (q := 24) dX2_takeOut_23 rfl ?_
        refine pn_aload_n (q := 25) dX2_takeOut_24 rfl rfl rfl ?_
        refine pn_get (q := 28) fX2_31 dX2_takeOut_25 rfl rfl rfl ?_
        refine pn_alen (q := 29) dX2_takeOut_28 rfl rfl (by decide) ?_
        first | refine pn_nge (q := 32) (tgt := 52) dX2_takeOut_29 (by decide) rfl (by omega) (by omega) (fun hc29 => ?_) (fun hc29 => ?_) | refine pn_icmp_ge (q := 32) (tgt := 52) dX2_takeOut_29 (by decide) rfl (fun hc29 => ?_) (fun hc29 => ?_)
        · omega
        · refine pn_aload_n (q := 33) dX2_takeOut_32 rfl rfl rfl ?_
          refine pn_get (q := 36) fX2_31 dX2_takeOut_33 rfl rfl rfl ?_
          refine pn_iload_n (q := 37) dX2_takeOut_36 rfl rfl ?_
          refine pn_aload_n (q := 38) dX2_takeOut_37 rfl rfl rfl ?_
          refine pn_get (q := 41) fX2_31 dX2_takeOut_38 rfl rfl rfl ?_
          refine pn_iload_n (q := 42) dX2_takeOut_41 rfl rfl ?_
          refine pn_iconst (q := 43) (v := nI 1) dX2_takeOut_42 rfl (by decide) ?_
          first | with_reducible refine pn_iaddN (q := 44) dX2_takeOut_43 rfl ?_ | refine pn_iadd (q := 44) dX2_takeOut_43 rfl ?_
          first | refine pn_lald1 (q := 45) dX2_takeOut_44 rfl rfl rfl (by omega) (by first | decide | omega) ?_ | refine pn_lald5 (q := 45) dX2_takeOut_44 rfl rfl rfl (by omega) (by first | decide | omega) ?_
          first | refine pn_last1 (q := 46) dX2_takeOut_45 rfl rfl rfl (by omega) (by first | decide | omega) ?_ | refine pn_last5 (q := 46) dX2_takeOut_45 rfl rfl rfl (by omega) (by first | decide | omega) ?_
          first | refine pn_iinc1 (q := 49) dX2_takeOut_46 rfl rfl (by decide) ?_ | refine pn_iinc (q := 49) (mm := 1) dX2_takeOut_46 rfl rfl (by decide) (by decide) ?_
          refine pn_goto (q := 11) dX2_takeOut_49 (by decide) ?_
          exact k9
  refine pn_bne (q := 8) (tgt := 9) dX2_takeOut_5 (by decide) rfl (fun hc5 => ?_) (fun hc5 => ?_)
  · refine pn_iload_n (q := 10) dX2_takeOut_9 rfl rfl ?_
    refine pn_istore_n (q := 11) dX2_takeOut_10 rfl (by decide) ?_
    have k9 := loop (pc - 1 - p) p (by omega) (Nat.le_refl _); rw [Nat.sub_self] at k9; exact k9
  · cases hc5
