def ckN (f : Nat → Int64) (sN : Nat → Nat) (x y : Int64) (i : Nat) : Bool := decide (f i &&& ((x ||| y) ^^^ (-1)) = 0 ∧ ¬ f i = x ∧ ¬ f i = y ∧ hasC f sN ((x ||| y) &&& (f i ^^^ (-1))) = true)
def cpC (f : Nat → Int64) (sN : Nat → Nat) (x y : Int64) : Nat → Nat → Nat → Nat
  | _, a, 0 => a
  | i, a, m + 1 => if ckN f sN x y i = true then cpC f sN x y (i + 1) (a + 1) m else cpC f sN x y (i + 1) a m
def cpF (f : Nat → Int64) (sN : Nat → Nat) (x y : Int64) (q : Int32) : Nat → Nat → Int64 → Nat → Int64
  | _, _, fd, 0 => fd
  | i, a, fd, m + 1 => if ckN f sN x y i = true then cpF f sN x y q (i + 1) (a + 1) (if nI a = q then f i else fd) m else cpF f sN x y q (i + 1) a fd m
set_option maxRecDepth 100000 in
theorem c_couples (adK : Nat → Nat) (d : Nat) (c R : Nat) (f : Nat → Int64) (sN : Nat → Nat) (fd : Int64) (n sh k : Nat) (g : Int64) (pl : Nat) (ch : Nat → Int32) (x y : Int64) (q : Int32) (h56 : llN (x ||| y) + 1 < 56) (hmo : sN (llN (x ||| y)) ≤ sN (llN (x ||| y) + 1)) (hs : ∀ j, sN j ≤ R) (hR : R ≤ 60000) : pnCt mX1_couples adK (d + 3) 0 0 [.ref 0, .long x, .long y, .int q] (hCat c R f (fun j => nI (sN j)) fd n sh k g pl ch) (pnIs (.inl (some (.int (nI (cpC f sN x y (sN (llN (x ||| y))) 0 (sN (llN (x ||| y) + 1) - sN (llN (x ||| y)))))))) (hCat c R f (fun j => nI (sN j)) (cpF f sN x y q (sN (llN (x ||| y))) 0 0 (sN (llN (x ||| y) + 1) - sN (llN (x ||| y)))) n sh k g pl ch)) := by
  refine pnCt_of (by decide) kX1_couples (Nat.le_of_ble_eq_true rfl) rfl (hCat_cl _ _ _ _ _ _ _ _ _ _ _) (pnCS_b rfl) ?_
  have hsa := hs (llN (x ||| y))
  have hsb := hs (llN (x ||| y) + 1)
  generalize hC : cpC f sN x y (sN (llN (x ||| y))) 0 (sN (llN (x ||| y) + 1) - sN (llN (x ||| y))) = CC
  generalize hF : cpF f sN x y q (sN (llN (x ||| y))) 0 0 (sN (llN (x ||| y) + 1) - sN (llN (x ||| y))) = FF
  have loop : ∀ (m i a : Nat) (fd : Int64), i + m = sN (llN (x ||| y) + 1) → a ≤ i → cpC f sN x y i a m = CC → cpF f sN x y q i a fd m = FF → pnWP mX1_couples adK (d + 3) (pnIs (.inl (some (.int (nI CC)))) (hCat c R f (fun j => nI (sN j)) FF n sh k g pl ch)) 0 0 (hCat c R f (fun j => nI (sN j)) fd n sh k g pl ch) [some (.ref 0), some (.long x), none, some (.long y), none, some (.int q), some (.long (x ||| y)), none, some (.int (nI (llN (x ||| y)))), some (.int (nI a)), some (.int (nI i))] [] 48 := by
    intro m
    induction m with
    | zero =>
      intro i a fd hi ha e1 e2
      refine pn_iload (q := 50) dX1_couples_48 rfl rfl ?_
      refine pn_aload_n (q := 51) dX1_couples_50 rfl rfl rfl ?_
      refine pn_get (q := 54) fX1_19 dX1_couples_51 rfl rfl rfl ?_
      refine pn_iload (q := 56) dX1_couples_54 rfl rfl ?_
      refine pn_iconst (q := 57) (v := nI 1) dX1_couples_56 rfl (by decide) ?_
      first | with_reducible refine pn_iaddN (q := 58) dX1_couples_57 rfl ?_ | refine pn_iadd (q := 58) dX1_couples_57 rfl ?_
      refine pn_iald (q := 59) dX1_couples_58 rfl rfl rfl (by omega) (by first | decide | omega) ?_
      first | refine pn_nge (q := 62) (tgt := 147) dX1_couples_59 (by decide) rfl (by omega) (by omega) (fun hc59 => ?_) (fun hc59 => ?_) | refine pn_icmp_ge (q := 62) (tgt := 147) dX1_couples_59 (by decide) rfl (fun hc59 => ?_) (fun hc59 => ?_)
      · refine pn_iload (q := 149) dX1_couples_147 rfl rfl ?_
        refine pn_iret dX1_couples_149 rfl ?_
        exact ⟨by rw [← e1]; rfl, by rw [← e2]; rfl⟩
      · omega
    | succ m ih =>
      intro i a fd hi ha e1 e2
      have g1 : cpC f sN x y i a (m + 1) = if ckN f sN x y i = true then cpC f sN x y (i + 1) (a + 1) m else cpC f sN x y (i + 1) a m := rfl
      have g2 : cpF f sN x y q i a fd (m + 1) = if ckN f sN x y i = true then cpF f sN x y q (i + 1) (a + 1) (if nI a = q then f i else fd) m else cpF f sN x y q (i + 1) a fd m := rfl
      have no : ckN f sN x y i = false → pnWP mX1_couples adK (d + 3) (pnIs (.inl (some (.int (nI CC)))) (hCat c R f (fun j => nI (sN j)) FF n sh k g pl ch)) 0 0 (hCat c R f (fun j => nI (sN j)) fd n sh k g pl ch) [some (.ref 0), some (.long x), none, some (.long y), none, some (.int q), some (.long (x ||| y)), none, some (.int (nI (llN (x ||| y)))), some (.int (nI a)), some (.int (nI (i + 1)))] [] 48 := fun hn =>
        ih (i + 1) a fd (by omega) (by omega) (by rw [← e1, g1, hn]; rfl) (by rw [← e2, g2, hn]; rfl)
      have yes : ∀ fd', ckN f sN x y i = true → fd' = (if nI a = q then f i else fd) → pnWP mX1_couples adK (d + 3) (pnIs (.inl (some (.int (nI CC)))) (hCat c R f (fun j => nI (sN j)) FF n sh k g pl ch)) 0 0 (hCat c R f (fun j => nI (sN j)) fd' n sh k g pl ch) [some (.ref 0), some (.long x), none, some (.long y), none, some (.int q), some (.long (x ||| y)), none, some (.int (nI (llN (x ||| y)))), some (.int (nI (a + 1))), some (.int (nI (i + 1)))] [] 48 := fun fd' hy hfd =>
        ih (i + 1) (a + 1) fd' (by omega) (by omega) (by rw [← e1, g1, if_pos hy]) (by rw [← e2, g2, if_pos hy, hfd])
      refine pn_iload (q := 50) dX1_couples_48 rfl rfl ?_
      refine pn_aload_n (q := 51) dX1_couples_50 rfl rfl rfl ?_
      refine pn_get (q := 54) fX1_19 dX1_couples_51 rfl rfl rfl ?_
      refine pn_iload (q := 56) dX1_couples_54 rfl rfl ?_
      refine pn_iconst (q := 57) (v := nI 1) dX1_couples_56 rfl (by decide) ?_
      first | with_reducible refine pn_iaddN (q := 58) dX1_couples_57 rfl ?_ | refine pn_iadd (q := 58) dX1_couples_57 rfl ?_
      refine pn_iald (q := 59) dX1_couples_58 rfl rfl rfl (by omega) (by first | decide | omega) ?_
      first | refine pn_nge (q := 62) (tgt := 147) dX1_couples_59 (by decide) rfl (by omega) (by omega) (fun hc59 => ?_) (fun hc59 => ?_) | refine pn_icmp_ge (q := 62) (tgt := 147) dX1_couples_59 (by decide) rfl (fun hc59 => ?_) (fun hc59 => ?_)
      · omega
      · refine pn_iload (q := 64) dX1_couples_62 rfl rfl ?_
        refine pn_aload_n (q := 65) dX1_couples_64 rfl rfl rfl ?_
        refine pn_get (q := 68) fX1_15 dX1_couples_65 rfl rfl rfl ?_
        refine pn_alen (q := 69) dX1_couples_68 rfl rfl (by decide) ?_
        first | refine pn_nge (q := 72) (tgt := 147) dX1_couples_69 (by decide) rfl (by omega) (by omega) (fun hc69 => ?_) (fun hc69 => ?_) | refine pn_icmp_ge (q := 72) (tgt := 147) dX1_couples_69 (by decide) rfl (fun hc69 => ?_) (fun hc69 => ?_)
        · omega
        · refine pn_aload_n (q := 73) dX1_couples_72 rfl rfl rfl ?_
          refine pn_get (q := 76) fX1_15 dX1_couples_73 rfl rfl rfl ?_
          refine pn_iload (q := 78) dX1_couples_76 rfl rfl ?_
          first | refine pn_lald5 (q := 79) dX1_couples_78 rfl rfl rfl (by omega) (by first | decide | omega) ?_ | refine pn_lald1 (q := 79) dX1_couples_78 rfl rfl rfl (by omega) (by first | decide | omega) ?_
          refine pn_lstore (q := 81) dX1_couples_79 rfl (by decide) ?_
          refine pn_lload (q := 83) dX1_couples_81 rfl rfl ?_
          refine pn_lload (q := 85) dX1_couples_83 rfl rfl ?_
          refine pn_ldc2 (q := 88) pw_453 dX1_couples_85 rfl ?_
          refine pn_lxor (q := 89) dX1_couples_88 rfl ?_
          refine pn_land (q := 90) dX1_couples_89 rfl ?_
          refine pn_lconst (q := 91) (v := 0) dX1_couples_90 rfl (by decide) ?_
          refine pn_lne (q1 := 92) (q := 95) (tgt := 141) dX1_couples_91 rfl dX1_couples_92 (by decide) rfl (fun hc91 => ?_) (fun hc91 => ?_)
          · first | refine pn_iinc1 (q := 144) dX1_couples_141 rfl rfl (by decide) ?_ | refine pn_iinc (q := 144) (mm := 1) dX1_couples_141 rfl rfl (by decide) (by decide) ?_
            refine pn_goto (q := 48) dX1_couples_144 (by decide) ?_
            (first | exact pn_take 11 (no (decide_eq_false (fun z => ‹¬ f i &&& ((x ||| y) ^^^ (-1)) = 0› z.1))) | exact pn_take 11 (no (decide_eq_false (fun z => z.2.1 ‹_›))) | exact pn_take 11 (no (decide_eq_false (fun z => z.2.2.1 ‹_›))) | exact pn_take 11 (no (decide_eq_false (fun z => by rw [hc122] at z; exact absurd z.2.2.2 (by decide)))) | exact pn_take 11 (yes _ (decide_eq_true ⟨hc91, hc98, hc105, hc122⟩) (if_pos hc129).symm) | exact pn_take 11 (yes _ (decide_eq_true ⟨hc91, hc98, hc105, hc122⟩) (if_neg hc129).symm))
          · refine pn_lload (q := 97) dX1_couples_95 rfl rfl ?_
            refine pn_lload_n (q := 98) dX1_couples_97 rfl rfl ?_
            refine pn_leq (q1 := 99) (q := 102) (tgt := 141) dX1_couples_98 rfl dX1_couples_99 (by decide) rfl (fun hc98 => ?_) (fun hc98 => ?_)
            · first | refine pn_iinc1 (q := 144) dX1_couples_141 rfl rfl (by decide) ?_ | refine pn_iinc (q := 144) (mm := 1) dX1_couples_141 rfl rfl (by decide) (by decide) ?_
              refine pn_goto (q := 48) dX1_couples_144 (by decide) ?_
              (first | exact pn_take 11 (no (decide_eq_false (fun z => ‹¬ f i &&& ((x ||| y) ^^^ (-1)) = 0› z.1))) | exact pn_take 11 (no (decide_eq_false (fun z => z.2.1 ‹_›))) | exact pn_take 11 (no (decide_eq_false (fun z => z.2.2.1 ‹_›))) | exact pn_take 11 (no (decide_eq_false (fun z => by rw [hc122] at z; exact absurd z.2.2.2 (by decide)))) | exact pn_take 11 (yes _ (decide_eq_true ⟨hc91, hc98, hc105, hc122⟩) (if_pos hc129).symm) | exact pn_take 11 (yes _ (decide_eq_true ⟨hc91, hc98, hc105, hc122⟩) (if_neg hc129).symm))
            · refine pn_lload (q := 104) dX1_couples_102 rfl rfl ?_
              refine pn_lload_n (q := 105) dX1_couples_104 rfl rfl ?_
              refine pn_leq (q1 := 106) (q := 109) (tgt := 141) dX1_couples_105 rfl dX1_couples_106 (by decide) rfl (fun hc105 => ?_) (fun hc105 => ?_)
              · first | refine pn_iinc1 (q := 144) dX1_couples_141 rfl rfl (by decide) ?_ | refine pn_iinc (q := 144) (mm := 1) dX1_couples_141 rfl rfl (by decide) (by decide) ?_
                refine pn_goto (q := 48) dX1_couples_144 (by decide) ?_
                (first | exact pn_take 11 (no (decide_eq_false (fun z => ‹¬ f i &&& ((x ||| y) ^^^ (-1)) = 0› z.1))) | exact pn_take 11 (no (decide_eq_false (fun z => z.2.1 ‹_›))) | exact pn_take 11 (no (decide_eq_false (fun z => z.2.2.1 ‹_›))) | exact pn_take 11 (no (decide_eq_false (fun z => by rw [hc122] at z; exact absurd z.2.2.2 (by decide)))) | exact pn_take 11 (yes _ (decide_eq_true ⟨hc91, hc98, hc105, hc122⟩) (if_pos hc129).symm) | exact pn_take 11 (yes _ (decide_eq_true ⟨hc91, hc98, hc105, hc122⟩) (if_neg hc129).symm))
              · refine pn_aload_n (q := 110) dX1_couples_109 rfl rfl rfl ?_
                refine pn_lload (q := 112) dX1_couples_110 rfl rfl ?_
                refine pn_lload (q := 114) dX1_couples_112 rfl rfl ?_
                refine pn_ldc2 (q := 117) pw_453 dX1_couples_114 rfl ?_
                refine pn_lxor (q := 118) dX1_couples_117 rfl ?_
                refine pn_land (q := 119) dX1_couples_118 rfl ?_
                refine pn_roV1 (q := 122) (c_has adK d c R f sN fd n sh k g pl ch ((x ||| y) &&& (f i ^^^ (-1))) hs hR) lkX1_112 dX1_couples_119 rfl rfl (pnSel_of (I := [0, 1, 2, 3]) rfl rfl) (pnFree_b rfl rfl) rfl rfl rfl (by omega) (Nat.le_of_ble_eq_true rfl) rfl ?_
                refine pn_beq (q := 125) (tgt := 141) dX1_couples_122 (by decide) rfl (fun hc122 => ?_) (fun hc122 => ?_)
                · first | refine pn_iinc1 (q := 144) dX1_couples_141 rfl rfl (by decide) ?_ | refine pn_iinc (q := 144) (mm := 1) dX1_couples_141 rfl rfl (by decide) (by decide) ?_
                  refine pn_goto (q := 48) dX1_couples_144 (by decide) ?_
                  (first | exact pn_take 11 (no (decide_eq_false (fun z => ‹¬ f i &&& ((x ||| y) ^^^ (-1)) = 0› z.1))) | exact pn_take 11 (no (decide_eq_false (fun z => z.2.1 ‹_›))) | exact pn_take 11 (no (decide_eq_false (fun z => z.2.2.1 ‹_›))) | exact pn_take 11 (no (decide_eq_false (fun z => by rw [hc122] at z; exact absurd z.2.2.2 (by decide)))) | exact pn_take 11 (yes _ (decide_eq_true ⟨hc91, hc98, hc105, hc122⟩) (if_pos hc129).symm) | exact pn_take 11 (yes _ (decide_eq_true ⟨hc91, hc98, hc105, hc122⟩) (if_neg hc129).symm))
                · refine pn_iload (q := 127) dX1_couples_125 rfl rfl ?_
                  refine pn_iload (q := 129) dX1_couples_127 rfl rfl ?_
                  refine pn_icmp_ne (q := 132) (tgt := 138) dX1_couples_129 (by decide) rfl (fun hc129 => ?_) (fun hc129 => ?_)
                  · first | refine pn_iinc1 (q := 141) dX1_couples_138 rfl rfl (by decide) ?_ | refine pn_iinc (q := 141) (mm := 1) dX1_couples_138 rfl rfl (by decide) (by decide) ?_
                    first | refine pn_iinc1 (q := 144) dX1_couples_141 rfl rfl (by decide) ?_ | refine pn_iinc (q := 144) (mm := 1) dX1_couples_141 rfl rfl (by decide) (by decide) ?_
                    refine pn_goto (q := 48) dX1_couples_144 (by decide) ?_
                    (first | exact pn_take 11 (no (decide_eq_false (fun z => ‹¬ f i &&& ((x ||| y) ^^^ (-1)) = 0› z.1))) | exact pn_take 11 (no (decide_eq_false (fun z => z.2.1 ‹_›))) | exact pn_take 11 (no (decide_eq_false (fun z => z.2.2.1 ‹_›))) | exact pn_take 11 (no (decide_eq_false (fun z => by rw [hc122] at z; exact absurd z.2.2.2 (by decide)))) | exact pn_take 11 (yes _ (decide_eq_true ⟨hc91, hc98, hc105, hc122⟩) (if_pos hc129).symm) | exact pn_take 11 (yes _ (decide_eq_true ⟨hc91, hc98, hc105, hc122⟩) (if_neg hc129).symm))
                  · refine pn_aload_n (q := 133) dX1_couples_132 rfl rfl rfl ?_
                    refine pn_lload (q := 135) dX1_couples_133 rfl rfl ?_
                    refine pn_put (q := 138) fX1_23 dX1_couples_135 rfl rfl (Nat.le_of_ble_eq_true rfl) (pnF_long _) ?_
                    first | refine pn_iinc1 (q := 141) dX1_couples_138 rfl rfl (by decide) ?_ | refine pn_iinc (q := 141) (mm := 1) dX1_couples_138 rfl rfl (by decide) (by decide) ?_
                    first | refine pn_iinc1 (q := 144) dX1_couples_141 rfl rfl (by decide) ?_ | refine pn_iinc (q := 144) (mm := 1) dX1_couples_141 rfl rfl (by decide) (by decide) ?_
                    refine pn_goto (q := 48) dX1_couples_144 (by decide) ?_
                    (first | exact pn_take 11 (no (decide_eq_false (fun z => ‹¬ f i &&& ((x ||| y) ^^^ (-1)) = 0› z.1))) | exact pn_take 11 (no (decide_eq_false (fun z => z.2.1 ‹_›))) | exact pn_take 11 (no (decide_eq_false (fun z => z.2.2.1 ‹_›))) | exact pn_take 11 (no (decide_eq_false (fun z => by rw [hc122] at z; exact absurd z.2.2.2 (by decide)))) | exact pn_take 11 (yes _ (decide_eq_true ⟨hc91, hc98, hc105, hc122⟩) (if_pos hc129).symm) | exact pn_take 11 (yes _ (decide_eq_true ⟨hc91, hc98, hc105, hc122⟩) (if_neg hc129).symm))
  refine pn_lload_n (q := 1) dX1_couples_0 rfl rfl ?_
  refine pn_lload_n (q := 2) dX1_couples_1 rfl rfl ?_
  refine pn_lor (q := 3) dX1_couples_2 rfl ?_
  refine pn_lstore (q := 5) dX1_couples_3 rfl (by decide) ?_
  refine pn_lload (q := 7) dX1_couples_5 rfl rfl ?_
  refine pn_roSN1 (q := 10) (c_leastLine adK d (x ||| y)) lkX1_108 dX1_couples_7 rfl rfl (pnSel_of (I := []) rfl rfl) (pnFree_none rfl) rfl (by omega) (Nat.le_of_ble_eq_true rfl) rfl ?_
  refine pn_istore (q := 12) dX1_couples_10 rfl (by decide) ?_
  refine pn_iconst (q := 13) (v := nI 0) dX1_couples_12 rfl (by decide) ?_
  refine pn_istore (q := 15) dX1_couples_13 rfl (by decide) ?_
  refine pn_aload_n (q := 16) dX1_couples_15 rfl rfl rfl ?_
  refine pn_lconst (q := 17) (v := 0) dX1_couples_16 rfl (by decide) ?_
  refine pn_put (q := 20) fX1_23 dX1_couples_17 rfl rfl (Nat.le_of_ble_eq_true rfl) (pnF_long _) ?_
  refine pn_iload (q := 22) dX1_couples_20 rfl rfl ?_
  first | refine pn_zlt (q := 25) (tgt := 37) dX1_couples_22 (by decide) rfl (by omega) (fun hc22 => ?_) (fun hc22 => ?_) | refine pn_if_lt (q := 25) (tgt := 37) dX1_couples_22 (by decide) rfl (fun hc22 => ?_) (fun hc22 => ?_)
  · exact hc22.elim
  · refine pn_iload (q := 27) dX1_couples_25 rfl rfl ?_
    refine pn_iconst (q := 28) (v := nI 1) dX1_couples_27 rfl (by decide) ?_
    first | with_reducible refine pn_iaddN (q := 29) dX1_couples_28 rfl ?_ | refine pn_iadd (q := 29) dX1_couples_28 rfl ?_
    refine pn_aload_n (q := 30) dX1_couples_29 rfl rfl rfl ?_
    refine pn_get (q := 33) fX1_19 dX1_couples_30 rfl rfl rfl ?_
    refine pn_alen (q := 34) dX1_couples_33 rfl rfl (by decide) ?_
    first | refine pn_nlt (q := 37) (tgt := 39) dX1_couples_34 (by decide) rfl (by omega) (by omega) (fun hc34 => ?_) (fun hc34 => ?_) | refine pn_icmp_lt (q := 37) (tgt := 39) dX1_couples_34 (by decide) rfl (fun hc34 => ?_) (fun hc34 => ?_)
    · refine pn_aload_n (q := 40) dX1_couples_39 rfl rfl rfl ?_
      refine pn_get (q := 43) fX1_19 dX1_couples_40 rfl rfl rfl ?_
      refine pn_iload (q := 45) dX1_couples_43 rfl rfl ?_
      refine pn_iald (q := 46) dX1_couples_45 rfl rfl rfl (by omega) (by first | decide | omega) ?_
      refine pn_istore (q := 48) dX1_couples_46 rfl (by decide) ?_
      exact loop (sN (llN (x ||| y) + 1) - sN (llN (x ||| y))) (sN (llN (x ||| y))) 0 0 (by omega) (Nat.zero_le _) hC hF
    · omega
