/-! ===== the network's object and its rows ===== -/
def hNet (n : Nat) (g : Int64) (sh k pc bc : Nat) (ps : Nat → Int64) (bs sf : Nat → Int32) : List pnE :=
  [.inr (2, [.int (nI n), .long g, .int (nI sh), .int (nI k), .int (nI pc), .int (nI bc), .ref 1, .ref 2, .ref 3]), .inl (1, 55, .inr (.inl ps)), .inl (0, 20, .inl bs), .inl (0, 5, .inl sf)]
theorem hNet_cl (n : Nat) (g : Int64) (sh k pc bc : Nat) (ps : Nat → Int64) (bs sf : Nat → Int32) : pnCH (hNet n g sh k pc bc ps bs sf) := pnCH_b rfl
def lfN (ps : Nat → Int64) (g : Int64) : Nat → Int64
  | 0 => g
  | i + 1 => lfN ps g i &&& (ps i ^^^ (-1))
set_option maxRecDepth 100000 in
theorem c_leftLines (adK : Nat → Nat) (d n : Nat) (g : Int64) (sh k pc bc : Nat) (ps : Nat → Int64) (bs sf : Nat → Int32) (hpc : pc ≤ 55) : pnCt mX2_leftLines adK d 0 0 [.ref 0] (hNet n g sh k pc bc ps bs sf) (pnIs (.inl (some (.long (lfN ps g pc)))) (hNet n g sh k pc bc ps bs sf)) := by
  refine pnCt_of (by decide) kX2_leftLines (Nat.le_of_ble_eq_true rfl) rfl (hNet_cl _ _ _ _ _ _ _ _ _) (pnCS_b rfl) ?_
  refine pn_aload_n (q := 1) dX2_leftLines_0 rfl rfl rfl ?_
  refine pn_get (q := 4) fX2_15 dX2_leftLines_1 rfl rfl rfl ?_
  refine pn_lstore_n (q := 5) dX2_leftLines_4 rfl (by decide) ?_
  refine pn_iconst (q := 6) (v := nI 0) dX2_leftLines_5 rfl (by decide) ?_
  refine pn_istore_n (q := 7) dX2_leftLines_6 rfl (by decide) ?_
  have loop : ∀ (m i : Nat), i + m = pc → pnWP mX2_leftLines adK d (pnIs (.inl (some (.long (lfN ps g pc)))) (hNet n g sh k pc bc ps bs sf)) 0 0 (hNet n g sh k pc bc ps bs sf) [some (.ref 0), some (.long (lfN ps g i)), none, some (.int (nI i))] [] 7 := by
    intro m
    induction m with
    | zero =>
      intro i hi
      refine pn_iload_n (q := 8) dX2_leftLines_7 rfl rfl ?_
      refine pn_aload_n (q := 9) dX2_leftLines_8 rfl rfl rfl ?_
      refine pn_get (q := 12) fX2_25 dX2_leftLines_9 rfl rfl rfl ?_
      refine pn_nge (q := 15) (tgt := 43) dX2_leftLines_12 (by decide) rfl (by omega) (by omega) (fun hc => ?_) (fun hc => ?_)
      · refine pn_lload_n (q := 44) dX2_leftLines_43 rfl rfl ?_
        exact pn_lret dX2_leftLines_44 rfl ⟨by rw [show i = pc by omega], rfl⟩
      · omega
    | succ m ih =>
      intro i hi
      refine pn_iload_n (q := 8) dX2_leftLines_7 rfl rfl ?_
      refine pn_aload_n (q := 9) dX2_leftLines_8 rfl rfl rfl ?_
      refine pn_get (q := 12) fX2_25 dX2_leftLines_9 rfl rfl rfl ?_
      refine pn_nge (q := 15) (tgt := 43) dX2_leftLines_12 (by decide) rfl (by omega) (by omega) (fun hc => ?_) (fun hc => ?_)
      · omega
      · refine pn_iload_n (q := 16) dX2_leftLines_15 rfl rfl ?_
        refine pn_aload_n (q := 17) dX2_leftLines_16 rfl rfl rfl ?_
        refine pn_get (q := 20) fX2_31 dX2_leftLines_17 rfl rfl rfl ?_
        refine pn_alen (q := 21) dX2_leftLines_20 rfl rfl (by decide) ?_
        refine pn_nge (q := 24) (tgt := 43) dX2_leftLines_21 (by decide) rfl (by omega) (by omega) (fun hc => ?_) (fun hc => ?_)
        · omega
        · refine pn_lload_n (q := 25) dX2_leftLines_24 rfl rfl ?_
          refine pn_aload_n (q := 26) dX2_leftLines_25 rfl rfl rfl ?_
          refine pn_get (q := 29) fX2_31 dX2_leftLines_26 rfl rfl rfl ?_
          refine pn_iload_n (q := 30) dX2_leftLines_29 rfl rfl ?_
          refine pn_lald1 (q := 31) dX2_leftLines_30 rfl rfl rfl (by omega) (by decide) ?_
          refine pn_ldc2 (q := 34) pw_482 dX2_leftLines_31 rfl ?_
          refine pn_lxor (q := 35) dX2_leftLines_34 rfl ?_
          refine pn_land (q := 36) dX2_leftLines_35 rfl ?_
          refine pn_lstore_n (q := 37) dX2_leftLines_36 rfl (by decide) ?_
          first | refine pn_iinc1 (q := 40) dX2_leftLines_37 rfl rfl (by decide) ?_ | refine pn_iinc (q := 40) (mm := 1) dX2_leftLines_37 rfl rfl (by decide) (by decide) ?_
          refine pn_goto (q := 7) dX2_leftLines_40 (by decide) ?_
          exact ih (i + 1) (by omega)
  exact loop pc 0 (by omega)
