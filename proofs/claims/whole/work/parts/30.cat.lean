/-! ===== the catalog ===== -/
def hCat (c R : Nat) (f : Nat → Int64) (stt : Nat → Int32) (fd : Int64) (n sh k : Nat) (g : Int64) (pl : Nat) (ch : Nat → Int32) : List pnE :=
  [.inr (1, [.int (nI c), .ref 1, .ref 2, .long fd, .int (nI n), .int (nI sh), .int (nI k), .long g, .int (nI pl), .ref 3]), .inl (5, R, .inr (.inl f)), .inl (0, 56, .inl stt), .inl (0, 5, .inl ch)]
theorem hCat_cl (c R : Nat) (f : Nat → Int64) (stt : Nat → Int32) (fd : Int64) (n sh k : Nat) (g : Int64) (pl : Nat) (ch : Nat → Int32) : pnCH (hCat c R f stt fd n sh k g pl ch) := pnCH_b rfl
def llN (x : Int64) : Nat := pcN ((x &&& (-x)) - 1)
set_option maxRecDepth 100000 in
theorem c_leastLine (adK : Nat → Nat) (d : Nat) (x : Int64) : pnCt mX6_leastLine adK (d + 1) 0 0 [.long x] [] (pnIs (.inl (some (.int (nI (llN x))))) []) := by
  refine pnCt_of (by decide) kX6_leastLine (Nat.le_of_ble_eq_true rfl) rfl (pnCH_b rfl) (pnCS_b rfl) ?_
  refine pn_lload_n (q := 1) dX6_leastLine_0 rfl rfl ?_
  refine pn_lload_n (q := 2) dX6_leastLine_1 rfl rfl ?_
  refine pn_lneg (q := 3) dX6_leastLine_2 rfl ?_
  refine pn_land (q := 4) dX6_leastLine_3 rfl ?_
  refine pn_lconst (q := 5) (v := 1) dX6_leastLine_4 rfl (by decide) ?_
  refine pn_lsub (q := 6) dX6_leastLine_5 rfl ?_
  refine pn_roS1 (q := 9) (c_bc adK d ((x &&& (-x)) - 1)) lkX6_108 dX6_leastLine_6 rfl rfl (pnSel_of (I := []) rfl rfl) (pnFree_none rfl) rfl (by omega) (Nat.le_of_ble_eq_true rfl) rfl ?_
  refine pn_iret dX6_leastLine_9 rfl ?_
  exact ⟨rfl, rfl⟩
def cfN (x y : Int64) : Bool := decide (¬ (x &&& (x ^^^ y)) &&& (-(x ^^^ y)) = 0)
set_option maxRecDepth 100000 in
theorem c_comesFirst (adK : Nat → Nat) (d : Nat) (x y : Int64) : pnCt mX1_comesFirst adK d 0 0 [.long x, .long y] [] (pnIs (.inl (some (.int (nB (cfN x y))))) []) := by
  refine pnCt_of (by decide) kX1_comesFirst (Nat.le_of_ble_eq_true rfl) rfl (pnCH_b rfl) (pnCS_b rfl) ?_
  refine pn_lload_n (q := 1) dX1_comesFirst_0 rfl rfl ?_
  refine pn_lload_n (q := 2) dX1_comesFirst_1 rfl rfl ?_
  refine pn_lxor (q := 3) dX1_comesFirst_2 rfl ?_
  refine pn_lstore (q := 5) dX1_comesFirst_3 rfl (by decide) ?_
  refine pn_lload_n (q := 6) dX1_comesFirst_5 rfl rfl ?_
  refine pn_lload (q := 8) dX1_comesFirst_6 rfl rfl ?_
  refine pn_land (q := 9) dX1_comesFirst_8 rfl ?_
  refine pn_lload (q := 11) dX1_comesFirst_9 rfl rfl ?_
  refine pn_lneg (q := 12) dX1_comesFirst_11 rfl ?_
  refine pn_land (q := 13) dX1_comesFirst_12 rfl ?_
  refine pn_lconst (q := 14) (v := 0) dX1_comesFirst_13 rfl (by decide) ?_
  refine pn_leq (q1 := 15) (q := 18) (tgt := 22) dX1_comesFirst_14 rfl dX1_comesFirst_15 (by decide) rfl (fun hc14 => ?_) (fun hc14 => ?_)
  · refine pn_iconst (q := 23) (v := nI 0) dX1_comesFirst_22 rfl (by decide) ?_
    refine pn_tret (b := cfN x y) _ ?_ dX1_comesFirst_23 rfl ?_
    · first | (rw [show cfN x y = true from decide_eq_true ‹_›]; rfl) | (rw [show cfN x y = false from decide_eq_false (fun q => q ‹_›)]; rfl)
    · exact ⟨rfl, rfl⟩
  · refine pn_iconst (q := 19) (v := nI 1) dX1_comesFirst_18 rfl (by decide) ?_
    refine pn_goto (q := 23) dX1_comesFirst_19 (by decide) ?_
    refine pn_tret (b := cfN x y) _ ?_ dX1_comesFirst_23 rfl ?_
    · first | (rw [show cfN x y = true from decide_eq_true ‹_›]; rfl) | (rw [show cfN x y = false from decide_eq_false (fun q => q ‹_›)]; rfl)
    · exact ⟨rfl, rfl⟩
def hCat0 : List pnE := [.inr (1, [.int (nI 0), .null, .null, .long 0, .int (nI 0), .int (nI 0), .int (nI 0), .long 0, .int (nI 0), .null])]
set_option maxRecDepth 100000 in
theorem c_CatInit (adK : Nat → Nat) (d : Nat) : pnCt mX1_init adK (d + 1) 3 61 [.ref 0] hCat0 (pnIs (.inl none) (hCat 0 0 (fun _ => 0) (fun _ => 0) 0 0 0 0 0 0 (fun _ => 0))) := by
  refine pnCt_of (by decide) kX1_init (Nat.le_of_ble_eq_true rfl) rfl (pnCH_b rfl) (pnCS_b rfl) ?_
  refine pn_aload_n (q := 1) dX1_init_0 rfl rfl rfl ?_
  refine pn_obj (q := 4) pw_246 pw_106 pw_107 dX1_init_1 rfl (by omega) (Nat.le_of_ble_eq_true rfl) ?_
  refine pn_aload_n (q := 5) dX1_init_4 rfl rfl rfl ?_
  refine pn_iconst (q := 6) (v := nI 0) dX1_init_5 rfl (by decide) ?_
  refine pn_put (q := 9) fX1_9 dX1_init_6 rfl rfl (Nat.le_of_ble_eq_true rfl) (pnF_int _) ?_
  refine pn_aload_n (q := 10) dX1_init_9 rfl rfl rfl ?_
  refine pn_iconst (q := 11) (v := nI 0) dX1_init_10 rfl (by decide) ?_
  refine pn_newl5 (q := 13) pw_163 dX1_init_11 rfl rfl (by decide) ?_
  refine pn_put (q := 16) fX1_15 dX1_init_13 rfl rfl (Nat.le_of_ble_eq_true rfl) (pnF_arr rfl) ?_
  refine pn_aload_n (q := 17) dX1_init_16 rfl rfl rfl ?_
  refine pn_bipush (q := 19) (v := nI 56) dX1_init_17 rfl (by decide) ?_
  refine pn_newi (q := 21) pw_164 dX1_init_19 rfl rfl (by first | decide | omega) ?_
  refine pn_putF (q := 24) fX1_19 rfl hdeclX1 dX1_init_21 rfl rfl (Nat.le_of_ble_eq_true rfl) (pnF_arr rfl) ?_
  refine pn_aload_n (q := 25) dX1_init_24 rfl rfl rfl ?_
  refine pn_lconst (q := 26) (v := 0) dX1_init_25 rfl (by decide) ?_
  refine pn_put (q := 29) fX1_23 dX1_init_26 rfl rfl (Nat.le_of_ble_eq_true rfl) (pnF_long _) ?_
  refine pn_aload_n (q := 30) dX1_init_29 rfl rfl rfl ?_
  refine pn_iconst (q := 31) (v := nI 0) dX1_init_30 rfl (by decide) ?_
  refine pn_put (q := 34) fX1_27 dX1_init_31 rfl rfl (Nat.le_of_ble_eq_true rfl) (pnF_int _) ?_
  refine pn_aload_n (q := 35) dX1_init_34 rfl rfl rfl ?_
  refine pn_iconst (q := 36) (v := nI 0) dX1_init_35 rfl (by decide) ?_
  refine pn_put (q := 39) fX1_30 dX1_init_36 rfl rfl (Nat.le_of_ble_eq_true rfl) (pnF_int _) ?_
  refine pn_aload_n (q := 40) dX1_init_39 rfl rfl rfl ?_
  refine pn_iconst (q := 41) (v := nI 0) dX1_init_40 rfl (by decide) ?_
  refine pn_put (q := 44) fX1_33 dX1_init_41 rfl rfl (Nat.le_of_ble_eq_true rfl) (pnF_int _) ?_
  refine pn_aload_n (q := 45) dX1_init_44 rfl rfl rfl ?_
  refine pn_lconst (q := 46) (v := 0) dX1_init_45 rfl (by decide) ?_
  refine pn_put (q := 49) fX1_36 dX1_init_46 rfl rfl (Nat.le_of_ble_eq_true rfl) (pnF_long _) ?_
  refine pn_aload_n (q := 50) dX1_init_49 rfl rfl rfl ?_
  refine pn_iconst (q := 51) (v := nI 0) dX1_init_50 rfl (by decide) ?_
  refine pn_put (q := 54) fX1_39 dX1_init_51 rfl rfl (Nat.le_of_ble_eq_true rfl) (pnF_int _) ?_
  refine pn_aload_n (q := 55) dX1_init_54 rfl rfl rfl ?_
  refine pn_iconst (q := 56) (v := nI 5) dX1_init_55 rfl (by decide) ?_
  refine pn_newi (q := 58) pw_164 dX1_init_56 rfl rfl (by first | decide | omega) ?_
  refine pn_putF (q := 61) fX1_42 rfl hdeclX1 dX1_init_58 rfl rfl (Nat.le_of_ble_eq_true rfl) (pnF_arr rfl) ?_
  refine pn_vret dX1_init_61 rfl ?_
  exact ⟨rfl, rfl⟩
/-- how many of the first i rows lie within some lines -/
def cwN (f : Nat → Int64) (x : Int64) : Nat → Nat
  | 0 => 0
  | i + 1 => if f i &&& (x ^^^ (-1)) = 0 then cwN f x i + 1 else cwN f x i
theorem cwN_le (f : Nat → Int64) (x : Int64) : ∀ i, cwN f x i ≤ i
  | 0 => Nat.le_refl _
  | i + 1 => by have := cwN_le f x i; unfold cwN; split <;> omega
set_option maxRecDepth 100000 in
theorem c_countWithin (adK : Nat → Nat) (d : Nat) (c R : Nat) (f : Nat → Int64) (stt : Nat → Int32) (fd : Int64) (n sh k : Nat) (g : Int64) (pl : Nat) (ch : Nat → Int32) (x : Int64) (hc : c ≤ R) (hR : R ≤ 60000) : pnCt mX1_countWithin adK d 0 0 [.ref 0, .long x] (hCat c R f stt fd n sh k g pl ch) (pnIs (.inl (some (.int (nI (cwN f x c))))) (hCat c R f stt fd n sh k g pl ch)) := by
  refine pnCt_of (by decide) kX1_countWithin (Nat.le_of_ble_eq_true rfl) rfl (hCat_cl _ _ _ _ _ _ _ _ _ _ _) (pnCS_b rfl) ?_
  refine pn_iconst (q := 1) (v := nI 0) dX1_countWithin_0 rfl (by decide) ?_
  refine pn_istore_n (q := 2) dX1_countWithin_1 rfl (by decide) ?_
  refine pn_iconst (q := 3) (v := nI 0) dX1_countWithin_2 rfl (by decide) ?_
  refine pn_istore (q := 5) dX1_countWithin_3 rfl (by decide) ?_
  have loop : ∀ (m i : Nat), i + m = c → pnWP mX1_countWithin adK d (pnIs (.inl (some (.int (nI (cwN f x c))))) (hCat c R f stt fd n sh k g pl ch)) 0 0 (hCat c R f stt fd n sh k g pl ch) [some (.ref 0), some (.long x), none, some (.int (nI (cwN f x i))), some (.int (nI i))] [] 5 := by
    intro m
    induction m with
    | zero =>
      intro i hi
      refine pn_iload (q := 7) dX1_countWithin_5 rfl rfl ?_
      refine pn_aload_n (q := 8) dX1_countWithin_7 rfl rfl rfl ?_
      refine pn_get (q := 11) fX1_9 dX1_countWithin_8 rfl rfl rfl ?_
      first | refine pn_nge (q := 14) (tgt := 51) dX1_countWithin_11 (by decide) rfl (by omega) (by omega) (fun hc11 => ?_) (fun hc11 => ?_) | refine pn_icmp_ge (q := 14) (tgt := 51) dX1_countWithin_11 (by decide) rfl (fun hc11 => ?_) (fun hc11 => ?_)
      · refine pn_iload_n (q := 52) dX1_countWithin_51 rfl rfl ?_
        refine pn_iret dX1_countWithin_52 rfl ?_
        exact ⟨by rw [show i = c by omega], rfl⟩
      · omega
    | succ m ih =>
      intro i hi
      have h1 := cwN_le f x i
      have e2 : cwN f x (i + 1) = if f i &&& (x ^^^ (-1)) = 0 then cwN f x i + 1 else cwN f x i := rfl
      have k9 := ih (i + 1) (by omega)
      refine pn_iload (q := 7) dX1_countWithin_5 rfl rfl ?_
      refine pn_aload_n (q := 8) dX1_countWithin_7 rfl rfl rfl ?_
      refine pn_get (q := 11) fX1_9 dX1_countWithin_8 rfl rfl rfl ?_
      first | refine pn_nge (q := 14) (tgt := 51) dX1_countWithin_11 (by decide) rfl (by omega) (by omega) (fun hc11 => ?_) (fun hc11 => ?_) | refine pn_icmp_ge (q := 14) (tgt := 51) dX1_countWithin_11 (by decide) rfl (fun hc11 => ?_) (fun hc11 => ?_)
      · omega
      · refine pn_iload (q := 16) dX1_countWithin_14 rfl rfl ?_
        refine pn_aload_n (q := 17) dX1_countWithin_16 rfl rfl rfl ?_
        refine pn_get (q := 20) fX1_15 dX1_countWithin_17 rfl rfl rfl ?_
        refine pn_alen (q := 21) dX1_countWithin_20 rfl rfl (by decide) ?_
        first | refine pn_nge (q := 24) (tgt := 51) dX1_countWithin_21 (by decide) rfl (by omega) (by omega) (fun hc21 => ?_) (fun hc21 => ?_) | refine pn_icmp_ge (q := 24) (tgt := 51) dX1_countWithin_21 (by decide) rfl (fun hc21 => ?_) (fun hc21 => ?_)
        · omega
        · refine pn_aload_n (q := 25) dX1_countWithin_24 rfl rfl rfl ?_
          refine pn_get (q := 28) fX1_15 dX1_countWithin_25 rfl rfl rfl ?_
          refine pn_iload (q := 30) dX1_countWithin_28 rfl rfl ?_
          first | refine pn_lald5 (q := 31) dX1_countWithin_30 rfl rfl rfl (by omega) (by first | decide | omega) ?_ | refine pn_lald1 (q := 31) dX1_countWithin_30 rfl rfl rfl (by omega) (by first | decide | omega) ?_
          refine pn_lload_n (q := 32) dX1_countWithin_31 rfl rfl ?_
          refine pn_ldc2 (q := 35) pw_453 dX1_countWithin_32 rfl ?_
          refine pn_lxor (q := 36) dX1_countWithin_35 rfl ?_
          refine pn_land (q := 37) dX1_countWithin_36 rfl ?_
          refine pn_lconst (q := 38) (v := 0) dX1_countWithin_37 rfl (by decide) ?_
          refine pn_lne (q1 := 39) (q := 42) (tgt := 45) dX1_countWithin_38 rfl dX1_countWithin_39 (by decide) rfl (fun hc38 => ?_) (fun hc38 => ?_)
          · first | refine pn_iinc1 (q := 48) dX1_countWithin_45 rfl rfl (by decide) ?_ | refine pn_iinc (q := 48) (mm := 1) dX1_countWithin_45 rfl rfl (by decide) (by decide) ?_
            refine pn_goto (q := 5) dX1_countWithin_48 (by decide) ?_
            (first | (rw [e2, if_pos ‹_›] at k9; exact k9) | (rw [e2, if_neg ‹_›] at k9; exact k9))
          · first | refine pn_iinc1 (q := 45) dX1_countWithin_42 rfl rfl (by decide) ?_ | refine pn_iinc (q := 45) (mm := 1) dX1_countWithin_42 rfl rfl (by decide) (by decide) ?_
            first | refine pn_iinc1 (q := 48) dX1_countWithin_45 rfl rfl (by decide) ?_ | refine pn_iinc (q := 48) (mm := 1) dX1_countWithin_45 rfl rfl (by decide) (by decide) ?_
            refine pn_goto (q := 5) dX1_countWithin_48 (by decide) ?_
            (first | (rw [e2, if_pos ‹_›] at k9; exact k9) | (rw [e2, if_neg ‹_›] at k9; exact k9))
  exact loop c 0 (by omega)
/-- the row with number q (as an int) among those within some lines, from i on, a of them being ahead; 0 if there is none -/
def wiN (f : Nat → Int64) (x : Int64) (q : Int32) : Nat → Nat → Nat → Int64
  | _, _, 0 => 0
  | i, a, m + 1 => if f i &&& (x ^^^ (-1)) = 0 then (if nI a = q then f i else wiN f x q (i + 1) (a + 1) m) else wiN f x q (i + 1) a m
set_option maxRecDepth 100000 in
theorem c_within (adK : Nat → Nat) (d : Nat) (c R : Nat) (f : Nat → Int64) (stt : Nat → Int32) (fd : Int64) (n sh k : Nat) (g : Int64) (pl : Nat) (ch : Nat → Int32) (x : Int64) (q : Int32) (hc : c ≤ R) (hR : R ≤ 60000) : pnCt mX1_within adK d 0 0 [.ref 0, .long x, .int q] (hCat c R f stt fd n sh k g pl ch) (pnIs (.inl (some (.long (wiN f x q 0 0 c)))) (hCat c R f stt fd n sh k g pl ch)) := by
  refine pnCt_of (by decide) kX1_within (Nat.le_of_ble_eq_true rfl) rfl (hCat_cl _ _ _ _ _ _ _ _ _ _ _) (pnCS_b rfl) ?_
  refine pn_iconst (q := 1) (v := nI 0) dX1_within_0 rfl (by decide) ?_
  refine pn_istore (q := 3) dX1_within_1 rfl (by decide) ?_
  refine pn_iconst (q := 4) (v := nI 0) dX1_within_3 rfl (by decide) ?_
  refine pn_istore (q := 6) dX1_within_4 rfl (by decide) ?_
  have loop : ∀ (m i a : Nat), i + m = c → a ≤ i → wiN f x q i a m = wiN f x q 0 0 c → pnWP mX1_within adK d (pnIs (.inl (some (.long (wiN f x q 0 0 c)))) (hCat c R f stt fd n sh k g pl ch)) 0 0 (hCat c R f stt fd n sh k g pl ch) [some (.ref 0), some (.long x), none, some (.int q), some (.int (nI a)), some (.int (nI i))] [] 6 := by
    intro m
    induction m with
    | zero =>
      intro i a hi ha e
      refine pn_iload (q := 8) dX1_within_6 rfl rfl ?_
      refine pn_aload_n (q := 9) dX1_within_8 rfl rfl rfl ?_
      refine pn_get (q := 12) fX1_9 dX1_within_9 rfl rfl rfl ?_
      first | refine pn_nge (q := 15) (tgt := 66) dX1_within_12 (by decide) rfl (by omega) (by omega) (fun hc12 => ?_) (fun hc12 => ?_) | refine pn_icmp_ge (q := 15) (tgt := 66) dX1_within_12 (by decide) rfl (fun hc12 => ?_) (fun hc12 => ?_)
      · refine pn_lconst (q := 67) (v := 0) dX1_within_66 rfl (by decide) ?_
        refine pn_lret dX1_within_67 rfl ?_
        exact ⟨by rw [← e]; rfl, rfl⟩
      · omega
    | succ m ih =>
      intro i a hi ha e
      have e2 : wiN f x q i a (m + 1) = if f i &&& (x ^^^ (-1)) = 0 then (if nI a = q then f i else wiN f x q (i + 1) (a + 1) m) else wiN f x q (i + 1) a m := rfl
      refine pn_iload (q := 8) dX1_within_6 rfl rfl ?_
      refine pn_aload_n (q := 9) dX1_within_8 rfl rfl rfl ?_
      refine pn_get (q := 12) fX1_9 dX1_within_9 rfl rfl rfl ?_
      first | refine pn_nge (q := 15) (tgt := 66) dX1_within_12 (by decide) rfl (by omega) (by omega) (fun hc12 => ?_) (fun hc12 => ?_) | refine pn_icmp_ge (q := 15) (tgt := 66) dX1_within_12 (by decide) rfl (fun hc12 => ?_) (fun hc12 => ?_)
      · omega
      · refine pn_iload (q := 17) dX1_within_15 rfl rfl ?_
        refine pn_aload_n (q := 18) dX1_within_17 rfl rfl rfl ?_
        refine pn_get (q := 21) fX1_15 dX1_within_18 rfl rfl rfl ?_
        refine pn_alen (q := 22) dX1_within_21 rfl rfl (by decide) ?_
        first | refine pn_nge (q := 25) (tgt := 66) dX1_within_22 (by decide) rfl (by omega) (by omega) (fun hc22 => ?_) (fun hc22 => ?_) | refine pn_icmp_ge (q := 25) (tgt := 66) dX1_within_22 (by decide) rfl (fun hc22 => ?_) (fun hc22 => ?_)
        · omega
        · refine pn_aload_n (q := 26) dX1_within_25 rfl rfl rfl ?_
          refine pn_get (q := 29) fX1_15 dX1_within_26 rfl rfl rfl ?_
          refine pn_iload (q := 31) dX1_within_29 rfl rfl ?_
          first | refine pn_lald5 (q := 32) dX1_within_31 rfl rfl rfl (by omega) (by first | decide | omega) ?_ | refine pn_lald1 (q := 32) dX1_within_31 rfl rfl rfl (by omega) (by first | decide | omega) ?_
          refine pn_lload_n (q := 33) dX1_within_32 rfl rfl ?_
          refine pn_ldc2 (q := 36) pw_453 dX1_within_33 rfl ?_
          refine pn_lxor (q := 37) dX1_within_36 rfl ?_
          refine pn_land (q := 38) dX1_within_37 rfl ?_
          refine pn_lconst (q := 39) (v := 0) dX1_within_38 rfl (by decide) ?_
          refine pn_lne (q1 := 40) (q := 43) (tgt := 60) dX1_within_39 rfl dX1_within_40 (by decide) rfl (fun hc39 => ?_) (fun hc39 => ?_)
          · first | refine pn_iinc1 (q := 63) dX1_within_60 rfl rfl (by decide) ?_ | refine pn_iinc (q := 63) (mm := 1) dX1_within_60 rfl rfl (by decide) (by decide) ?_
            refine pn_goto (q := 6) dX1_within_63 (by decide) ?_
            (first | exact ih (i + 1) (a + 1) (by omega) (by omega) (by rw [← e, e2, if_pos hc39, if_neg hc46]) | exact ih (i + 1) a (by omega) (by omega) (by rw [← e, e2, if_neg hc39]))
          · refine pn_iload (q := 45) dX1_within_43 rfl rfl ?_
            refine pn_iload_n (q := 46) dX1_within_45 rfl rfl ?_
            refine pn_icmp_ne (q := 49) (tgt := 57) dX1_within_46 (by decide) rfl (fun hc46 => ?_) (fun hc46 => ?_)
            · first | refine pn_iinc1 (q := 60) dX1_within_57 rfl rfl (by decide) ?_ | refine pn_iinc (q := 60) (mm := 1) dX1_within_57 rfl rfl (by decide) (by decide) ?_
              first | refine pn_iinc1 (q := 63) dX1_within_60 rfl rfl (by decide) ?_ | refine pn_iinc (q := 63) (mm := 1) dX1_within_60 rfl rfl (by decide) (by decide) ?_
              refine pn_goto (q := 6) dX1_within_63 (by decide) ?_
              (first | exact ih (i + 1) (a + 1) (by omega) (by omega) (by rw [← e, e2, if_pos hc39, if_neg hc46]) | exact ih (i + 1) a (by omega) (by omega) (by rw [← e, e2, if_neg hc39]))
            · refine pn_aload_n (q := 50) dX1_within_49 rfl rfl rfl ?_
              refine pn_get (q := 53) fX1_15 dX1_within_50 rfl rfl rfl ?_
              refine pn_iload (q := 55) dX1_within_53 rfl rfl ?_
              first | refine pn_lald5 (q := 56) dX1_within_55 rfl rfl rfl (by omega) (by first | decide | omega) ?_ | refine pn_lald1 (q := 56) dX1_within_55 rfl rfl rfl (by omega) (by first | decide | omega) ?_
              refine pn_lret dX1_within_56 rfl ?_
              exact ⟨by rw [← e, e2, if_pos hc39, if_pos hc46], rfl⟩
  exact loop c 0 0 (by omega) (Nat.le_refl _) rfl
/-- some row from i on, below e, is these lines -/
def haN (f : Nat → Int64) (x : Int64) : Nat → Nat → Bool
  | _, 0 => false
  | i, m + 1 => if f i = x then true else haN f x (i + 1) m
def hasC (f : Nat → Int64) (sN : Nat → Nat) (x : Int64) : Bool := if llN x + 1 < 56 then haN f x (sN (llN x)) (sN (llN x + 1) - sN (llN x)) else false
set_option maxRecDepth 100000 in
theorem c_has (adK : Nat → Nat) (d : Nat) (c R : Nat) (f : Nat → Int64) (sN : Nat → Nat) (fd : Int64) (n sh k : Nat) (g : Int64) (pl : Nat) (ch : Nat → Int32) (x : Int64) (hs : ∀ j, sN j ≤ R) (hR : R ≤ 60000) : pnCt mX1_has adK (d + 2) 0 0 [.ref 0, .long x] (hCat c R f (fun j => nI (sN j)) fd n sh k g pl ch) (pnIs (.inl (some (.int (nB (hasC f sN x))))) (hCat c R f (fun j => nI (sN j)) fd n sh k g pl ch)) := by
  refine pnCt_of (by decide) kX1_has (Nat.le_of_ble_eq_true rfl) rfl (hCat_cl _ _ _ _ _ _ _ _ _ _ _) (pnCS_b rfl) ?_
  have hll : llN x < 128 := (bcI_eq _).2
  have hsa := hs (llN x)
  have hsb := hs (llN x + 1)
  have loop : llN x + 1 < 56 → ∀ (m i : Nat), i + m = (if sN (llN x) ≤ sN (llN x + 1) then sN (llN x + 1) else sN (llN x)) → sN (llN x) ≤ i → haN f x i m = haN f x (sN (llN x)) (sN (llN x + 1) - sN (llN x)) → pnWP mX1_has adK (d + 2) (pnIs (.inl (some (.int (nB (hasC f sN x))))) (hCat c R f (fun j => nI (sN j)) fd n sh k g pl ch)) 0 0 (hCat c R f (fun j => nI (sN j)) fd n sh k g pl ch) [some (.ref 0), some (.long x), none, some (.int (nI (llN x))), some (.int (nI i))] [] 30 := by
    intro h56 m
    have e0 : hasC f sN x = haN f x (sN (llN x)) (sN (llN x + 1) - sN (llN x)) := if_pos h56
    induction m with
    | zero =>
      intro i hi hi2 e
      have hib : i ≤ R ∧ sN (llN x + 1) ≤ i := by split at hi <;> omega
      refine pn_iload (q := 32) dX1_has_30 rfl rfl ?_
      refine pn_aload_n (q := 33) dX1_has_32 rfl rfl rfl ?_
      refine pn_get (q := 36) fX1_19 dX1_has_33 rfl rfl rfl ?_
      refine pn_iload_n (q := 37) dX1_has_36 rfl rfl ?_
      refine pn_iconst (q := 38) (v := nI 1) dX1_has_37 rfl (by decide) ?_
      first | with_reducible refine pn_iaddN (q := 39) dX1_has_38 rfl ?_ | refine pn_iadd (q := 39) dX1_has_38 rfl ?_
      refine pn_iald (q := 40) dX1_has_39 rfl rfl rfl (by omega) (by first | decide | omega) ?_
      first | refine pn_nge (q := 43) (tgt := 73) dX1_has_40 (by decide) rfl (by omega) (by omega) (fun hc40 => ?_) (fun hc40 => ?_) | refine pn_icmp_ge (q := 43) (tgt := 73) dX1_has_40 (by decide) rfl (fun hc40 => ?_) (fun hc40 => ?_)
      · refine pn_iconst (q := 74) (v := nI 0) dX1_has_73 rfl (by decide) ?_
        refine pn_tret (b := hasC f sN x) _ ?_ dX1_has_74 rfl ?_
        · rw [e0, ← e]; rfl
        · exact ⟨rfl, rfl⟩
      · omega
    | succ m ih =>
      intro i hi hi2 e
      have hlt : i < sN (llN x + 1) := by split at hi <;> omega
      have e2 : haN f x i (m + 1) = if f i = x then true else haN f x (i + 1) m := rfl
      refine pn_iload (q := 32) dX1_has_30 rfl rfl ?_
      refine pn_aload_n (q := 33) dX1_has_32 rfl rfl rfl ?_
      refine pn_get (q := 36) fX1_19 dX1_has_33 rfl rfl rfl ?_
      refine pn_iload_n (q := 37) dX1_has_36 rfl rfl ?_
      refine pn_iconst (q := 38) (v := nI 1) dX1_has_37 rfl (by decide) ?_
      first | with_reducible refine pn_iaddN (q := 39) dX1_has_38 rfl ?_ | refine pn_iadd (q := 39) dX1_has_38 rfl ?_
      refine pn_iald (q := 40) dX1_has_39 rfl rfl rfl (by omega) (by first | decide | omega) ?_
      first | refine pn_nge (q := 43) (tgt := 73) dX1_has_40 (by decide) rfl (by omega) (by omega) (fun hc40 => ?_) (fun hc40 => ?_) | refine pn_icmp_ge (q := 43) (tgt := 73) dX1_has_40 (by decide) rfl (fun hc40 => ?_) (fun hc40 => ?_)
      · omega
      · refine pn_iload (q := 45) dX1_has_43 rfl rfl ?_
        refine pn_aload_n (q := 46) dX1_has_45 rfl rfl rfl ?_
        refine pn_get (q := 49) fX1_15 dX1_has_46 rfl rfl rfl ?_
        refine pn_alen (q := 50) dX1_has_49 rfl rfl (by decide) ?_
        first | refine pn_nge (q := 53) (tgt := 73) dX1_has_50 (by decide) rfl (by omega) (by omega) (fun hc50 => ?_) (fun hc50 => ?_) | refine pn_icmp_ge (q := 53) (tgt := 73) dX1_has_50 (by decide) rfl (fun hc50 => ?_) (fun hc50 => ?_)
        · omega
        · refine pn_aload_n (q := 54) dX1_has_53 rfl rfl rfl ?_
          refine pn_get (q := 57) fX1_15 dX1_has_54 rfl rfl rfl ?_
          refine pn_iload (q := 59) dX1_has_57 rfl rfl ?_
          first | refine pn_lald5 (q := 60) dX1_has_59 rfl rfl rfl (by omega) (by first | decide | omega) ?_ | refine pn_lald1 (q := 60) dX1_has_59 rfl rfl rfl (by omega) (by first | decide | omega) ?_
          refine pn_lload_n (q := 61) dX1_has_60 rfl rfl ?_
          refine pn_lne (q1 := 62) (q := 65) (tgt := 67) dX1_has_61 rfl dX1_has_62 (by decide) rfl (fun hc61 => ?_) (fun hc61 => ?_)
          · first | refine pn_iinc1 (q := 70) dX1_has_67 rfl rfl (by decide) ?_ | refine pn_iinc (q := 70) (mm := 1) dX1_has_67 rfl rfl (by decide) (by decide) ?_
            refine pn_goto (q := 30) dX1_has_70 (by decide) ?_
            exact ih (i + 1) (by omega) (by omega) (by rw [← e, e2, if_neg ‹_›])
          · refine pn_iconst (q := 66) (v := nI 1) dX1_has_65 rfl (by decide) ?_
            refine pn_tret (b := hasC f sN x) _ ?_ dX1_has_66 rfl ?_
            · rw [e0, ← e, e2, if_pos ‹_›]; rfl
            · exact ⟨rfl, rfl⟩
  refine pn_lload_n (q := 1) dX1_has_0 rfl rfl ?_
  refine pn_roSN1 (q := 4) (c_leastLine adK d x) lkX1_108 dX1_has_1 rfl rfl (pnSel_of (I := []) rfl rfl) (pnFree_none rfl) rfl (by omega) (Nat.le_of_ble_eq_true rfl) rfl ?_
  refine pn_istore_n (q := 5) dX1_has_4 rfl (by decide) ?_
  refine pn_iload_n (q := 6) dX1_has_5 rfl rfl ?_
  first | refine pn_zlt (q := 9) (tgt := 20) dX1_has_6 (by decide) rfl (by omega) (fun hc6 => ?_) (fun hc6 => ?_) | refine pn_if_lt (q := 9) (tgt := 20) dX1_has_6 (by decide) rfl (fun hc6 => ?_) (fun hc6 => ?_)
  · exact hc6.elim
  · refine pn_iload_n (q := 10) dX1_has_9 rfl rfl ?_
    refine pn_iconst (q := 11) (v := nI 1) dX1_has_10 rfl (by decide) ?_
    first | with_reducible refine pn_iaddN (q := 12) dX1_has_11 rfl ?_ | refine pn_iadd (q := 12) dX1_has_11 rfl ?_
    refine pn_aload_n (q := 13) dX1_has_12 rfl rfl rfl ?_
    refine pn_get (q := 16) fX1_19 dX1_has_13 rfl rfl rfl ?_
    refine pn_alen (q := 17) dX1_has_16 rfl rfl (by decide) ?_
    first | refine pn_nlt (q := 20) (tgt := 22) dX1_has_17 (by decide) rfl (by omega) (by omega) (fun hc17 => ?_) (fun hc17 => ?_) | refine pn_icmp_lt (q := 20) (tgt := 22) dX1_has_17 (by decide) rfl (fun hc17 => ?_) (fun hc17 => ?_)
    · refine pn_aload_n (q := 23) dX1_has_22 rfl rfl rfl ?_
      refine pn_get (q := 26) fX1_19 dX1_has_23 rfl rfl rfl ?_
      refine pn_iload_n (q := 27) dX1_has_26 rfl rfl ?_
      refine pn_iald (q := 28) dX1_has_27 rfl rfl rfl (by omega) (by first | decide | omega) ?_
      refine pn_istore (q := 30) dX1_has_28 rfl (by decide) ?_
      exact loop (by omega) (sN (llN x + 1) - sN (llN x)) (sN (llN x)) (by split <;> omega) (Nat.le_refl _) rfl
    · refine pn_iconst (q := 21) (v := nI 0) dX1_has_20 rfl (by decide) ?_
      refine pn_tret (b := hasC f sN x) _ ?_ dX1_has_21 rfl ?_
      · rw [show hasC f sN x = false from if_neg (by omega)]; rfl
      · exact ⟨rfl, rfl⟩
