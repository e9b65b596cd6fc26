/-! ===== the walk ===== -/
def hWalk (ways steps : Nat) (cut : Bool) (wl : Nat) (way : Nat → Int64) (tk : Nat → Nat) (whole : Bool) (left : Int64) (n sh k : Nat) : List pnE :=
  [.inr (5, [.int (nI ways), .int (nI steps), .int (nB cut), .int (nI wl), .ref 1, .ref 2, .int (nB whole), .long left, .int (nI n), .int (nI sh), .int (nI k)]), .inl (1, 55, .inr (.inl way)), .inl (0, 55, .inl (fun j => nI (tk j)))]
def hCatO (o c R : Nat) (f : Nat → Int64) (stt : Nat → Int32) (fd : Int64) (n sh k : Nat) (g : Int64) (pl : Nat) (ch : Nat → Int32) : List pnE :=
  [.inr (1, [.int (nI c), .ref (o + 1), .ref (o + 2), .long fd, .int (nI n), .int (nI sh), .int (nI k), .long g, .int (nI pl), .ref (o + 3)]), .inl (5, R, .inr (.inl f)), .inl (0, 56, .inl stt), .inl (0, 5, .inl ch)]
def frN (sN : Nat → Nat) (c : Nat) (x : Int64) : Nat := if llN x < 56 then sN (llN x) else c
def nrA (f : Nat → Int64) (x : Int64) : Nat → Nat → Option Nat
  | 0, _ => none
  | z + 1, i => if f i &&& (x ^^^ (-1)) = 0 then some i else nrA f x z (i + 1)
def nrN (f : Nat → Int64) (sN : Nat → Nat) (x : Int64) (fr : Nat) : Option Nat := if llN x + 1 < 56 then nrA f x (sN (llN x + 1) - fr) fr else none
def oI : Option Nat → Int32
  | some i => nI i
  | none => -1
theorem nrA_lt (f : Nat → Int64) (x : Int64) : ∀ z i j, nrA f x z i = some j → j < i + z ∧ f j &&& (x ^^^ (-1)) = 0
  | 0, _, _, h => by cases h
  | z + 1, i, j, h => by
    unfold nrA at h
    split at h
    · cases h
      exact ⟨by omega, ‹_›⟩
    · have := nrA_lt f x z (i + 1) j h
      exact ⟨by omega, this.2⟩
theorem nrN_lt {f : Nat → Int64} {sN : Nat → Nat} {x : Int64} {fr j : Nat} (h : nrN f sN x fr = some j) : j < sN (llN x + 1) ∧ f j &&& (x ^^^ (-1)) = 0 := by
  unfold nrN at h
  split at h
  · have := nrA_lt _ _ _ _ _ h
    refine ⟨?_, this.2⟩
    by_cases e : fr ≤ sN (llN x + 1)
    · omega
    · rw [show sN (llN x + 1) - fr = 0 by omega] at h
      cases h
  · cases h
set_option maxRecDepth 100000 in
theorem c_WalkInit (adK : Nat → Nat) (d : Nat) : pnCt mX5_init adK (d + 1) 2 110 [.ref 0] [.inr (5, [.int (nI 0), .int (nI 0), .int (nI 0), .int (nI 0), .null, .null, .int (nI 0), .long 0, .int (nI 0), .int (nI 0), .int (nI 0)])] (pnIs (.inl none) (hWalk 0 0 false 0 (fun _ => 0) (fun _ => 0) false 0 0 0 0)) := by
  refine pnCt_of (by decide) kX5_init (Nat.le_of_ble_eq_true rfl) rfl (pnCH_b rfl) (pnCS_b rfl) ?_
  refine pn_aload_n (q := 1) dX5_init_0 rfl rfl rfl ?_
  refine pn_obj (q := 4) pw_291 pw_106 pw_107 dX5_init_1 rfl (by omega) (Nat.le_of_ble_eq_true rfl) ?_
  refine pn_aload_n (q := 5) dX5_init_4 rfl rfl rfl ?_
  refine pn_iconst (q := 6) (v := nI 0) dX5_init_5 rfl (by decide) ?_
  refine pn_put (q := 9) fX5_9 dX5_init_6 rfl rfl (Nat.le_of_ble_eq_true rfl) (pnF_int _) ?_
  refine pn_aload_n (q := 10) dX5_init_9 rfl rfl rfl ?_
  refine pn_iconst (q := 11) (v := nI 0) dX5_init_10 rfl (by decide) ?_
  refine pn_put (q := 14) fX5_15 dX5_init_11 rfl rfl (Nat.le_of_ble_eq_true rfl) (pnF_int _) ?_
  refine pn_aload_n (q := 15) dX5_init_14 rfl rfl rfl ?_
  refine pn_iconst (q := 16) (v := nI 0) dX5_init_15 rfl (by decide) ?_
  refine pn_put (q := 19) fX5_18 dX5_init_16 rfl rfl (Nat.le_of_ble_eq_true rfl) (pnF_bool (by first | exact Or.inl rfl | exact Or.inr rfl | assumption)) ?_
  refine pn_aload_n (q := 20) dX5_init_19 rfl rfl rfl ?_
  refine pn_iconst (q := 21) (v := nI 0) dX5_init_20 rfl (by decide) ?_
  refine pn_put (q := 24) fX5_22 dX5_init_21 rfl rfl (Nat.le_of_ble_eq_true rfl) (pnF_int _) ?_
  refine pn_aload_n (q := 25) dX5_init_24 rfl rfl rfl ?_
  refine pn_bipush (q := 27) (v := nI 55) dX5_init_25 rfl (by decide) ?_
  refine pn_newl (q := 29) pw_163 dX5_init_27 rfl rfl (by first | decide | omega) ?_
  refine pn_putF (q := 32) fX5_25 rfl hdeclX5 dX5_init_29 rfl rfl (Nat.le_of_ble_eq_true rfl) (pnF_arr rfl) ?_
  refine pn_aload_n (q := 33) dX5_init_32 rfl rfl rfl ?_
  refine pn_bipush (q := 35) (v := nI 55) dX5_init_33 rfl (by decide) ?_
  refine pn_newi (q := 37) pw_164 dX5_init_35 rfl rfl (by first | decide | omega) ?_
  refine pn_putF (q := 40) fX5_29 rfl hdeclX5 dX5_init_37 rfl rfl (Nat.le_of_ble_eq_true rfl) (pnF_arr rfl) ?_
  refine pn_aload_n (q := 41) dX5_init_40 rfl rfl rfl ?_
  refine pn_iconst (q := 42) (v := nI 0) dX5_init_41 rfl (by decide) ?_
  refine pn_put (q := 45) fX5_33 dX5_init_42 rfl rfl (Nat.le_of_ble_eq_true rfl) (pnF_bool (by first | exact Or.inl rfl | exact Or.inr rfl | assumption)) ?_
  refine pn_aload_n (q := 46) dX5_init_45 rfl rfl rfl ?_
  refine pn_lconst (q := 47) (v := 0) dX5_init_46 rfl (by decide) ?_
  refine pn_put (q := 50) fX5_36 dX5_init_47 rfl rfl (Nat.le_of_ble_eq_true rfl) (pnF_long _) ?_
  refine pn_aload_n (q := 51) dX5_init_50 rfl rfl rfl ?_
  refine pn_iconst (q := 52) (v := nI 0) dX5_init_51 rfl (by decide) ?_
  refine pn_put (q := 55) fX5_40 dX5_init_52 rfl rfl (Nat.le_of_ble_eq_true rfl) (pnF_int _) ?_
  refine pn_aload_n (q := 56) dX5_init_55 rfl rfl rfl ?_
  refine pn_iconst (q := 57) (v := nI 0) dX5_init_56 rfl (by decide) ?_
  refine pn_put (q := 60) fX5_43 dX5_init_57 rfl rfl (Nat.le_of_ble_eq_true rfl) (pnF_int _) ?_
  refine pn_aload_n (q := 61) dX5_init_60 rfl rfl rfl ?_
  refine pn_iconst (q := 62) (v := nI 0) dX5_init_61 rfl (by decide) ?_
  refine pn_put (q := 65) fX5_46 dX5_init_62 rfl rfl (Nat.le_of_ble_eq_true rfl) (pnF_int _) ?_
  refine pn_vret dX5_init_65 rfl ?_
  exact ⟨rfl, rfl⟩
set_option maxRecDepth 100000 in
theorem c_firstRow (adK : Nat → Nat) (d : Nat) (c R : Nat) (f : Nat → Int64) (sN : Nat → Nat) (fd : Int64) (n sh k : Nat) (g : Int64) (pl : Nat) (ch : Nat → Int32) (x : Int64) (hs : ∀ j, sN j ≤ c) (hc : c ≤ R) (hR : R ≤ 60000) : pnCt mX5_firstRow adK (d + 2) 0 0 [.ref 0, .long x] (hCat c R f (fun j => nI (sN j)) fd n sh k g pl ch) (pnIs (.inl (some (.int (nI (frN sN c x))))) (hCat c R f (fun j => nI (sN j)) fd n sh k g pl ch)) := by
  refine pnCt_of (by decide) kX5_firstRow (Nat.le_of_ble_eq_true rfl) rfl (hCat_cl _ _ _ _ _ _ _ _ _ _ _) (pnCS_b rfl) ?_
  have hll : llN x < 128 := (bcI_eq _).2
  refine pn_lload_n (q := 1) dX5_firstRow_0 rfl rfl ?_
  refine pn_roSN1 (q := 4) (c_leastLine adK d x) lkX5_76 dX5_firstRow_1 rfl rfl (pnSel_of (I := []) rfl rfl) (pnFree_none rfl) rfl (by omega) (Nat.le_of_ble_eq_true rfl) rfl ?_
  refine pn_istore_n (q := 5) dX5_firstRow_4 rfl (by decide) ?_
  refine pn_iload_n (q := 6) dX5_firstRow_5 rfl rfl ?_
  first | refine pn_zlt (q := 9) (tgt := 27) dX5_firstRow_6 (by decide) rfl (by omega) (fun hc6 => ?_) (fun hc6 => ?_) | refine pn_if_lt (q := 9) (tgt := 27) dX5_firstRow_6 (by decide) rfl (fun hc6 => ?_) (fun hc6 => ?_)
  · exact hc6.elim
  · refine pn_iload_n (q := 10) dX5_firstRow_9 rfl rfl ?_
    refine pn_aload_n (q := 11) dX5_firstRow_10 rfl rfl rfl ?_
    refine pn_get (q := 14) fX5_80 dX5_firstRow_11 rfl rfl rfl ?_
    refine pn_alen (q := 15) dX5_firstRow_14 rfl rfl (by decide) ?_
    first | refine pn_nge (q := 18) (tgt := 27) dX5_firstRow_15 (by decide) rfl (by omega) (by omega) (fun hc15 => ?_) (fun hc15 => ?_) | refine pn_icmp_ge (q := 18) (tgt := 27) dX5_firstRow_15 (by decide) rfl (fun hc15 => ?_) (fun hc15 => ?_)
    · refine pn_aload_n (q := 28) dX5_firstRow_27 rfl rfl rfl ?_
      refine pn_get (q := 31) fX5_83 dX5_firstRow_28 rfl rfl rfl ?_
      refine pn_iret dX5_firstRow_31 rfl ?_
      exact ⟨by first | rw [show frN sN c x = c from if_neg (by omega)] | rw [show frN sN c x = sN (llN x) from if_pos (by omega)], rfl⟩
    · refine pn_aload_n (q := 19) dX5_firstRow_18 rfl rfl rfl ?_
      refine pn_get (q := 22) fX5_80 dX5_firstRow_19 rfl rfl rfl ?_
      refine pn_iload_n (q := 23) dX5_firstRow_22 rfl rfl ?_
      refine pn_iald (q := 24) dX5_firstRow_23 rfl rfl rfl (by omega) (by first | decide | omega) ?_
      refine pn_goto (q := 31) dX5_firstRow_24 (by decide) ?_
      refine pn_iret dX5_firstRow_31 rfl ?_
      exact ⟨by first | rw [show frN sN c x = c from if_neg (by omega)] | rw [show frN sN c x = sN (llN x) from if_pos (by omega)], rfl⟩
set_option maxRecDepth 100000 in
theorem c_nextRow (adK : Nat → Nat) (d : Nat) (c R : Nat) (f : Nat → Int64) (sN : Nat → Nat) (fd : Int64) (n sh k : Nat) (g : Int64) (pl : Nat) (ch : Nat → Int32) (x : Int64) (fr : Nat) (hs : ∀ j, sN j ≤ c) (hc : c ≤ R) (hR : R ≤ 60000) (hfr : fr ≤ 60001) : pnCt mX5_nextRow adK (d + 2) 0 0 [.ref 0, .long x, .int (nI fr)] (hCat c R f (fun j => nI (sN j)) fd n sh k g pl ch) (pnIs (.inl (some (.int (oI (nrN f sN x fr))))) (hCat c R f (fun j => nI (sN j)) fd n sh k g pl ch)) := by
  refine pnCt_of (by decide) kX5_nextRow (Nat.le_of_ble_eq_true rfl) rfl (hCat_cl _ _ _ _ _ _ _ _ _ _ _) (pnCS_b rfl) ?_
  have hll : llN x < 128 := (bcI_eq _).2
  have hs1 := hs (llN x + 1)
  have hmin : min (sN (llN x + 1)) R = sN (llN x + 1) := Nat.min_eq_left (by omega)
  have loop : llN x + 1 < 56 → ∀ (z i : Nat), (z = sN (llN x + 1) - i) → i ≤ 60001 → nrA f x z i = nrN f sN x fr → pnWP mX5_nextRow adK (d + 2) (pnIs (.inl (some (.int (oI (nrN f sN x fr))))) (hCat c R f (fun j => nI (sN j)) fd n sh k g pl ch)) 0 0 (hCat c R f (fun j => nI (sN j)) fd n sh k g pl ch) [some (.ref 0), some (.long x), none, some (.int (nI fr)), some (.int (nI (llN x))), some (.int (nI (sN (llN x + 1)))), some (.int (nI i))] [] 51 := by
    intro h56 z
    induction z with
    | zero =>
      intro i hz hi e
      refine pn_iload (q := 53) dX5_nextRow_51 rfl rfl ?_
      refine pn_iload (q := 55) dX5_nextRow_53 rfl rfl ?_
      first | refine pn_nge (q := 58) (tgt := 85) dX5_nextRow_55 (by decide) rfl (by omega) (by omega) (fun hc55 => ?_) (fun hc55 => ?_) | refine pn_icmp_ge (q := 58) (tgt := 85) dX5_nextRow_55 (by decide) rfl (fun hc55 => ?_) (fun hc55 => ?_)
      · refine pn_iconst (q := 86) (v := (-1)) dX5_nextRow_85 rfl (by decide) ?_
        refine pn_iret dX5_nextRow_86 rfl ?_
        exact ⟨by rw [← e]; rfl, rfl⟩
      · omega
    | succ z ih =>
      intro i hz hi e
      have e2 : nrA f x (z + 1) i = if f i &&& (x ^^^ (-1)) = 0 then some i else nrA f x z (i + 1) := rfl
      refine pn_iload (q := 53) dX5_nextRow_51 rfl rfl ?_
      refine pn_iload (q := 55) dX5_nextRow_53 rfl rfl ?_
      first | refine pn_nge (q := 58) (tgt := 85) dX5_nextRow_55 (by decide) rfl (by omega) (by omega) (fun hc55 => ?_) (fun hc55 => ?_) | refine pn_icmp_ge (q := 58) (tgt := 85) dX5_nextRow_55 (by decide) rfl (fun hc55 => ?_) (fun hc55 => ?_)
      · omega
      · refine pn_aload_n (q := 59) dX5_nextRow_58 rfl rfl rfl ?_
        refine pn_get (q := 62) fX5_67 dX5_nextRow_59 rfl rfl rfl ?_
        refine pn_iload (q := 64) dX5_nextRow_62 rfl rfl ?_
        first | refine pn_lald5 (q := 65) dX5_nextRow_64 rfl rfl rfl (by omega) (by first | decide | omega) ?_ | refine pn_lald1 (q := 65) dX5_nextRow_64 rfl rfl rfl (by omega) (by first | decide | omega) ?_
        refine pn_lload_n (q := 66) dX5_nextRow_65 rfl rfl ?_
        refine pn_ldc2 (q := 69) pw_500 dX5_nextRow_66 rfl ?_
        refine pn_lxor (q := 70) dX5_nextRow_69 rfl ?_
        refine pn_land (q := 71) dX5_nextRow_70 rfl ?_
        refine pn_lconst (q := 72) (v := 0) dX5_nextRow_71 rfl (by decide) ?_
        refine pn_lne (q1 := 73) (q := 76) (tgt := 79) dX5_nextRow_72 rfl dX5_nextRow_73 (by decide) rfl (fun hc72 => ?_) (fun hc72 => ?_)
        · first | refine pn_iinc1 (q := 82) dX5_nextRow_79 rfl rfl (by decide) ?_ | refine pn_iinc (q := 82) (mm := 1) dX5_nextRow_79 rfl rfl (by decide) (by decide) ?_
          refine pn_goto (q := 51) dX5_nextRow_82 (by decide) ?_
          exact ih (i + 1) (by omega) (by omega) (by rw [← e, e2, if_neg ‹_›])
        · refine pn_iload (q := 78) dX5_nextRow_76 rfl rfl ?_
          refine pn_iret dX5_nextRow_78 rfl ?_
          exact ⟨by rw [← e, e2, if_pos ‹_›]; rfl, rfl⟩
  refine pn_lload_n (q := 1) dX5_nextRow_0 rfl rfl ?_
  refine pn_roSN1 (q := 4) (c_leastLine adK d x) lkX5_76 dX5_nextRow_1 rfl rfl (pnSel_of (I := []) rfl rfl) (pnFree_none rfl) rfl (by omega) (Nat.le_of_ble_eq_true rfl) rfl ?_
  refine pn_istore (q := 6) dX5_nextRow_4 rfl (by decide) ?_
  refine pn_iload (q := 8) dX5_nextRow_6 rfl rfl ?_
  first | refine pn_zlt (q := 11) (tgt := 27) dX5_nextRow_8 (by decide) rfl (by omega) (fun hc8 => ?_) (fun hc8 => ?_) | refine pn_if_lt (q := 11) (tgt := 27) dX5_nextRow_8 (by decide) rfl (fun hc8 => ?_) (fun hc8 => ?_)
  · exact hc8.elim
  · refine pn_iload (q := 13) dX5_nextRow_11 rfl rfl ?_
    refine pn_iconst (q := 14) (v := nI 1) dX5_nextRow_13 rfl (by decide) ?_
    first | with_reducible refine pn_iaddN (q := 15) dX5_nextRow_14 rfl ?_ | refine pn_iadd (q := 15) dX5_nextRow_14 rfl ?_
    refine pn_aload_n (q := 16) dX5_nextRow_15 rfl rfl rfl ?_
    refine pn_get (q := 19) fX5_80 dX5_nextRow_16 rfl rfl rfl ?_
    refine pn_alen (q := 20) dX5_nextRow_19 rfl rfl (by decide) ?_
    first | refine pn_nge (q := 23) (tgt := 27) dX5_nextRow_20 (by decide) rfl (by omega) (by omega) (fun hc20 => ?_) (fun hc20 => ?_) | refine pn_icmp_ge (q := 23) (tgt := 27) dX5_nextRow_20 (by decide) rfl (fun hc20 => ?_) (fun hc20 => ?_)
    · refine pn_iconst (q := 28) (v := (-1)) dX5_nextRow_27 rfl (by decide) ?_
      refine pn_iret dX5_nextRow_28 rfl ?_
      exact ⟨by rw [show nrN f sN x fr = none from if_neg (by omega)]; rfl, rfl⟩
    · refine pn_iload_n (q := 24) dX5_nextRow_23 rfl rfl ?_
      first | refine pn_zge (q := 27) (tgt := 29) dX5_nextRow_24 (by decide) rfl (by omega) (fun hc24 => ?_) (fun hc24 => ?_) | refine pn_if_ge (q := 27) (tgt := 29) dX5_nextRow_24 (by decide) rfl (fun hc24 => ?_) (fun hc24 => ?_)
      · refine pn_aload_n (q := 30) dX5_nextRow_29 rfl rfl rfl ?_
        refine pn_get (q := 33) fX5_80 dX5_nextRow_30 rfl rfl rfl ?_
        refine pn_iload (q := 35) dX5_nextRow_33 rfl rfl ?_
        refine pn_iconst (q := 36) (v := nI 1) dX5_nextRow_35 rfl (by decide) ?_
        first | with_reducible refine pn_iaddN (q := 37) dX5_nextRow_36 rfl ?_ | refine pn_iadd (q := 37) dX5_nextRow_36 rfl ?_
        refine pn_iald (q := 38) dX5_nextRow_37 rfl rfl rfl (by omega) (by first | decide | omega) ?_
        refine pn_aload_n (q := 39) dX5_nextRow_38 rfl rfl rfl ?_
        refine pn_get (q := 42) fX5_67 dX5_nextRow_39 rfl rfl rfl ?_
        refine pn_alen (q := 43) dX5_nextRow_42 rfl rfl (by decide) ?_
        refine pn_roS1 (q := 46) (c_min adK d (sN (llN x + 1)) R (by omega) (by omega)) lkX5_86 dX5_nextRow_43 rfl rfl (pnSel_of (I := []) rfl rfl) (pnFree_none rfl) rfl (by omega) (Nat.le_of_ble_eq_true rfl) rfl ?_
        refine pn_istore (q := 48) dX5_nextRow_46 rfl (by decide) ?_
        refine pn_iload_n (q := 49) dX5_nextRow_48 rfl rfl ?_
        refine pn_istore (q := 51) dX5_nextRow_49 rfl (by decide) ?_
        rw [hmin]; exact loop (by omega) (sN (llN x + 1) - fr) fr rfl (by omega) (if_pos (by omega)).symm
      · first | exact hc24.elim | exact (hc24 trivial).elim
