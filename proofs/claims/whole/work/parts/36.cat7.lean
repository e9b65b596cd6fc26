def hpF (c : Nat) : Nat → (Nat → Int64) → (Nat → Int64)
  | 0, f => f
  | r + 1, f => hpF c r (siG c c r f)
def hsF : Nat → (Nat → Int64) → (Nat → Int64)
  | 0, f => f
  | m + 1, f => if m = 0 then f else hsF m (siG m m 0 (swL f 0 m))
def dnI (m : Nat) : Int32 := nI m - 1
theorem dnI_0 : dnI 0 = -1 := rfl
theorem dnI_s (m : Nat) : dnI (m + 1) = nI m := by
  unfold dnI nI
  rw [Int32.ofNat_add]
  exact Int32.add_sub_cancel _ _
theorem dnI_i (m : Nat) : nI m + (-1) = dnI m := by
  unfold dnI
  rw [Int32.sub_eq_add_neg]
set_option maxRecDepth 100000 in
theorem c_sort (adK : Nat → Nat) (d : Nat) (c R : Nat) (f : Nat → Int64) (stt : Nat → Int32) (fd : Int64) (n sh k : Nat) (g : Int64) (pl : Nat) (ch : Nat → Int32) (hc : c ≤ R) (hR : R ≤ 60000) : pnCt mX1_sort adK (d + 2) 0 0 [.ref 0] (hCat c R f stt fd n sh k g pl ch) (pnIs (.inl none) (hCat c R (hsF c (hpF c (c / 2) f)) stt fd n sh k g pl ch)) := by
  refine pnCt_of (by decide) kX1_sort (Nat.le_of_ble_eq_true rfl) rfl (hCat_cl _ _ _ _ _ _ _ _ _ _ _) (pnCS_b rfl) ?_
  have loop2 : ∀ (m : Nat) (f1 : Nat → Int64), m ≤ c → hsF m f1 = hsF c (hpF c (c / 2) f) → pnWP mX1_sort adK (d + 2) (pnIs (.inl none) (hCat c R (hsF c (hpF c (c / 2) f)) stt fd n sh k g pl ch)) 0 0 (hCat c R f1 stt fd n sh k g pl ch) [some (.ref 0), some (.int (dnI m))] [] 35 := by
    intro m
    induction m with
    | zero =>
      intro f1 hm e
      rw [dnI_0]
      refine pn_iload_n (q := 36) dX1_sort_35 rfl rfl ?_
      refine pn_if_le (q := 39) (tgt := 86) dX1_sort_36 (by decide) rfl (fun hc36 => ?_) (fun hc36 => ?_)
      · refine pn_vret dX1_sort_86 rfl ?_
        exact ⟨rfl, by rw [← e]; rfl⟩
      · exact (hc36 (by decide)).elim
    | succ m ih =>
      intro f1 hm e
      rw [dnI_s]
      have e2 : hsF (m + 1) f1 = if m = 0 then f1 else hsF m (siG m m 0 (swL f1 0 m)) := rfl
      refine pn_iload_n (q := 36) dX1_sort_35 rfl rfl ?_
      first | refine pn_zle (q := 39) (tgt := 86) dX1_sort_36 (by decide) rfl (by omega) (fun hc36 => ?_) (fun hc36 => ?_) | refine pn_if_le (q := 39) (tgt := 86) dX1_sort_36 (by decide) rfl (fun hc36 => ?_) (fun hc36 => ?_)
      · refine pn_vret dX1_sort_86 rfl ?_
        exact ⟨rfl, by rw [← e, e2, if_pos (by omega)]⟩
      · refine pn_iload_n (q := 40) dX1_sort_39 rfl rfl ?_
        refine pn_aload_n (q := 41) dX1_sort_40 rfl rfl rfl ?_
        refine pn_get (q := 44) fX1_15 dX1_sort_41 rfl rfl rfl ?_
        refine pn_alen (q := 45) dX1_sort_44 rfl rfl (by decide) ?_
        first | refine pn_nge (q := 48) (tgt := 80) dX1_sort_45 (by decide) rfl (by omega) (by omega) (fun hc45 => ?_) (fun hc45 => ?_) | refine pn_icmp_ge (q := 48) (tgt := 80) dX1_sort_45 (by decide) rfl (fun hc45 => ?_) (fun hc45 => ?_)
        · omega
        · refine pn_aload_n (q := 49) dX1_sort_48 rfl rfl rfl ?_
          refine pn_get (q := 52) fX1_15 dX1_sort_49 rfl rfl rfl ?_
          refine pn_iconst (q := 53) (v := nI 0) dX1_sort_52 rfl (by decide) ?_
          first | refine pn_lald5 (q := 54) dX1_sort_53 rfl rfl rfl (by omega) (by first | decide | omega) ?_ | refine pn_lald1 (q := 54) dX1_sort_53 rfl rfl rfl (by omega) (by first | decide | omega) ?_
          refine pn_lstore_n (q := 55) dX1_sort_54 rfl (by decide) ?_
          refine pn_aload_n (q := 56) dX1_sort_55 rfl rfl rfl ?_
          refine pn_get (q := 59) fX1_15 dX1_sort_56 rfl rfl rfl ?_
          refine pn_iconst (q := 60) (v := nI 0) dX1_sort_59 rfl (by decide) ?_
          refine pn_aload_n (q := 61) dX1_sort_60 rfl rfl rfl ?_
          refine pn_get (q := 64) fX1_15 dX1_sort_61 rfl rfl rfl ?_
          refine pn_iload_n (q := 65) dX1_sort_64 rfl rfl ?_
          first | refine pn_lald5 (q := 66) dX1_sort_65 rfl rfl rfl (by omega) (by first | decide | omega) ?_ | refine pn_lald1 (q := 66) dX1_sort_65 rfl rfl rfl (by omega) (by first | decide | omega) ?_
          first | refine pn_last5 (q := 67) dX1_sort_66 rfl rfl rfl (by omega) (by first | decide | omega) ?_ | refine pn_last1 (q := 67) dX1_sort_66 rfl rfl rfl (by omega) (by first | decide | omega) ?_
          refine pn_aload_n (q := 68) dX1_sort_67 rfl rfl rfl ?_
          refine pn_get (q := 71) fX1_15 dX1_sort_68 rfl rfl rfl ?_
          refine pn_iload_n (q := 72) dX1_sort_71 rfl rfl ?_
          refine pn_lload_n (q := 73) dX1_sort_72 rfl rfl ?_
          first | refine pn_last5 (q := 74) dX1_sort_73 rfl rfl rfl (by omega) (by first | decide | omega) ?_ | refine pn_last1 (q := 74) dX1_sort_73 rfl rfl rfl (by omega) (by first | decide | omega) ?_
          refine pn_aload_n (q := 75) dX1_sort_74 rfl rfl rfl ?_
          refine pn_iconst (q := 76) (v := nI 0) dX1_sort_75 rfl (by decide) ?_
          refine pn_iload_n (q := 77) dX1_sort_76 rfl rfl ?_
          refine pn_upV0 (q := 80) (bc9 := 0) (bs9 := 0) (c_sink adK d c R (swL f1 0 m) stt fd n sh k g pl ch 0 m (by omega) (by omega) hR) lkX1_100 dX1_sort_77 rfl rfl (pnSel_of (I := [0, 1, 2, 3]) rfl rfl) (pnFree_b rfl rfl) rfl rfl rfl (by omega) (by omega) (by omega) (Nat.le_of_ble_eq_true rfl) ?_
          refine pn_eq (h' := (hCat c R (siG m m 0 (swL f1 0 m)) stt fd n sh k g pl ch)) (st' := _) rfl rfl ?_
          refine pn_iinc (q := 83) (mm := (-1)) dX1_sort_80 rfl rfl (by decide) (by decide) ?_
          refine pn_goto (q := 35) dX1_sort_83 (by decide) ?_
          rw [dnI_i]; exact pn_take 2 (ih _ (by omega) (by rw [← e, e2, if_neg (by omega)]))
  have loop1 : ∀ (m : Nat) (f1 : Nat → Int64), m ≤ c / 2 → hpF c m f1 = hpF c (c / 2) f → pnWP mX1_sort adK (d + 2) (pnIs (.inl none) (hCat c R (hsF c (hpF c (c / 2) f)) stt fd n sh k g pl ch)) 0 0 (hCat c R f1 stt fd n sh k g pl ch) [some (.ref 0), some (.int (dnI m))] [] 9 := by
    intro m
    induction m with
    | zero =>
      intro f1 hm e
      rw [dnI_0]
      refine pn_iload_n (q := 10) dX1_sort_9 rfl rfl ?_
      refine pn_if_lt (q := 13) (tgt := 28) dX1_sort_10 (by decide) rfl (fun hc10 => ?_) (fun hc10 => ?_)
      · refine pn_aload_n (q := 29) dX1_sort_28 rfl rfl rfl ?_
        refine pn_get (q := 32) fX1_9 dX1_sort_29 rfl rfl rfl ?_
        refine pn_iconst (q := 33) (v := nI 1) dX1_sort_32 rfl (by decide) ?_
        first | with_reducible refine pn_isubN (q := 34) dX1_sort_33 rfl (by omega) ?_ | refine pn_isub (q := 34) dX1_sort_33 rfl ?_
        refine pn_istore_n (q := 35) dX1_sort_34 rfl (by decide) ?_
        exact loop2 c f1 (Nat.le_refl _) (by rw [← e]; rfl)
      · exact (hc10 (by decide)).elim
    | succ m ih =>
      intro f1 hm e
      rw [dnI_s]
      refine pn_iload_n (q := 10) dX1_sort_9 rfl rfl ?_
      first | refine pn_zlt (q := 13) (tgt := 28) dX1_sort_10 (by decide) rfl (by omega) (fun hc10 => ?_) (fun hc10 => ?_) | refine pn_if_lt (q := 13) (tgt := 28) dX1_sort_10 (by decide) rfl (fun hc10 => ?_) (fun hc10 => ?_)
      · first | omega | exact hc10.elim
      · refine pn_aload_n (q := 14) dX1_sort_13 rfl rfl rfl ?_
        refine pn_iload_n (q := 15) dX1_sort_14 rfl rfl ?_
        refine pn_aload_n (q := 16) dX1_sort_15 rfl rfl rfl ?_
        refine pn_get (q := 19) fX1_9 dX1_sort_16 rfl rfl rfl ?_
        refine pn_upV0 (q := 22) (bc9 := 0) (bs9 := 0) (c_sink adK d c R f1 stt fd n sh k g pl ch m c (by omega) (by omega) hR) lkX1_100 dX1_sort_19 rfl rfl (pnSel_of (I := [0, 1, 2, 3]) rfl rfl) (pnFree_b rfl rfl) rfl rfl rfl (by omega) (by omega) (by omega) (Nat.le_of_ble_eq_true rfl) ?_
        refine pn_eq (h' := (hCat c R (siG c c m f1) stt fd n sh k g pl ch)) (st' := _) rfl rfl ?_
        refine pn_iinc (q := 25) (mm := (-1)) dX1_sort_22 rfl rfl (by decide) (by decide) ?_
        refine pn_goto (q := 9) dX1_sort_25 (by decide) ?_
        rw [dnI_i]; exact ih _ (by omega) e
  refine pn_aload_n (q := 1) dX1_sort_0 rfl rfl rfl ?_
  refine pn_get (q := 4) fX1_9 dX1_sort_1 rfl rfl rfl ?_
  refine pn_iconst (q := 5) (v := nI 2) dX1_sort_4 rfl (by decide) ?_
  refine pn_idivN (q := 6) dX1_sort_5 rfl (by omega) ?_
  refine pn_iconst (q := 7) (v := nI 1) dX1_sort_6 rfl (by decide) ?_
  first | with_reducible refine pn_isubN (q := 8) dX1_sort_7 rfl (by omega) ?_ | refine pn_isub (q := 8) dX1_sort_7 rfl ?_
  refine pn_istore_n (q := 9) dX1_sort_8 rfl (by decide) ?_
  exact loop1 (c / 2) f (Nat.le_refl _) rfl
