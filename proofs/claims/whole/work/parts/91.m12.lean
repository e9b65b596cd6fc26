/-! acts -/
set_option maxRecDepth 100000 in
theorem m_copies2 (adK : Nat → Nat) (d : Nat) (f g : Nat → Int64) : pnCt mX7_copies adK d 0 0 [.ref 0, .ref 1] [.inl (1, 90, .inr (.inl f)), .inl (1, 90, .inr (.inl g))] (pnIs (.inl none) [.inl (1, 90, .inr (.inl f)), .inl (1, 90, .inr (.inl f))]) := by
  refine pnCt_of (by decide) kX7_copies (Nat.le_of_ble_eq_true rfl) rfl (pnCH_b rfl) (pnCS_b rfl) ?_
  have loop : ∀ (z i : Nat), i + z = 90 → pnWP mX7_copies adK d (pnIs (.inl none) [.inl (1, 90, .inr (.inl f)), .inl (1, 90, .inr (.inl f))]) 0 0 [.inl (1, 90, .inr (.inl f)), .inl (1, 90, .inr (.inl (cpyF f g i)))] [some (.ref 0), some (.ref 1), some (.int (nI i))] [] 2 := by
    intro z
    induction z with
    | zero =>
      intro i hz
      have hi : i = 90 := by omega
      subst hi
      refine pn_extl (a := 1) f rfl (fun j hj => if_pos hj) ?_
      refine pn_iload_n (q := 3) dX7_copies_2 rfl rfl ?_
      refine pn_bipush (q := 5) (v := nI 90) dX7_copies_3 rfl (by decide) ?_
      first | refine pn_nge (q := 8) (tgt := 20) dX7_copies_5 (by decide) rfl (by omega) (by omega) (fun hc5 => ?_) (fun hc5 => ?_) | refine pn_icmp_ge (q := 8) (tgt := 20) dX7_copies_5 (by decide) rfl (fun hc5 => ?_) (fun hc5 => ?_)
      · refine pn_vret dX7_copies_20 rfl ?_
        exact ⟨rfl, rfl⟩
      · omega
    | succ z ih =>
      intro i hz
      have k9 := ih (i + 1) (by omega)
      rw [← cpyF_up f g i] at k9
      refine pn_iload_n (q := 3) dX7_copies_2 rfl rfl ?_
      refine pn_bipush (q := 5) (v := nI 90) dX7_copies_3 rfl (by decide) ?_
      first | refine pn_nge (q := 8) (tgt := 20) dX7_copies_5 (by decide) rfl (by omega) (by omega) (fun hc5 => ?_) (fun hc5 => ?_) | refine pn_icmp_ge (q := 8) (tgt := 20) dX7_copies_5 (by decide) rfl (fun hc5 => ?_) (fun hc5 => ?_)
      · omega
      · refine pn_aload_n (q := 9) dX7_copies_8 rfl rfl rfl ?_
        refine pn_iload_n (q := 10) dX7_copies_9 rfl rfl ?_
        refine pn_aload_n (q := 11) dX7_copies_10 rfl rfl rfl ?_
        refine pn_iload_n (q := 12) dX7_copies_11 rfl rfl ?_
        refine pn_lald1 (q := 13) dX7_copies_12 rfl rfl rfl (by omega) (by decide) ?_
        refine pn_last1 (q := 14) dX7_copies_13 rfl rfl rfl (by omega) (by decide) ?_
        first | refine pn_iinc1 (q := 17) dX7_copies_14 rfl rfl (by decide) ?_ | refine pn_iinc (q := 17) (mm := 1) dX7_copies_14 rfl rfl (by decide) (by decide) ?_
        refine pn_goto (q := 2) dX7_copies_17 (by decide) ?_
        exact k9
  have e0 : cpyF f g 0 = g := by funext j; unfold cpyF; simp
  have k0 := loop 90 0 (by omega)
  rw [e0] at k0
  refine pn_iconst (q := 1) (v := nI 0) dX7_copies_0 rfl (by decide) ?_
  refine pn_istore_n (q := 2) dX7_copies_1 rfl (by decide) ?_
  exact k0
def upP (P : Nat → MN) (k : Nat) (Y : MN) : Nat → MN := fun j => if j = k then Y else P j
/-- what is remembered, behind one act more -/
def keP (P : Nat → MN) (Y : MN) (k : Nat) : Nat → MN := if k = 8 then (fun j => if j = 7 then Y else P (j + 1)) else upP P k Y
abbrev keB (a : G0) : G0 := (a.1, a.2.1, a.2.2.1, a.2.2.2.1, min (a.2.2.2.2 + 1) 8)
set_option maxRecDepth 100000 in
theorem m_remembers0 (adK : Nat → Nat) (d : Nat) (Y : MN) (P : Nat → MN) (a1 : Nat) (a2 : Nat → Nat) (a3 : Nat) (a4 : Int32) (b : G1) (c : G3) (e : G4) (f : G5) (g : G6) (h : G7) : pnCt mX7_remembers adK (d + 1) 0 0 [.ref 0] (hM Y P (a1, a2, a3, a4, 0) b c e f g h) (pnIs (.inl none) (hM Y (upP P 0 Y) (a1, a2, a3, a4, 1) b c e f g h)) := by
  refine pnCt_of (by decide) kX7_remembers (Nat.le_of_ble_eq_true rfl) rfl hM_cl (pnCS_b rfl) ?_
  refine pn_aload_n (q := 1) dX7_remembers_0 rfl rfl rfl ?_
  (refine pn_get (q := 4) fX7_268 dX7_remembers_1 rfl rfl rfl ?_)
  refine pn_eq (h' := _) (st' := .int (nI 0) :: _) rfl rfl ?_
  refine pn_bipush (q := 6) (v := nI 8) dX7_remembers_4 rfl (by decide) ?_
  first | refine pn_nne (q := 9) (tgt := 50) dX7_remembers_6 (by decide) rfl (by omega) (by omega) (fun hc6 => ?_) (fun hc6 => ?_) | refine pn_icmp_ne (q := 9) (tgt := 50) dX7_remembers_6 (by decide) rfl (fun hc6 => ?_) (fun hc6 => ?_)
  · refine pn_aload_n (q := 51) dX7_remembers_50 rfl rfl rfl ?_
    refine pn_get (q := 54) fX7_20 dX7_remembers_51 rfl rfl rfl ?_
    refine pn_aload_n (q := 55) dX7_remembers_54 rfl rfl rfl ?_
    refine pn_get (q := 58) fX7_29 dX7_remembers_55 rfl rfl rfl ?_
    refine pn_aload_n (q := 59) dX7_remembers_58 rfl rfl rfl ?_
    refine pn_get (q := 62) fX7_268 dX7_remembers_59 rfl rfl rfl ?_
    refine pn_aald (q := 63) (Or.inr rfl) (j := 0) dX7_remembers_62 rfl rfl rfl (by omega) (by decide) ?_; refine pn_eq (h' := _) (st' := [.ref 6, .ref 3]) rfl rfl ?_
    refine pn_upS0 (q := 66) (bc9 := 0) (bs9 := 0) (m_copies2 adK d (nowF Y) (nowF (P 0))) lkX7_221 dX7_remembers_63 rfl rfl (pnSel_of (I := [3, 6]) rfl rfl) (pnFree_none rfl) rfl (by omega) (by omega) (by omega) (Nat.le_of_ble_eq_true rfl) ?_
    refine pn_eq (h' := (hM Y (upP P 0 Y) (a1, a2, a3, a4, 0) b c e f g h)) (st' := _) rfl rfl ?_
    refine pn_aload_n (q := 67) dX7_remembers_66 rfl rfl rfl ?_
    refine pn_dup (q := 68) dX7_remembers_67 rfl rfl ?_
    refine pn_get (q := 71) fX7_268 dX7_remembers_68 rfl rfl rfl ?_
    refine pn_iconst (q := 72) (v := nI 1) dX7_remembers_71 rfl (by decide) ?_
    first | with_reducible refine pn_iaddN (q := 73) dX7_remembers_72 rfl ?_ | refine pn_iadd (q := 73) dX7_remembers_72 rfl ?_
    refine pn_put (q := 76) fX7_268 dX7_remembers_73 rfl rfl (Nat.le_of_ble_eq_true rfl) (pnF_int _) ?_
    refine pn_vret dX7_remembers_76 rfl ?_
    exact ⟨rfl, rfl⟩
  · omega
set_option maxRecDepth 100000 in
theorem m_remembers1 (adK : Nat → Nat) (d : Nat) (Y : MN) (P : Nat → MN) (a1 : Nat) (a2 : Nat → Nat) (a3 : Nat) (a4 : Int32) (b : G1) (c : G3) (e : G4) (f : G5) (g : G6) (h : G7) : pnCt mX7_remembers adK (d + 1) 0 0 [.ref 0] (hM Y P (a1, a2, a3, a4, 1) b c e f g h) (pnIs (.inl none) (hM Y (upP P 1 Y) (a1, a2, a3, a4, 2) b c e f g h)) := by
  refine pnCt_of (by decide) kX7_remembers (Nat.le_of_ble_eq_true rfl) rfl hM_cl (pnCS_b rfl) ?_
  refine pn_aload_n (q := 1) dX7_remembers_0 rfl rfl rfl ?_
  (refine pn_get (q := 4) fX7_268 dX7_remembers_1 rfl rfl rfl ?_)
  refine pn_eq (h' := _) (st' := .int (nI 1) :: _) rfl rfl ?_
  refine pn_bipush (q := 6) (v := nI 8) dX7_remembers_4 rfl (by decide) ?_
  first | refine pn_nne (q := 9) (tgt := 50) dX7_remembers_6 (by decide) rfl (by omega) (by omega) (fun hc6 => ?_) (fun hc6 => ?_) | refine pn_icmp_ne (q := 9) (tgt := 50) dX7_remembers_6 (by decide) rfl (fun hc6 => ?_) (fun hc6 => ?_)
  · refine pn_aload_n (q := 51) dX7_remembers_50 rfl rfl rfl ?_
    refine pn_get (q := 54) fX7_20 dX7_remembers_51 rfl rfl rfl ?_
    refine pn_aload_n (q := 55) dX7_remembers_54 rfl rfl rfl ?_
    refine pn_get (q := 58) fX7_29 dX7_remembers_55 rfl rfl rfl ?_
    refine pn_aload_n (q := 59) dX7_remembers_58 rfl rfl rfl ?_
    refine pn_get (q := 62) fX7_268 dX7_remembers_59 rfl rfl rfl ?_
    refine pn_aald (q := 63) (Or.inr rfl) (j := 1) dX7_remembers_62 rfl rfl rfl (by omega) (by decide) ?_; refine pn_eq (h' := _) (st' := [.ref 7, .ref 3]) rfl rfl ?_
    refine pn_upS0 (q := 66) (bc9 := 0) (bs9 := 0) (m_copies2 adK d (nowF Y) (nowF (P 1))) lkX7_221 dX7_remembers_63 rfl rfl (pnSel_of (I := [3, 7]) rfl rfl) (pnFree_none rfl) rfl (by omega) (by omega) (by omega) (Nat.le_of_ble_eq_true rfl) ?_
    refine pn_eq (h' := (hM Y (upP P 1 Y) (a1, a2, a3, a4, 1) b c e f g h)) (st' := _) rfl rfl ?_
    refine pn_aload_n (q := 67) dX7_remembers_66 rfl rfl rfl ?_
    refine pn_dup (q := 68) dX7_remembers_67 rfl rfl ?_
    refine pn_get (q := 71) fX7_268 dX7_remembers_68 rfl rfl rfl ?_
    refine pn_iconst (q := 72) (v := nI 1) dX7_remembers_71 rfl (by decide) ?_
    first | with_reducible refine pn_iaddN (q := 73) dX7_remembers_72 rfl ?_ | refine pn_iadd (q := 73) dX7_remembers_72 rfl ?_
    refine pn_put (q := 76) fX7_268 dX7_remembers_73 rfl rfl (Nat.le_of_ble_eq_true rfl) (pnF_int _) ?_
    refine pn_vret dX7_remembers_76 rfl ?_
    exact ⟨rfl, rfl⟩
  · omega
set_option maxRecDepth 100000 in
theorem m_remembers2 (adK : Nat → Nat) (d : Nat) (Y : MN) (P : Nat → MN) (a1 : Nat) (a2 : Nat → Nat) (a3 : Nat) (a4 : Int32) (b : G1) (c : G3) (e : G4) (f : G5) (g : G6) (h : G7) : pnCt mX7_remembers adK (d + 1) 0 0 [.ref 0] (hM Y P (a1, a2, a3, a4, 2) b c e f g h) (pnIs (.inl none) (hM Y (upP P 2 Y) (a1, a2, a3, a4, 3) b c e f g h)) := by
  refine pnCt_of (by decide) kX7_remembers (Nat.le_of_ble_eq_true rfl) rfl hM_cl (pnCS_b rfl) ?_
  refine pn_aload_n (q := 1) dX7_remembers_0 rfl rfl rfl ?_
  (refine pn_get (q := 4) fX7_268 dX7_remembers_1 rfl rfl rfl ?_)
  refine pn_eq (h' := _) (st' := .int (nI 2) :: _) rfl rfl ?_
  refine pn_bipush (q := 6) (v := nI 8) dX7_remembers_4 rfl (by decide) ?_
  first | refine pn_nne (q := 9) (tgt := 50) dX7_remembers_6 (by decide) rfl (by omega) (by omega) (fun hc6 => ?_) (fun hc6 => ?_) | refine pn_icmp_ne (q := 9) (tgt := 50) dX7_remembers_6 (by decide) rfl (fun hc6 => ?_) (fun hc6 => ?_)
  · refine pn_aload_n (q := 51) dX7_remembers_50 rfl rfl rfl ?_
    refine pn_get (q := 54) fX7_20 dX7_remembers_51 rfl rfl rfl ?_
    refine pn_aload_n (q := 55) dX7_remembers_54 rfl rfl rfl ?_
    refine pn_get (q := 58) fX7_29 dX7_remembers_55 rfl rfl rfl ?_
    refine pn_aload_n (q := 59) dX7_remembers_58 rfl rfl rfl ?_
    refine pn_get (q := 62) fX7_268 dX7_remembers_59 rfl rfl rfl ?_
    refine pn_aald (q := 63) (Or.inr rfl) (j := 2) dX7_remembers_62 rfl rfl rfl (by omega) (by decide) ?_; refine pn_eq (h' := _) (st' := [.ref 8, .ref 3]) rfl rfl ?_
    refine pn_upS0 (q := 66) (bc9 := 0) (bs9 := 0) (m_copies2 adK d (nowF Y) (nowF (P 2))) lkX7_221 dX7_remembers_63 rfl rfl (pnSel_of (I := [3, 8]) rfl rfl) (pnFree_none rfl) rfl (by omega) (by omega) (by omega) (Nat.le_of_ble_eq_true rfl) ?_
    refine pn_eq (h' := (hM Y (upP P 2 Y) (a1, a2, a3, a4, 2) b c e f g h)) (st' := _) rfl rfl ?_
    refine pn_aload_n (q := 67) dX7_remembers_66 rfl rfl rfl ?_
    refine pn_dup (q := 68) dX7_remembers_67 rfl rfl ?_
    refine pn_get (q := 71) fX7_268 dX7_remembers_68 rfl rfl rfl ?_
    refine pn_iconst (q := 72) (v := nI 1) dX7_remembers_71 rfl (by decide) ?_
    first | with_reducible refine pn_iaddN (q := 73) dX7_remembers_72 rfl ?_ | refine pn_iadd (q := 73) dX7_remembers_72 rfl ?_
    refine pn_put (q := 76) fX7_268 dX7_remembers_73 rfl rfl (Nat.le_of_ble_eq_true rfl) (pnF_int _) ?_
    refine pn_vret dX7_remembers_76 rfl ?_
    exact ⟨rfl, rfl⟩
  · omega
set_option maxRecDepth 100000 in
theorem m_remembers3 (adK : Nat → Nat) (d : Nat) (Y : MN) (P : Nat → MN) (a1 : Nat) (a2 : Nat → Nat) (a3 : Nat) (a4 : Int32) (b : G1) (c : G3) (e : G4) (f : G5) (g : G6) (h : G7) : pnCt mX7_remembers adK (d + 1) 0 0 [.ref 0] (hM Y P (a1, a2, a3, a4, 3) b c e f g h) (pnIs (.inl none) (hM Y (upP P 3 Y) (a1, a2, a3, a4, 4) b c e f g h)) := by
  refine pnCt_of (by decide) kX7_remembers (Nat.le_of_ble_eq_true rfl) rfl hM_cl (pnCS_b rfl) ?_
  refine pn_aload_n (q := 1) dX7_remembers_0 rfl rfl rfl ?_
  (refine pn_get (q := 4) fX7_268 dX7_remembers_1 rfl rfl rfl ?_)
  refine pn_eq (h' := _) (st' := .int (nI 3) :: _) rfl rfl ?_
  refine pn_bipush (q := 6) (v := nI 8) dX7_remembers_4 rfl (by decide) ?_
  first | refine pn_nne (q := 9) (tgt := 50) dX7_remembers_6 (by decide) rfl (by omega) (by omega) (fun hc6 => ?_) (fun hc6 => ?_) | refine pn_icmp_ne (q := 9) (tgt := 50) dX7_remembers_6 (by decide) rfl (fun hc6 => ?_) (fun hc6 => ?_)
  · refine pn_aload_n (q := 51) dX7_remembers_50 rfl rfl rfl ?_
    refine pn_get (q := 54) fX7_20 dX7_remembers_51 rfl rfl rfl ?_
    refine pn_aload_n (q := 55) dX7_remembers_54 rfl rfl rfl ?_
    refine pn_get (q := 58) fX7_29 dX7_remembers_55 rfl rfl rfl ?_
    refine pn_aload_n (q := 59) dX7_remembers_58 rfl rfl rfl ?_
    refine pn_get (q := 62) fX7_268 dX7_remembers_59 rfl rfl rfl ?_
    refine pn_aald (q := 63) (Or.inr rfl) (j := 3) dX7_remembers_62 rfl rfl rfl (by omega) (by decide) ?_; refine pn_eq (h' := _) (st' := [.ref 9, .ref 3]) rfl rfl ?_
    refine pn_upS0 (q := 66) (bc9 := 0) (bs9 := 0) (m_copies2 adK d (nowF Y) (nowF (P 3))) lkX7_221 dX7_remembers_63 rfl rfl (pnSel_of (I := [3, 9]) rfl rfl) (pnFree_none rfl) rfl (by omega) (by omega) (by omega) (Nat.le_of_ble_eq_true rfl) ?_
    refine pn_eq (h' := (hM Y (upP P 3 Y) (a1, a2, a3, a4, 3) b c e f g h)) (st' := _) rfl rfl ?_
    refine pn_aload_n (q := 67) dX7_remembers_66 rfl rfl rfl ?_
    refine pn_dup (q := 68) dX7_remembers_67 rfl rfl ?_
    refine pn_get (q := 71) fX7_268 dX7_remembers_68 rfl rfl rfl ?_
    refine pn_iconst (q := 72) (v := nI 1) dX7_remembers_71 rfl (by decide) ?_
    first | with_reducible refine pn_iaddN (q := 73) dX7_remembers_72 rfl ?_ | refine pn_iadd (q := 73) dX7_remembers_72 rfl ?_
    refine pn_put (q := 76) fX7_268 dX7_remembers_73 rfl rfl (Nat.le_of_ble_eq_true rfl) (pnF_int _) ?_
    refine pn_vret dX7_remembers_76 rfl ?_
    exact ⟨rfl, rfl⟩
  · omega
set_option maxRecDepth 100000 in
theorem m_remembers4 (adK : Nat → Nat) (d : Nat) (Y : MN) (P : Nat → MN) (a1 : Nat) (a2 : Nat → Nat) (a3 : Nat) (a4 : Int32) (b : G1) (c : G3) (e : G4) (f : G5) (g : G6) (h : G7) : pnCt mX7_remembers adK (d + 1) 0 0 [.ref 0] (hM Y P (a1, a2, a3, a4, 4) b c e f g h) (pnIs (.inl none) (hM Y (upP P 4 Y) (a1, a2, a3, a4, 5) b c e f g h)) := by
  refine pnCt_of (by decide) kX7_remembers (Nat.le_of_ble_eq_true rfl) rfl hM_cl (pnCS_b rfl) ?_
  refine pn_aload_n (q := 1) dX7_remembers_0 rfl rfl rfl ?_
  (refine pn_get (q := 4) fX7_268 dX7_remembers_1 rfl rfl rfl ?_)
  refine pn_eq (h' := _) (st' := .int (nI 4) :: _) rfl rfl ?_
  refine pn_bipush (q := 6) (v := nI 8) dX7_remembers_4 rfl (by decide) ?_
  first | refine pn_nne (q := 9) (tgt := 50) dX7_remembers_6 (by decide) rfl (by omega) (by omega) (fun hc6 => ?_) (fun hc6 => ?_) | refine pn_icmp_ne (q := 9) (tgt := 50) dX7_remembers_6 (by decide) rfl (fun hc6 => ?_) (fun hc6 => ?_)
  · refine pn_aload_n (q := 51) dX7_remembers_50 rfl rfl rfl ?_
    refine pn_get (q := 54) fX7_20 dX7_remembers_51 rfl rfl rfl ?_
    refine pn_aload_n (q := 55) dX7_remembers_54 rfl rfl rfl ?_
    refine pn_get (q := 58) fX7_29 dX7_remembers_55 rfl rfl rfl ?_
    refine pn_aload_n (q := 59) dX7_remembers_58 rfl rfl rfl ?_
    refine pn_get (q := 62) fX7_268 dX7_remembers_59 rfl rfl rfl ?_
    refine pn_aald (q := 63) (Or.inr rfl) (j := 4) dX7_remembers_62 rfl rfl rfl (by omega) (by decide) ?_; refine pn_eq (h' := _) (st' := [.ref 10, .ref 3]) rfl rfl ?_
    refine pn_upS0 (q := 66) (bc9 := 0) (bs9 := 0) (m_copies2 adK d (nowF Y) (nowF (P 4))) lkX7_221 dX7_remembers_63 rfl rfl (pnSel_of (I := [3, 10]) rfl rfl) (pnFree_none rfl) rfl (by omega) (by omega) (by omega) (Nat.le_of_ble_eq_true rfl) ?_
    refine pn_eq (h' := (hM Y (upP P 4 Y) (a1, a2, a3, a4, 4) b c e f g h)) (st' := _) rfl rfl ?_
    refine pn_aload_n (q := 67) dX7_remembers_66 rfl rfl rfl ?_
    refine pn_dup (q := 68) dX7_remembers_67 rfl rfl ?_
    refine pn_get (q := 71) fX7_268 dX7_remembers_68 rfl rfl rfl ?_
    refine pn_iconst (q := 72) (v := nI 1) dX7_remembers_71 rfl (by decide) ?_
    first | with_reducible refine pn_iaddN (q := 73) dX7_remembers_72 rfl ?_ | refine pn_iadd (q := 73) dX7_remembers_72 rfl ?_
    refine pn_put (q := 76) fX7_268 dX7_remembers_73 rfl rfl (Nat.le_of_ble_eq_true rfl) (pnF_int _) ?_
    refine pn_vret dX7_remembers_76 rfl ?_
    exact ⟨rfl, rfl⟩
  · omega
set_option maxRecDepth 100000 in
theorem m_remembers5 (adK : Nat → Nat) (d : Nat) (Y : MN) (P : Nat → MN) (a1 : Nat) (a2 : Nat → Nat) (a3 : Nat) (a4 : Int32) (b : G1) (c : G3) (e : G4) (f : G5) (g : G6) (h : G7) : pnCt mX7_remembers adK (d + 1) 0 0 [.ref 0] (hM Y P (a1, a2, a3, a4, 5) b c e f g h) (pnIs (.inl none) (hM Y (upP P 5 Y) (a1, a2, a3, a4, 6) b c e f g h)) := by
  refine pnCt_of (by decide) kX7_remembers (Nat.le_of_ble_eq_true rfl) rfl hM_cl (pnCS_b rfl) ?_
  refine pn_aload_n (q := 1) dX7_remembers_0 rfl rfl rfl ?_
  (refine pn_get (q := 4) fX7_268 dX7_remembers_1 rfl rfl rfl ?_)
  refine pn_eq (h' := _) (st' := .int (nI 5) :: _) rfl rfl ?_
  refine pn_bipush (q := 6) (v := nI 8) dX7_remembers_4 rfl (by decide) ?_
  first | refine pn_nne (q := 9) (tgt := 50) dX7_remembers_6 (by decide) rfl (by omega) (by omega) (fun hc6 => ?_) (fun hc6 => ?_) | refine pn_icmp_ne (q := 9) (tgt := 50) dX7_remembers_6 (by decide) rfl (fun hc6 => ?_) (fun hc6 => ?_)
  · refine pn_aload_n (q := 51) dX7_remembers_50 rfl rfl rfl ?_
    refine pn_get (q := 54) fX7_20 dX7_remembers_51 rfl rfl rfl ?_
    refine pn_aload_n (q := 55) dX7_remembers_54 rfl rfl rfl ?_
    refine pn_get (q := 58) fX7_29 dX7_remembers_55 rfl rfl rfl ?_
    refine pn_aload_n (q := 59) dX7_remembers_58 rfl rfl rfl ?_
    refine pn_get (q := 62) fX7_268 dX7_remembers_59 rfl rfl rfl ?_
    refine pn_aald (q := 63) (Or.inr rfl) (j := 5) dX7_remembers_62 rfl rfl rfl (by omega) (by decide) ?_; refine pn_eq (h' := _) (st' := [.ref 11, .ref 3]) rfl rfl ?_
    refine pn_upS0 (q := 66) (bc9 := 0) (bs9 := 0) (m_copies2 adK d (nowF Y) (nowF (P 5))) lkX7_221 dX7_remembers_63 rfl rfl (pnSel_of (I := [3, 11]) rfl rfl) (pnFree_none rfl) rfl (by omega) (by omega) (by omega) (Nat.le_of_ble_eq_true rfl) ?_
    refine pn_eq (h' := (hM Y (upP P 5 Y) (a1, a2, a3, a4, 5) b c e f g h)) (st' := _) rfl rfl ?_
    refine pn_aload_n (q := 67) dX7_remembers_66 rfl rfl rfl ?_
    refine pn_dup (q := 68) dX7_remembers_67 rfl rfl ?_
    refine pn_get (q := 71) fX7_268 dX7_remembers_68 rfl rfl rfl ?_
    refine pn_iconst (q := 72) (v := nI 1) dX7_remembers_71 rfl (by decide) ?_
    first | with_reducible refine pn_iaddN (q := 73) dX7_remembers_72 rfl ?_ | refine pn_iadd (q := 73) dX7_remembers_72 rfl ?_
    refine pn_put (q := 76) fX7_268 dX7_remembers_73 rfl rfl (Nat.le_of_ble_eq_true rfl) (pnF_int _) ?_
    refine pn_vret dX7_remembers_76 rfl ?_
    exact ⟨rfl, rfl⟩
  · omega
set_option maxRecDepth 100000 in
theorem m_remembers6 (adK : Nat → Nat) (d : Nat) (Y : MN) (P : Nat → MN) (a1 : Nat) (a2 : Nat → Nat) (a3 : Nat) (a4 : Int32) (b : G1) (c : G3) (e : G4) (f : G5) (g : G6) (h : G7) : pnCt mX7_remembers adK (d + 1) 0 0 [.ref 0] (hM Y P (a1, a2, a3, a4, 6) b c e f g h) (pnIs (.inl none) (hM Y (upP P 6 Y) (a1, a2, a3, a4, 7) b c e f g h)) := by
  refine pnCt_of (by decide) kX7_remembers (Nat.le_of_ble_eq_true rfl) rfl hM_cl (pnCS_b rfl) ?_
  refine pn_aload_n (q := 1) dX7_remembers_0 rfl rfl rfl ?_
  (refine pn_get (q := 4) fX7_268 dX7_remembers_1 rfl rfl rfl ?_)
  refine pn_eq (h' := _) (st' := .int (nI 6) :: _) rfl rfl ?_
  refine pn_bipush (q := 6) (v := nI 8) dX7_remembers_4 rfl (by decide) ?_
  first | refine pn_nne (q := 9) (tgt := 50) dX7_remembers_6 (by decide) rfl (by omega) (by omega) (fun hc6 => ?_) (fun hc6 => ?_) | refine pn_icmp_ne (q := 9) (tgt := 50) dX7_remembers_6 (by decide) rfl (fun hc6 => ?_) (fun hc6 => ?_)
  · refine pn_aload_n (q := 51) dX7_remembers_50 rfl rfl rfl ?_
    refine pn_get (q := 54) fX7_20 dX7_remembers_51 rfl rfl rfl ?_
    refine pn_aload_n (q := 55) dX7_remembers_54 rfl rfl rfl ?_
    refine pn_get (q := 58) fX7_29 dX7_remembers_55 rfl rfl rfl ?_
    refine pn_aload_n (q := 59) dX7_remembers_58 rfl rfl rfl ?_
    refine pn_get (q := 62) fX7_268 dX7_remembers_59 rfl rfl rfl ?_
    refine pn_aald (q := 63) (Or.inr rfl) (j := 6) dX7_remembers_62 rfl rfl rfl (by omega) (by decide) ?_; refine pn_eq (h' := _) (st' := [.ref 12, .ref 3]) rfl rfl ?_
    refine pn_upS0 (q := 66) (bc9 := 0) (bs9 := 0) (m_copies2 adK d (nowF Y) (nowF (P 6))) lkX7_221 dX7_remembers_63 rfl rfl (pnSel_of (I := [3, 12]) rfl rfl) (pnFree_none rfl) rfl (by omega) (by omega) (by omega) (Nat.le_of_ble_eq_true rfl) ?_
    refine pn_eq (h' := (hM Y (upP P 6 Y) (a1, a2, a3, a4, 6) b c e f g h)) (st' := _) rfl rfl ?_
    refine pn_aload_n (q := 67) dX7_remembers_66 rfl rfl rfl ?_
    refine pn_dup (q := 68) dX7_remembers_67 rfl rfl ?_
    refine pn_get (q := 71) fX7_268 dX7_remembers_68 rfl rfl rfl ?_
    refine pn_iconst (q := 72) (v := nI 1) dX7_remembers_71 rfl (by decide) ?_
    first | with_reducible refine pn_iaddN (q := 73) dX7_remembers_72 rfl ?_ | refine pn_iadd (q := 73) dX7_remembers_72 rfl ?_
    refine pn_put (q := 76) fX7_268 dX7_remembers_73 rfl rfl (Nat.le_of_ble_eq_true rfl) (pnF_int _) ?_
    refine pn_vret dX7_remembers_76 rfl ?_
    exact ⟨rfl, rfl⟩
  · omega
set_option maxRecDepth 100000 in
theorem m_remembers7 (adK : Nat → Nat) (d : Nat) (Y : MN) (P : Nat → MN) (a1 : Nat) (a2 : Nat → Nat) (a3 : Nat) (a4 : Int32) (b : G1) (c : G3) (e : G4) (f : G5) (g : G6) (h : G7) : pnCt mX7_remembers adK (d + 1) 0 0 [.ref 0] (hM Y P (a1, a2, a3, a4, 7) b c e f g h) (pnIs (.inl none) (hM Y (upP P 7 Y) (a1, a2, a3, a4, 8) b c e f g h)) := by
  refine pnCt_of (by decide) kX7_remembers (Nat.le_of_ble_eq_true rfl) rfl hM_cl (pnCS_b rfl) ?_
  refine pn_aload_n (q := 1) dX7_remembers_0 rfl rfl rfl ?_
  (refine pn_get (q := 4) fX7_268 dX7_remembers_1 rfl rfl rfl ?_)
  refine pn_eq (h' := _) (st' := .int (nI 7) :: _) rfl rfl ?_
  refine pn_bipush (q := 6) (v := nI 8) dX7_remembers_4 rfl (by decide) ?_
  first | refine pn_nne (q := 9) (tgt := 50) dX7_remembers_6 (by decide) rfl (by omega) (by omega) (fun hc6 => ?_) (fun hc6 => ?_) | refine pn_icmp_ne (q := 9) (tgt := 50) dX7_remembers_6 (by decide) rfl (fun hc6 => ?_) (fun hc6 => ?_)
  · refine pn_aload_n (q := 51) dX7_remembers_50 rfl rfl rfl ?_
    refine pn_get (q := 54) fX7_20 dX7_remembers_51 rfl rfl rfl ?_
    refine pn_aload_n (q := 55) dX7_remembers_54 rfl rfl rfl ?_
    refine pn_get (q := 58) fX7_29 dX7_remembers_55 rfl rfl rfl ?_
    refine pn_aload_n (q := 59) dX7_remembers_58 rfl rfl rfl ?_
    refine pn_get (q := 62) fX7_268 dX7_remembers_59 rfl rfl rfl ?_
    refine pn_aald (q := 63) (Or.inr rfl) (j := 7) dX7_remembers_62 rfl rfl rfl (by omega) (by decide) ?_; refine pn_eq (h' := _) (st' := [.ref 13, .ref 3]) rfl rfl ?_
    refine pn_upS0 (q := 66) (bc9 := 0) (bs9 := 0) (m_copies2 adK d (nowF Y) (nowF (P 7))) lkX7_221 dX7_remembers_63 rfl rfl (pnSel_of (I := [3, 13]) rfl rfl) (pnFree_none rfl) rfl (by omega) (by omega) (by omega) (Nat.le_of_ble_eq_true rfl) ?_
    refine pn_eq (h' := (hM Y (upP P 7 Y) (a1, a2, a3, a4, 7) b c e f g h)) (st' := _) rfl rfl ?_
    refine pn_aload_n (q := 67) dX7_remembers_66 rfl rfl rfl ?_
    refine pn_dup (q := 68) dX7_remembers_67 rfl rfl ?_
    refine pn_get (q := 71) fX7_268 dX7_remembers_68 rfl rfl rfl ?_
    refine pn_iconst (q := 72) (v := nI 1) dX7_remembers_71 rfl (by decide) ?_
    first | with_reducible refine pn_iaddN (q := 73) dX7_remembers_72 rfl ?_ | refine pn_iadd (q := 73) dX7_remembers_72 rfl ?_
    refine pn_put (q := 76) fX7_268 dX7_remembers_73 rfl rfl (Nat.le_of_ble_eq_true rfl) (pnF_int _) ?_
    refine pn_vret dX7_remembers_76 rfl ?_
    exact ⟨rfl, rfl⟩
  · omega
set_option maxRecDepth 100000 in
theorem m_shift1 (adK : Nat → Nat) (d : Nat) (Y : MN) (P : Nat → MN) (a1 : Nat) (a2 : Nat → Nat) (a3 : Nat) (a4 : Int32) (b : G1) (c : G3) (e : G4) (f : G5) (g : G6) (h : G7) (P0 : Nat → MN) (k : pnWP mX7_remembers adK (d + 1) (pnIs (.inl none) (hM Y (keP P0 Y 8) (a1, a2, a3, a4, 8) b c e f g h)) 0 0 (hM Y (upP P 0 (P 1)) (a1, a2, a3, a4, 8) b c e f g h) [some (.ref 0), some (.int (nI 2))] [] 11) : pnWP mX7_remembers adK (d + 1) (pnIs (.inl none) (hM Y (keP P0 Y 8) (a1, a2, a3, a4, 8) b c e f g h)) 0 0 (hM Y P (a1, a2, a3, a4, 8) b c e f g h) [some (.ref 0), some (.int (nI 1))] [] 11 := by
  refine pn_iload_n (q := 12) dX7_remembers_11 rfl rfl ?_
  refine pn_bipush (q := 14) (v := nI 8) dX7_remembers_12 rfl (by decide) ?_
  first | refine pn_nge (q := 17) (tgt := 40) dX7_remembers_14 (by decide) rfl (by omega) (by omega) (fun hc14 => ?_) (fun hc14 => ?_) | refine pn_icmp_ge (q := 17) (tgt := 40) dX7_remembers_14 (by decide) rfl (fun hc14 => ?_) (fun hc14 => ?_)
  · omega
  · refine pn_aload_n (q := 18) dX7_remembers_17 rfl rfl rfl ?_
    refine pn_get (q := 21) fX7_29 dX7_remembers_18 rfl rfl rfl ?_
    refine pn_iload_n (q := 22) dX7_remembers_21 rfl rfl ?_
    refine pn_aald (q := 23) (Or.inr rfl) (j := 1) dX7_remembers_22 rfl rfl rfl (by omega) (by decide) ?_; refine pn_eq (h' := _) (st' := [.ref 7]) rfl rfl ?_
    refine pn_aload_n (q := 24) dX7_remembers_23 rfl rfl rfl ?_
    refine pn_get (q := 27) fX7_29 dX7_remembers_24 rfl rfl rfl ?_
    refine pn_iload_n (q := 28) dX7_remembers_27 rfl rfl ?_
    refine pn_iconst (q := 29) (v := nI 1) dX7_remembers_28 rfl (by decide) ?_
    first | with_reducible refine pn_isubN (q := 30) dX7_remembers_29 rfl (by omega) ?_ | refine pn_isub (q := 30) dX7_remembers_29 rfl ?_
    refine pn_aald (q := 31) (Or.inr rfl) (j := 0) dX7_remembers_30 rfl rfl rfl (by omega) (by decide) ?_; refine pn_eq (h' := _) (st' := [.ref 6, .ref 7]) rfl rfl ?_
    refine pn_upS0 (q := 34) (bc9 := 0) (bs9 := 0) (m_copies2 adK d (nowF (P 1)) (nowF (P 0))) lkX7_221 dX7_remembers_31 rfl rfl (pnSel_of (I := [7, 6]) rfl rfl) (pnFree_none rfl) rfl (by omega) (by omega) (by omega) (Nat.le_of_ble_eq_true rfl) ?_
    refine pn_eq (h' := (hM Y (upP P 0 (P 1)) (a1, a2, a3, a4, 8) b c e f g h)) (st' := _) rfl rfl ?_
    first | refine pn_iinc1 (q := 37) dX7_remembers_34 rfl rfl (by decide) ?_ | refine pn_iinc (q := 37) (mm := 1) dX7_remembers_34 rfl rfl (by decide) (by decide) ?_
    refine pn_goto (q := 11) dX7_remembers_37 (by decide) ?_
    exact k
set_option maxRecDepth 100000 in
theorem m_shift2 (adK : Nat → Nat) (d : Nat) (Y : MN) (P : Nat → MN) (a1 : Nat) (a2 : Nat → Nat) (a3 : Nat) (a4 : Int32) (b : G1) (c : G3) (e : G4) (f : G5) (g : G6) (h : G7) (P0 : Nat → MN) (k : pnWP mX7_remembers adK (d + 1) (pnIs (.inl none) (hM Y (keP P0 Y 8) (a1, a2, a3, a4, 8) b c e f g h)) 0 0 (hM Y (upP P 1 (P 2)) (a1, a2, a3, a4, 8) b c e f g h) [some (.ref 0), some (.int (nI 3))] [] 11) : pnWP mX7_remembers adK (d + 1) (pnIs (.inl none) (hM Y (keP P0 Y 8) (a1, a2, a3, a4, 8) b c e f g h)) 0 0 (hM Y P (a1, a2, a3, a4, 8) b c e f g h) [some (.ref 0), some (.int (nI 2))] [] 11 := by
  refine pn_iload_n (q := 12) dX7_remembers_11 rfl rfl ?_
  refine pn_bipush (q := 14) (v := nI 8) dX7_remembers_12 rfl (by decide) ?_
  first | refine pn_nge (q := 17) (tgt := 40) dX7_remembers_14 (by decide) rfl (by omega) (by omega) (fun hc14 => ?_) (fun hc14 => ?_) | refine pn_icmp_ge (q := 17) (tgt := 40) dX7_remembers_14 (by decide) rfl (fun hc14 => ?_) (fun hc14 => ?_)
  · omega
  · refine pn_aload_n (q := 18) dX7_remembers_17 rfl rfl rfl ?_
    refine pn_get (q := 21) fX7_29 dX7_remembers_18 rfl rfl rfl ?_
    refine pn_iload_n (q := 22) dX7_remembers_21 rfl rfl ?_
    refine pn_aald (q := 23) (Or.inr rfl) (j := 2) dX7_remembers_22 rfl rfl rfl (by omega) (by decide) ?_; refine pn_eq (h' := _) (st' := [.ref 8]) rfl rfl ?_
    refine pn_aload_n (q := 24) dX7_remembers_23 rfl rfl rfl ?_
    refine pn_get (q := 27) fX7_29 dX7_remembers_24 rfl rfl rfl ?_
    refine pn_iload_n (q := 28) dX7_remembers_27 rfl rfl ?_
    refine pn_iconst (q := 29) (v := nI 1) dX7_remembers_28 rfl (by decide) ?_
    first | with_reducible refine pn_isubN (q := 30) dX7_remembers_29 rfl (by omega) ?_ | refine pn_isub (q := 30) dX7_remembers_29 rfl ?_
    refine pn_aald (q := 31) (Or.inr rfl) (j := 1) dX7_remembers_30 rfl rfl rfl (by omega) (by decide) ?_; refine pn_eq (h' := _) (st' := [.ref 7, .ref 8]) rfl rfl ?_
    refine pn_upS0 (q := 34) (bc9 := 0) (bs9 := 0) (m_copies2 adK d (nowF (P 2)) (nowF (P 1))) lkX7_221 dX7_remembers_31 rfl rfl (pnSel_of (I := [8, 7]) rfl rfl) (pnFree_none rfl) rfl (by omega) (by omega) (by omega) (Nat.le_of_ble_eq_true rfl) ?_
    refine pn_eq (h' := (hM Y (upP P 1 (P 2)) (a1, a2, a3, a4, 8) b c e f g h)) (st' := _) rfl rfl ?_
    first | refine pn_iinc1 (q := 37) dX7_remembers_34 rfl rfl (by decide) ?_ | refine pn_iinc (q := 37) (mm := 1) dX7_remembers_34 rfl rfl (by decide) (by decide) ?_
    refine pn_goto (q := 11) dX7_remembers_37 (by decide) ?_
    exact k
set_option maxRecDepth 100000 in
theorem m_shift3 (adK : Nat → Nat) (d : Nat) (Y : MN) (P : Nat → MN) (a1 : Nat) (a2 : Nat → Nat) (a3 : Nat) (a4 : Int32) (b : G1) (c : G3) (e : G4) (f : G5) (g : G6) (h : G7) (P0 : Nat → MN) (k : pnWP mX7_remembers adK (d + 1) (pnIs (.inl none) (hM Y (keP P0 Y 8) (a1, a2, a3, a4, 8) b c e f g h)) 0 0 (hM Y (upP P 2 (P 3)) (a1, a2, a3, a4, 8) b c e f g h) [some (.ref 0), some (.int (nI 4))] [] 11) : pnWP mX7_remembers adK (d + 1) (pnIs (.inl none) (hM Y (keP P0 Y 8) (a1, a2, a3, a4, 8) b c e f g h)) 0 0 (hM Y P (a1, a2, a3, a4, 8) b c e f g h) [some (.ref 0), some (.int (nI 3))] [] 11 := by
  refine pn_iload_n (q := 12) dX7_remembers_11 rfl rfl ?_
  refine pn_bipush (q := 14) (v := nI 8) dX7_remembers_12 rfl (by decide) ?_
  first | refine pn_nge (q := 17) (tgt := 40) dX7_remembers_14 (by decide) rfl (by omega) (by omega) (fun hc14 => ?_) (fun hc14 => ?_) | refine pn_icmp_ge (q := 17) (tgt := 40) dX7_remembers_14 (by decide) rfl (fun hc14 => ?_) (fun hc14 => ?_)
  · omega
  · refine pn_aload_n (q := 18) dX7_remembers_17 rfl rfl rfl ?_
    refine pn_get (q := 21) fX7_29 dX7_remembers_18 rfl rfl rfl ?_
    refine pn_iload_n (q := 22) dX7_remembers_21 rfl rfl ?_
    refine pn_aald (q := 23) (Or.inr rfl) (j := 3) dX7_remembers_22 rfl rfl rfl (by omega) (by decide) ?_; refine pn_eq (h' := _) (st' := [.ref 9]) rfl rfl ?_
    refine pn_aload_n (q := 24) dX7_remembers_23 rfl rfl rfl ?_
    refine pn_get (q := 27) fX7_29 dX7_remembers_24 rfl rfl rfl ?_
    refine pn_iload_n (q := 28) dX7_remembers_27 rfl rfl ?_
    refine pn_iconst (q := 29) (v := nI 1) dX7_remembers_28 rfl (by decide) ?_
    first | with_reducible refine pn_isubN (q := 30) dX7_remembers_29 rfl (by omega) ?_ | refine pn_isub (q := 30) dX7_remembers_29 rfl ?_
    refine pn_aald (q := 31) (Or.inr rfl) (j := 2) dX7_remembers_30 rfl rfl rfl (by omega) (by decide) ?_; refine pn_eq (h' := _) (st' := [.ref 8, .ref 9]) rfl rfl ?_
    refine pn_upS0 (q := 34) (bc9 := 0) (bs9 := 0) (m_copies2 adK d (nowF (P 3)) (nowF (P 2))) lkX7_221 dX7_remembers_31 rfl rfl (pnSel_of (I := [9, 8]) rfl rfl) (pnFree_none rfl) rfl (by omega) (by omega) (by omega) (Nat.le_of_ble_eq_true rfl) ?_
    refine pn_eq (h' := (hM Y (upP P 2 (P 3)) (a1, a2, a3, a4, 8) b c e f g h)) (st' := _) rfl rfl ?_
    first | refine pn_iinc1 (q := 37) dX7_remembers_34 rfl rfl (by decide) ?_ | refine pn_iinc (q := 37) (mm := 1) dX7_remembers_34 rfl rfl (by decide) (by decide) ?_
    refine pn_goto (q := 11) dX7_remembers_37 (by decide) ?_
    exact k
set_option maxRecDepth 100000 in
theorem m_shift4 (adK : Nat → Nat) (d : Nat) (Y : MN) (P : Nat → MN) (a1 : Nat) (a2 : Nat → Nat) (a3 : Nat) (a4 : Int32) (b : G1) (c : G3) (e : G4) (f : G5) (g : G6) (h : G7) (P0 : Nat → MN) (k : pnWP mX7_remembers adK (d + 1) (pnIs (.inl none) (hM Y (keP P0 Y 8) (a1, a2, a3, a4, 8) b c e f g h)) 0 0 (hM Y (upP P 3 (P 4)) (a1, a2, a3, a4, 8) b c e f g h) [some (.ref 0), some (.int (nI 5))] [] 11) : pnWP mX7_remembers adK (d + 1) (pnIs (.inl none) (hM Y (keP P0 Y 8) (a1, a2, a3, a4, 8) b c e f g h)) 0 0 (hM Y P (a1, a2, a3, a4, 8) b c e f g h) [some (.ref 0), some (.int (nI 4))] [] 11 := by
  refine pn_iload_n (q := 12) dX7_remembers_11 rfl rfl ?_
  refine pn_bipush (q := 14) (v := nI 8) dX7_remembers_12 rfl (by decide) ?_
  first | refine pn_nge (q := 17) (tgt := 40) dX7_remembers_14 (by decide) rfl (by omega) (by omega) (fun hc14 => ?_) (fun hc14 => ?_) | refine pn_icmp_ge (q := 17) (tgt := 40) dX7_remembers_14 (by decide) rfl (fun hc14 => ?_) (fun hc14 => ?_)
  · omega
  · refine pn_aload_n (q := 18) dX7_remembers_17 rfl rfl rfl ?_
    refine pn_get (q := 21) fX7_29 dX7_remembers_18 rfl rfl rfl ?_
    refine pn_iload_n (q := 22) dX7_remembers_21 rfl rfl ?_
    refine pn_aald (q := 23) (Or.inr rfl) (j := 4) dX7_remembers_22 rfl rfl rfl (by omega) (by decide) ?_; refine pn_eq (h' := _) (st' := [.ref 10]) rfl rfl ?_
    refine pn_aload_n (q := 24) dX7_remembers_23 rfl rfl rfl ?_
    refine pn_get (q := 27) fX7_29 dX7_remembers_24 rfl rfl rfl ?_
    refine pn_iload_n (q := 28) dX7_remembers_27 rfl rfl ?_
    refine pn_iconst (q := 29) (v := nI 1) dX7_remembers_28 rfl (by decide) ?_
    first | with_reducible refine pn_isubN (q := 30) dX7_remembers_29 rfl (by omega) ?_ | refine pn_isub (q := 30) dX7_remembers_29 rfl ?_
    refine pn_aald (q := 31) (Or.inr rfl) (j := 3) dX7_remembers_30 rfl rfl rfl (by omega) (by decide) ?_; refine pn_eq (h' := _) (st' := [.ref 9, .ref 10]) rfl rfl ?_
    refine pn_upS0 (q := 34) (bc9 := 0) (bs9 := 0) (m_copies2 adK d (nowF (P 4)) (nowF (P 3))) lkX7_221 dX7_remembers_31 rfl rfl (pnSel_of (I := [10, 9]) rfl rfl) (pnFree_none rfl) rfl (by omega) (by omega) (by omega) (Nat.le_of_ble_eq_true rfl) ?_
    refine pn_eq (h' := (hM Y (upP P 3 (P 4)) (a1, a2, a3, a4, 8) b c e f g h)) (st' := _) rfl rfl ?_
    first | refine pn_iinc1 (q := 37) dX7_remembers_34 rfl rfl (by decide) ?_ | refine pn_iinc (q := 37) (mm := 1) dX7_remembers_34 rfl rfl (by decide) (by decide) ?_
    refine pn_goto (q := 11) dX7_remembers_37 (by decide) ?_
    exact k
set_option maxRecDepth 100000 in
theorem m_shift5 (adK : Nat → Nat) (d : Nat) (Y : MN) (P : Nat → MN) (a1 : Nat) (a2 : Nat → Nat) (a3 : Nat) (a4 : Int32) (b : G1) (c : G3) (e : G4) (f : G5) (g : G6) (h : G7) (P0 : Nat → MN) (k : pnWP mX7_remembers adK (d + 1) (pnIs (.inl none) (hM Y (keP P0 Y 8) (a1, a2, a3, a4, 8) b c e f g h)) 0 0 (hM Y (upP P 4 (P 5)) (a1, a2, a3, a4, 8) b c e f g h) [some (.ref 0), some (.int (nI 6))] [] 11) : pnWP mX7_remembers adK (d + 1) (pnIs (.inl none) (hM Y (keP P0 Y 8) (a1, a2, a3, a4, 8) b c e f g h)) 0 0 (hM Y P (a1, a2, a3, a4, 8) b c e f g h) [some (.ref 0), some (.int (nI 5))] [] 11 := by
  refine pn_iload_n (q := 12) dX7_remembers_11 rfl rfl ?_
  refine pn_bipush (q := 14) (v := nI 8) dX7_remembers_12 rfl (by decide) ?_
  first | refine pn_nge (q := 17) (tgt := 40) dX7_remembers_14 (by decide) rfl (by omega) (by omega) (fun hc14 => ?_) (fun hc14 => ?_) | refine pn_icmp_ge (q := 17) (tgt := 40) dX7_remembers_14 (by decide) rfl (fun hc14 => ?_) (fun hc14 => ?_)
  · omega
  · refine pn_aload_n (q := 18) dX7_remembers_17 rfl rfl rfl ?_
    refine pn_get (q := 21) fX7_29 dX7_remembers_18 rfl rfl rfl ?_
    refine pn_iload_n (q := 22) dX7_remembers_21 rfl rfl ?_
    refine pn_aald (q := 23) (Or.inr rfl) (j := 5) dX7_remembers_22 rfl rfl rfl (by omega) (by decide) ?_; refine pn_eq (h' := _) (st' := [.ref 11]) rfl rfl ?_
    refine pn_aload_n (q := 24) dX7_remembers_23 rfl rfl rfl ?_
    refine pn_get (q := 27) fX7_29 dX7_remembers_24 rfl rfl rfl ?_
    refine pn_iload_n (q := 28) dX7_remembers_27 rfl rfl ?_
    refine pn_iconst (q := 29) (v := nI 1) dX7_remembers_28 rfl (by decide) ?_
    first | with_reducible refine pn_isubN (q := 30) dX7_remembers_29 rfl (by omega) ?_ | refine pn_isub (q := 30) dX7_remembers_29 rfl ?_
    refine pn_aald (q := 31) (Or.inr rfl) (j := 4) dX7_remembers_30 rfl rfl rfl (by omega) (by decide) ?_; refine pn_eq (h' := _) (st' := [.ref 10, .ref 11]) rfl rfl ?_
    refine pn_upS0 (q := 34) (bc9 := 0) (bs9 := 0) (m_copies2 adK d (nowF (P 5)) (nowF (P 4))) lkX7_221 dX7_remembers_31 rfl rfl (pnSel_of (I := [11, 10]) rfl rfl) (pnFree_none rfl) rfl (by omega) (by omega) (by omega) (Nat.le_of_ble_eq_true rfl) ?_
    refine pn_eq (h' := (hM Y (upP P 4 (P 5)) (a1, a2, a3, a4, 8) b c e f g h)) (st' := _) rfl rfl ?_
    first | refine pn_iinc1 (q := 37) dX7_remembers_34 rfl rfl (by decide) ?_ | refine pn_iinc (q := 37) (mm := 1) dX7_remembers_34 rfl rfl (by decide) (by decide) ?_
    refine pn_goto (q := 11) dX7_remembers_37 (by decide) ?_
    exact k
set_option maxRecDepth 100000 in
theorem m_shift6 (adK : Nat → Nat) (d : Nat) (Y : MN) (P : Nat → MN) (a1 : Nat) (a2 : Nat → Nat) (a3 : Nat) (a4 : Int32) (b : G1) (c : G3) (e : G4) (f : G5) (g : G6) (h : G7) (P0 : Nat → MN) (k : pnWP mX7_remembers adK (d + 1) (pnIs (.inl none) (hM Y (keP P0 Y 8) (a1, a2, a3, a4, 8) b c e f g h)) 0 0 (hM Y (upP P 5 (P 6)) (a1, a2, a3, a4, 8) b c e f g h) [some (.ref 0), some (.int (nI 7))] [] 11) : pnWP mX7_remembers adK (d + 1) (pnIs (.inl none) (hM Y (keP P0 Y 8) (a1, a2, a3, a4, 8) b c e f g h)) 0 0 (hM Y P (a1, a2, a3, a4, 8) b c e f g h) [some (.ref 0), some (.int (nI 6))] [] 11 := by
  refine pn_iload_n (q := 12) dX7_remembers_11 rfl rfl ?_
  refine pn_bipush (q := 14) (v := nI 8) dX7_remembers_12 rfl (by decide) ?_
  first | refine pn_nge (q := 17) (tgt := 40) dX7_remembers_14 (by decide) rfl (by omega) (by omega) (fun hc14 => ?_) (fun hc14 => ?_) | refine pn_icmp_ge (q := 17) (tgt := 40) dX7_remembers_14 (by decide) rfl (fun hc14 => ?_) (fun hc14 => ?_)
  · omega
  · refine pn_aload_n (q := 18) dX7_remembers_17 rfl rfl rfl ?_
    refine pn_get (q := 21) fX7_29 dX7_remembers_18 rfl rfl rfl ?_
    refine pn_iload_n (q := 22) dX7_remembers_21 rfl rfl ?_
    refine pn_aald (q := 23) (Or.inr rfl) (j := 6) dX7_remembers_22 rfl rfl rfl (by omega) (by decide) ?_; refine pn_eq (h' := _) (st' := [.ref 12]) rfl rfl ?_
    refine pn_aload_n (q := 24) dX7_remembers_23 rfl rfl rfl ?_
    refine pn_get (q := 27) fX7_29 dX7_remembers_24 rfl rfl rfl ?_
    refine pn_iload_n (q := 28) dX7_remembers_27 rfl rfl ?_
    refine pn_iconst (q := 29) (v := nI 1) dX7_remembers_28 rfl (by decide) ?_
    first | with_reducible refine pn_isubN (q := 30) dX7_remembers_29 rfl (by omega) ?_ | refine pn_isub (q := 30) dX7_remembers_29 rfl ?_
    refine pn_aald (q := 31) (Or.inr rfl) (j := 5) dX7_remembers_30 rfl rfl rfl (by omega) (by decide) ?_; refine pn_eq (h' := _) (st' := [.ref 11, .ref 12]) rfl rfl ?_
    refine pn_upS0 (q := 34) (bc9 := 0) (bs9 := 0) (m_copies2 adK d (nowF (P 6)) (nowF (P 5))) lkX7_221 dX7_remembers_31 rfl rfl (pnSel_of (I := [12, 11]) rfl rfl) (pnFree_none rfl) rfl (by omega) (by omega) (by omega) (Nat.le_of_ble_eq_true rfl) ?_
    refine pn_eq (h' := (hM Y (upP P 5 (P 6)) (a1, a2, a3, a4, 8) b c e f g h)) (st' := _) rfl rfl ?_
    first | refine pn_iinc1 (q := 37) dX7_remembers_34 rfl rfl (by decide) ?_ | refine pn_iinc (q := 37) (mm := 1) dX7_remembers_34 rfl rfl (by decide) (by decide) ?_
    refine pn_goto (q := 11) dX7_remembers_37 (by decide) ?_
    exact k
set_option maxRecDepth 100000 in
theorem m_shift7 (adK : Nat → Nat) (d : Nat) (Y : MN) (P : Nat → MN) (a1 : Nat) (a2 : Nat → Nat) (a3 : Nat) (a4 : Int32) (b : G1) (c : G3) (e : G4) (f : G5) (g : G6) (h : G7) (P0 : Nat → MN) (k : pnWP mX7_remembers adK (d + 1) (pnIs (.inl none) (hM Y (keP P0 Y 8) (a1, a2, a3, a4, 8) b c e f g h)) 0 0 (hM Y (upP P 6 (P 7)) (a1, a2, a3, a4, 8) b c e f g h) [some (.ref 0), some (.int (nI 8))] [] 11) : pnWP mX7_remembers adK (d + 1) (pnIs (.inl none) (hM Y (keP P0 Y 8) (a1, a2, a3, a4, 8) b c e f g h)) 0 0 (hM Y P (a1, a2, a3, a4, 8) b c e f g h) [some (.ref 0), some (.int (nI 7))] [] 11 := by
  refine pn_iload_n (q := 12) dX7_remembers_11 rfl rfl ?_
  refine pn_bipush (q := 14) (v := nI 8) dX7_remembers_12 rfl (by decide) ?_
  first | refine pn_nge (q := 17) (tgt := 40) dX7_remembers_14 (by decide) rfl (by omega) (by omega) (fun hc14 => ?_) (fun hc14 => ?_) | refine pn_icmp_ge (q := 17) (tgt := 40) dX7_remembers_14 (by decide) rfl (fun hc14 => ?_) (fun hc14 => ?_)
  · omega
  · refine pn_aload_n (q := 18) dX7_remembers_17 rfl rfl rfl ?_
    refine pn_get (q := 21) fX7_29 dX7_remembers_18 rfl rfl rfl ?_
    refine pn_iload_n (q := 22) dX7_remembers_21 rfl rfl ?_
    refine pn_aald (q := 23) (Or.inr rfl) (j := 7) dX7_remembers_22 rfl rfl rfl (by omega) (by decide) ?_; refine pn_eq (h' := _) (st' := [.ref 13]) rfl rfl ?_
    refine pn_aload_n (q := 24) dX7_remembers_23 rfl rfl rfl ?_
    refine pn_get (q := 27) fX7_29 dX7_remembers_24 rfl rfl rfl ?_
    refine pn_iload_n (q := 28) dX7_remembers_27 rfl rfl ?_
    refine pn_iconst (q := 29) (v := nI 1) dX7_remembers_28 rfl (by decide) ?_
    first | with_reducible refine pn_isubN (q := 30) dX7_remembers_29 rfl (by omega) ?_ | refine pn_isub (q := 30) dX7_remembers_29 rfl ?_
    refine pn_aald (q := 31) (Or.inr rfl) (j := 6) dX7_remembers_30 rfl rfl rfl (by omega) (by decide) ?_; refine pn_eq (h' := _) (st' := [.ref 12, .ref 13]) rfl rfl ?_
    refine pn_upS0 (q := 34) (bc9 := 0) (bs9 := 0) (m_copies2 adK d (nowF (P 7)) (nowF (P 6))) lkX7_221 dX7_remembers_31 rfl rfl (pnSel_of (I := [13, 12]) rfl rfl) (pnFree_none rfl) rfl (by omega) (by omega) (by omega) (Nat.le_of_ble_eq_true rfl) ?_
    refine pn_eq (h' := (hM Y (upP P 6 (P 7)) (a1, a2, a3, a4, 8) b c e f g h)) (st' := _) rfl rfl ?_
    first | refine pn_iinc1 (q := 37) dX7_remembers_34 rfl rfl (by decide) ?_ | refine pn_iinc (q := 37) (mm := 1) dX7_remembers_34 rfl rfl (by decide) (by decide) ?_
    refine pn_goto (q := 11) dX7_remembers_37 (by decide) ?_
    exact k
set_option maxRecDepth 100000 in
theorem m_remembers8 (adK : Nat → Nat) (d : Nat) (Y : MN) (P : Nat → MN) (a1 : Nat) (a2 : Nat → Nat) (a3 : Nat) (a4 : Int32) (b : G1) (c : G3) (e : G4) (f : G5) (g : G6) (h : G7) : pnCt mX7_remembers adK (d + 1) 0 0 [.ref 0] (hM Y P (a1, a2, a3, a4, 8) b c e f g h) (pnIs (.inl none) (hM Y (keP P Y 8) (a1, a2, a3, a4, 8) b c e f g h)) := by
  refine pnCt_of (by decide) kX7_remembers (Nat.le_of_ble_eq_true rfl) rfl hM_cl (pnCS_b rfl) ?_
  have last : pnWP mX7_remembers adK (d + 1) (pnIs (.inl none) (hM Y (keP P Y 8) (a1, a2, a3, a4, 8) b c e f g h)) 0 0 (hM Y (fun j => if j = 7 then P 7 else P (j + 1)) (a1, a2, a3, a4, 8) b c e f g h) [some (.ref 0), some (.int (nI 8))] [] 11 := by
    refine pn_iload_n (q := 12) dX7_remembers_11 rfl rfl ?_
    refine pn_bipush (q := 14) (v := nI 8) dX7_remembers_12 rfl (by decide) ?_
    first | refine pn_nge (q := 17) (tgt := 40) dX7_remembers_14 (by decide) rfl (by omega) (by omega) (fun hc14 => ?_) (fun hc14 => ?_) | refine pn_icmp_ge (q := 17) (tgt := 40) dX7_remembers_14 (by decide) rfl (fun hc14 => ?_) (fun hc14 => ?_)
    · refine pn_aload_n (q := 41) dX7_remembers_40 rfl rfl rfl ?_
      refine pn_dup (q := 42) dX7_remembers_41 rfl rfl ?_
      (refine pn_get (q := 45) fX7_268 dX7_remembers_42 rfl rfl rfl ?_)
      refine pn_eq (h' := _) (st' := .int (nI 8) :: _) rfl rfl ?_
      refine pn_iconst (q := 46) (v := nI 1) dX7_remembers_45 rfl (by decide) ?_
      first | with_reducible refine pn_isubN (q := 47) dX7_remembers_46 rfl (by omega) ?_ | refine pn_isub (q := 47) dX7_remembers_46 rfl ?_
      refine pn_put (q := 50) fX7_268 dX7_remembers_47 rfl rfl (Nat.le_of_ble_eq_true rfl) (pnF_int _) ?_
      refine pn_aload_n (q := 51) dX7_remembers_50 rfl rfl rfl ?_
      refine pn_get (q := 54) fX7_20 dX7_remembers_51 rfl rfl rfl ?_
      refine pn_aload_n (q := 55) dX7_remembers_54 rfl rfl rfl ?_
      refine pn_get (q := 58) fX7_29 dX7_remembers_55 rfl rfl rfl ?_
      refine pn_aload_n (q := 59) dX7_remembers_58 rfl rfl rfl ?_
      refine pn_get (q := 62) fX7_268 dX7_remembers_59 rfl rfl rfl ?_
      refine pn_aald (q := 63) (Or.inr rfl) (j := 7) dX7_remembers_62 rfl rfl rfl (by omega) (by decide) ?_; refine pn_eq (h' := _) (st' := [.ref 13, .ref 3]) rfl rfl ?_
      refine pn_upS0 (q := 66) (bc9 := 0) (bs9 := 0) (m_copies2 adK d (nowF Y) (nowF (P 7))) lkX7_221 dX7_remembers_63 rfl rfl (pnSel_of (I := [3, 13]) rfl rfl) (pnFree_none rfl) rfl (by omega) (by omega) (by omega) (Nat.le_of_ble_eq_true rfl) ?_
      refine pn_eq (h' := (hM Y (keP P Y 8) (a1, a2, a3, a4, 7) b c e f g h)) (st' := _) rfl rfl ?_
      refine pn_aload_n (q := 67) dX7_remembers_66 rfl rfl rfl ?_
      refine pn_dup (q := 68) dX7_remembers_67 rfl rfl ?_
      refine pn_get (q := 71) fX7_268 dX7_remembers_68 rfl rfl rfl ?_
      refine pn_iconst (q := 72) (v := nI 1) dX7_remembers_71 rfl (by decide) ?_
      first | with_reducible refine pn_iaddN (q := 73) dX7_remembers_72 rfl ?_ | refine pn_iadd (q := 73) dX7_remembers_72 rfl ?_
      refine pn_put (q := 76) fX7_268 dX7_remembers_73 rfl rfl (Nat.le_of_ble_eq_true rfl) (pnF_int _) ?_
      refine pn_vret dX7_remembers_76 rfl ?_
      exact ⟨rfl, rfl⟩
    · omega
  refine pn_aload_n (q := 1) dX7_remembers_0 rfl rfl rfl ?_
  (refine pn_get (q := 4) fX7_268 dX7_remembers_1 rfl rfl rfl ?_)
  refine pn_eq (h' := _) (st' := .int (nI 8) :: _) rfl rfl ?_
  refine pn_bipush (q := 6) (v := nI 8) dX7_remembers_4 rfl (by decide) ?_
  first | refine pn_nne (q := 9) (tgt := 50) dX7_remembers_6 (by decide) rfl (by omega) (by omega) (fun hc6 => ?_) (fun hc6 => ?_) | refine pn_icmp_ne (q := 9) (tgt := 50) dX7_remembers_6 (by decide) rfl (fun hc6 => ?_) (fun hc6 => ?_)
  · omega
  · refine pn_iconst (q := 10) (v := nI 1) dX7_remembers_9 rfl (by decide) ?_
    refine pn_istore_n (q := 11) dX7_remembers_10 rfl (by decide) ?_
    exact m_shift1 adK d Y _ a1 a2 a3 a4 b c e f g h P (m_shift2 adK d Y _ a1 a2 a3 a4 b c e f g h P (m_shift3 adK d Y _ a1 a2 a3 a4 b c e f g h P (m_shift4 adK d Y _ a1 a2 a3 a4 b c e f g h P (m_shift5 adK d Y _ a1 a2 a3 a4 b c e f g h P (m_shift6 adK d Y _ a1 a2 a3 a4 b c e f g h P (m_shift7 adK d Y _ a1 a2 a3 a4 b c e f g h P (by refine pn_eq (h' := hM Y (fun j => if j = 7 then P 7 else P (j + 1)) (a1, a2, a3, a4, 8) b c e f g h) (st' := _) rfl rfl ?_; exact last)))))))
theorem m_remembers (adK : Nat → Nat) (d : Nat) (Y : MN) (P : Nat → MN) (a : G0) (b : G1) (c : G3) (e : G4) (f : G5) (g : G6) (h : G7) (ha : a.2.2.2.2 ≤ 8) : pnCt mX7_remembers adK (d + 1) 0 0 [.ref 0] (hM Y P a b c e f g h) (pnIs (.inl none) (hM Y (keP P Y a.2.2.2.2) (keB a) b c e f g h)) := by
  obtain ⟨a1, a2, a3, a4, k⟩ := a
  match k, ha with
  | 0, _ => exact m_remembers0 adK d Y P a1 a2 a3 a4 b c e f g h
  | 1, _ => exact m_remembers1 adK d Y P a1 a2 a3 a4 b c e f g h
  | 2, _ => exact m_remembers2 adK d Y P a1 a2 a3 a4 b c e f g h
  | 3, _ => exact m_remembers3 adK d Y P a1 a2 a3 a4 b c e f g h
  | 4, _ => exact m_remembers4 adK d Y P a1 a2 a3 a4 b c e f g h
  | 5, _ => exact m_remembers5 adK d Y P a1 a2 a3 a4 b c e f g h
  | 6, _ => exact m_remembers6 adK d Y P a1 a2 a3 a4 b c e f g h
  | 7, _ => exact m_remembers7 adK d Y P a1 a2 a3 a4 b c e f g h
  | 8, _ => exact m_remembers8 adK d Y P a1 a2 a3 a4 b c e f g h
  | k + 9, q => exact absurd q (by show ¬ k + 9 ≤ 8; omega)
set_option maxRecDepth 100000 in
theorem m_undo1 (adK : Nat → Nat) (d : Nat) (Y : MN) (P : Nat → MN) (a1 : Nat) (a2 : Nat → Nat) (a3 : Nat) (a4 : Int32) (b : G1) (c : G3) (e : G4) (f : G5) (g : G6) (h : G7) : pnCt mX7_undo adK (d + 1) 0 0 [.ref 0] (hM Y P (a1, a2, a3, a4, 1) b c e f g h) (pnIs (.inl (some (.int (nI 0)))) (hM (P 0) P (0, a2, a3, a4, 0) b c e f g h)) := by
  refine pnCt_of (by decide) kX7_undo (Nat.le_of_ble_eq_true rfl) rfl hM_cl (pnCS_b rfl) ?_
  refine pn_aload_n (q := 1) dX7_undo_0 rfl rfl rfl ?_
  refine pn_iconst (q := 2) (v := nI 0) dX7_undo_1 rfl (by decide) ?_
  (refine pn_put (q := 5) fX7_63 dX7_undo_2 rfl rfl (Nat.le_of_ble_eq_true rfl) (pnF_int _) ?_)
  refine pn_eq (h' := (hM Y P (0, a2, a3, a4, 1) b c e f g h)) (st' := _) rfl rfl ?_
  refine pn_aload_n (q := 6) dX7_undo_5 rfl rfl rfl ?_
  (refine pn_get (q := 9) fX7_268 dX7_undo_6 rfl rfl rfl ?_)
  refine pn_eq (h' := _) (st' := .int (nI 1) :: _) rfl rfl ?_
  first | refine pn_zne (q := 12) (tgt := 14) dX7_undo_9 (by decide) rfl (by omega) (fun hc9 => ?_) (fun hc9 => ?_) | refine pn_if_ne (q := 12) (tgt := 14) dX7_undo_9 (by decide) rfl (fun hc9 => ?_) (fun hc9 => ?_)
  · refine pn_aload_n (q := 15) dX7_undo_14 rfl rfl rfl ?_
    refine pn_dup (q := 16) dX7_undo_15 rfl rfl ?_
    (refine pn_get (q := 19) fX7_268 dX7_undo_16 rfl rfl rfl ?_)
    refine pn_eq (h' := _) (st' := .int (nI 1) :: _) rfl rfl ?_
    refine pn_iconst (q := 20) (v := nI 1) dX7_undo_19 rfl (by decide) ?_
    first | with_reducible refine pn_isubN (q := 21) dX7_undo_20 rfl (by omega) ?_ | refine pn_isub (q := 21) dX7_undo_20 rfl ?_
    refine pn_put (q := 24) fX7_268 dX7_undo_21 rfl rfl (Nat.le_of_ble_eq_true rfl) (pnF_int _) ?_
    refine pn_aload_n (q := 25) dX7_undo_24 rfl rfl rfl ?_
    refine pn_get (q := 28) fX7_29 dX7_undo_25 rfl rfl rfl ?_
    refine pn_aload_n (q := 29) dX7_undo_28 rfl rfl rfl ?_
    refine pn_get (q := 32) fX7_268 dX7_undo_29 rfl rfl rfl ?_
    refine pn_aald (q := 33) (Or.inr rfl) (j := 0) dX7_undo_32 rfl rfl rfl (by omega) (by decide) ?_; refine pn_eq (h' := _) (st' := [.ref 6]) rfl rfl ?_
    refine pn_aload_n (q := 34) dX7_undo_33 rfl rfl rfl ?_
    refine pn_get (q := 37) fX7_20 dX7_undo_34 rfl rfl rfl ?_
    refine pn_upS0 (q := 40) (bc9 := 0) (bs9 := 0) (m_copies2 adK d (nowF (P 0)) (nowF Y)) lkX7_221 dX7_undo_37 rfl rfl (pnSel_of (I := [6, 3]) rfl rfl) (pnFree_none rfl) rfl (by omega) (by omega) (by omega) (Nat.le_of_ble_eq_true rfl) ?_
    refine pn_eq (h' := (hM (P 0) P (0, a2, a3, a4, 0) b c e f g h)) (st' := _) rfl rfl ?_
    refine pn_aload_n (q := 41) dX7_undo_40 rfl rfl rfl ?_
    refine pn_get (q := 44) fX7_268 dX7_undo_41 rfl rfl rfl ?_
    refine pn_iret dX7_undo_44 rfl ?_
    exact ⟨rfl, rfl⟩
  · omega
set_option maxRecDepth 100000 in
theorem m_undo2 (adK : Nat → Nat) (d : Nat) (Y : MN) (P : Nat → MN) (a1 : Nat) (a2 : Nat → Nat) (a3 : Nat) (a4 : Int32) (b : G1) (c : G3) (e : G4) (f : G5) (g : G6) (h : G7) : pnCt mX7_undo adK (d + 1) 0 0 [.ref 0] (hM Y P (a1, a2, a3, a4, 2) b c e f g h) (pnIs (.inl (some (.int (nI 1)))) (hM (P 1) P (0, a2, a3, a4, 1) b c e f g h)) := by
  refine pnCt_of (by decide) kX7_undo (Nat.le_of_ble_eq_true rfl) rfl hM_cl (pnCS_b rfl) ?_
  refine pn_aload_n (q := 1) dX7_undo_0 rfl rfl rfl ?_
  refine pn_iconst (q := 2) (v := nI 0) dX7_undo_1 rfl (by decide) ?_
  (refine pn_put (q := 5) fX7_63 dX7_undo_2 rfl rfl (Nat.le_of_ble_eq_true rfl) (pnF_int _) ?_)
  refine pn_eq (h' := (hM Y P (0, a2, a3, a4, 2) b c e f g h)) (st' := _) rfl rfl ?_
  refine pn_aload_n (q := 6) dX7_undo_5 rfl rfl rfl ?_
  (refine pn_get (q := 9) fX7_268 dX7_undo_6 rfl rfl rfl ?_)
  refine pn_eq (h' := _) (st' := .int (nI 2) :: _) rfl rfl ?_
  first | refine pn_zne (q := 12) (tgt := 14) dX7_undo_9 (by decide) rfl (by omega) (fun hc9 => ?_) (fun hc9 => ?_) | refine pn_if_ne (q := 12) (tgt := 14) dX7_undo_9 (by decide) rfl (fun hc9 => ?_) (fun hc9 => ?_)
  · refine pn_aload_n (q := 15) dX7_undo_14 rfl rfl rfl ?_
    refine pn_dup (q := 16) dX7_undo_15 rfl rfl ?_
    (refine pn_get (q := 19) fX7_268 dX7_undo_16 rfl rfl rfl ?_)
    refine pn_eq (h' := _) (st' := .int (nI 2) :: _) rfl rfl ?_
    refine pn_iconst (q := 20) (v := nI 1) dX7_undo_19 rfl (by decide) ?_
    first | with_reducible refine pn_isubN (q := 21) dX7_undo_20 rfl (by omega) ?_ | refine pn_isub (q := 21) dX7_undo_20 rfl ?_
    refine pn_put (q := 24) fX7_268 dX7_undo_21 rfl rfl (Nat.le_of_ble_eq_true rfl) (pnF_int _) ?_
    refine pn_aload_n (q := 25) dX7_undo_24 rfl rfl rfl ?_
    refine pn_get (q := 28) fX7_29 dX7_undo_25 rfl rfl rfl ?_
    refine pn_aload_n (q := 29) dX7_undo_28 rfl rfl rfl ?_
    refine pn_get (q := 32) fX7_268 dX7_undo_29 rfl rfl rfl ?_
    refine pn_aald (q := 33) (Or.inr rfl) (j := 1) dX7_undo_32 rfl rfl rfl (by omega) (by decide) ?_; refine pn_eq (h' := _) (st' := [.ref 7]) rfl rfl ?_
    refine pn_aload_n (q := 34) dX7_undo_33 rfl rfl rfl ?_
    refine pn_get (q := 37) fX7_20 dX7_undo_34 rfl rfl rfl ?_
    refine pn_upS0 (q := 40) (bc9 := 0) (bs9 := 0) (m_copies2 adK d (nowF (P 1)) (nowF Y)) lkX7_221 dX7_undo_37 rfl rfl (pnSel_of (I := [7, 3]) rfl rfl) (pnFree_none rfl) rfl (by omega) (by omega) (by omega) (Nat.le_of_ble_eq_true rfl) ?_
    refine pn_eq (h' := (hM (P 1) P (0, a2, a3, a4, 1) b c e f g h)) (st' := _) rfl rfl ?_
    refine pn_aload_n (q := 41) dX7_undo_40 rfl rfl rfl ?_
    refine pn_get (q := 44) fX7_268 dX7_undo_41 rfl rfl rfl ?_
    refine pn_iret dX7_undo_44 rfl ?_
    exact ⟨rfl, rfl⟩
  · omega
set_option maxRecDepth 100000 in
theorem m_undo3 (adK : Nat → Nat) (d : Nat) (Y : MN) (P : Nat → MN) (a1 : Nat) (a2 : Nat → Nat) (a3 : Nat) (a4 : Int32) (b : G1) (c : G3) (e : G4) (f : G5) (g : G6) (h : G7) : pnCt mX7_undo adK (d + 1) 0 0 [.ref 0] (hM Y P (a1, a2, a3, a4, 3) b c e f g h) (pnIs (.inl (some (.int (nI 2)))) (hM (P 2) P (0, a2, a3, a4, 2) b c e f g h)) := by
  refine pnCt_of (by decide) kX7_undo (Nat.le_of_ble_eq_true rfl) rfl hM_cl (pnCS_b rfl) ?_
  refine pn_aload_n (q := 1) dX7_undo_0 rfl rfl rfl ?_
  refine pn_iconst (q := 2) (v := nI 0) dX7_undo_1 rfl (by decide) ?_
  (refine pn_put (q := 5) fX7_63 dX7_undo_2 rfl rfl (Nat.le_of_ble_eq_true rfl) (pnF_int _) ?_)
  refine pn_eq (h' := (hM Y P (0, a2, a3, a4, 3) b c e f g h)) (st' := _) rfl rfl ?_
  refine pn_aload_n (q := 6) dX7_undo_5 rfl rfl rfl ?_
  (refine pn_get (q := 9) fX7_268 dX7_undo_6 rfl rfl rfl ?_)
  refine pn_eq (h' := _) (st' := .int (nI 3) :: _) rfl rfl ?_
  first | refine pn_zne (q := 12) (tgt := 14) dX7_undo_9 (by decide) rfl (by omega) (fun hc9 => ?_) (fun hc9 => ?_) | refine pn_if_ne (q := 12) (tgt := 14) dX7_undo_9 (by decide) rfl (fun hc9 => ?_) (fun hc9 => ?_)
  · refine pn_aload_n (q := 15) dX7_undo_14 rfl rfl rfl ?_
    refine pn_dup (q := 16) dX7_undo_15 rfl rfl ?_
    (refine pn_get (q := 19) fX7_268 dX7_undo_16 rfl rfl rfl ?_)
    refine pn_eq (h' := _) (st' := .int (nI 3) :: _) rfl rfl ?_
    refine pn_iconst (q := 20) (v := nI 1) dX7_undo_19 rfl (by decide) ?_
    first | with_reducible refine pn_isubN (q := 21) dX7_undo_20 rfl (by omega) ?_ | refine pn_isub (q := 21) dX7_undo_20 rfl ?_
    refine pn_put (q := 24) fX7_268 dX7_undo_21 rfl rfl (Nat.le_of_ble_eq_true rfl) (pnF_int _) ?_
    refine pn_aload_n (q := 25) dX7_undo_24 rfl rfl rfl ?_
    refine pn_get (q := 28) fX7_29 dX7_undo_25 rfl rfl rfl ?_
    refine pn_aload_n (q := 29) dX7_undo_28 rfl rfl rfl ?_
    refine pn_get (q := 32) fX7_268 dX7_undo_29 rfl rfl rfl ?_
    refine pn_aald (q := 33) (Or.inr rfl) (j := 2) dX7_undo_32 rfl rfl rfl (by omega) (by decide) ?_; refine pn_eq (h' := _) (st' := [.ref 8]) rfl rfl ?_
    refine pn_aload_n (q := 34) dX7_undo_33 rfl rfl rfl ?_
    refine pn_get (q := 37) fX7_20 dX7_undo_34 rfl rfl rfl ?_
    refine pn_upS0 (q := 40) (bc9 := 0) (bs9 := 0) (m_copies2 adK d (nowF (P 2)) (nowF Y)) lkX7_221 dX7_undo_37 rfl rfl (pnSel_of (I := [8, 3]) rfl rfl) (pnFree_none rfl) rfl (by omega) (by omega) (by omega) (Nat.le_of_ble_eq_true rfl) ?_
    refine pn_eq (h' := (hM (P 2) P (0, a2, a3, a4, 2) b c e f g h)) (st' := _) rfl rfl ?_
    refine pn_aload_n (q := 41) dX7_undo_40 rfl rfl rfl ?_
    refine pn_get (q := 44) fX7_268 dX7_undo_41 rfl rfl rfl ?_
    refine pn_iret dX7_undo_44 rfl ?_
    exact ⟨rfl, rfl⟩
  · omega
set_option maxRecDepth 100000 in
theorem m_undo4 (adK : Nat → Nat) (d : Nat) (Y : MN) (P : Nat → MN) (a1 : Nat) (a2 : Nat → Nat) (a3 : Nat) (a4 : Int32) (b : G1) (c : G3) (e : G4) (f : G5) (g : G6) (h : G7) : pnCt mX7_undo adK (d + 1) 0 0 [.ref 0] (hM Y P (a1, a2, a3, a4, 4) b c e f g h) (pnIs (.inl (some (.int (nI 3)))) (hM (P 3) P (0, a2, a3, a4, 3) b c e f g h)) := by
  refine pnCt_of (by decide) kX7_undo (Nat.le_of_ble_eq_true rfl) rfl hM_cl (pnCS_b rfl) ?_
  refine pn_aload_n (q := 1) dX7_undo_0 rfl rfl rfl ?_
  refine pn_iconst (q := 2) (v := nI 0) dX7_undo_1 rfl (by decide) ?_
  (refine pn_put (q := 5) fX7_63 dX7_undo_2 rfl rfl (Nat.le_of_ble_eq_true rfl) (pnF_int _) ?_)
  refine pn_eq (h' := (hM Y P (0, a2, a3, a4, 4) b c e f g h)) (st' := _) rfl rfl ?_
  refine pn_aload_n (q := 6) dX7_undo_5 rfl rfl rfl ?_
  (refine pn_get (q := 9) fX7_268 dX7_undo_6 rfl rfl rfl ?_)
  refine pn_eq (h' := _) (st' := .int (nI 4) :: _) rfl rfl ?_
  first | refine pn_zne (q := 12) (tgt := 14) dX7_undo_9 (by decide) rfl (by omega) (fun hc9 => ?_) (fun hc9 => ?_) | refine pn_if_ne (q := 12) (tgt := 14) dX7_undo_9 (by decide) rfl (fun hc9 => ?_) (fun hc9 => ?_)
  · refine pn_aload_n (q := 15) dX7_undo_14 rfl rfl rfl ?_
    refine pn_dup (q := 16) dX7_undo_15 rfl rfl ?_
    (refine pn_get (q := 19) fX7_268 dX7_undo_16 rfl rfl rfl ?_)
    refine pn_eq (h' := _) (st' := .int (nI 4) :: _) rfl rfl ?_
    refine pn_iconst (q := 20) (v := nI 1) dX7_undo_19 rfl (by decide) ?_
    first | with_reducible refine pn_isubN (q := 21) dX7_undo_20 rfl (by omega) ?_ | refine pn_isub (q := 21) dX7_undo_20 rfl ?_
    refine pn_put (q := 24) fX7_268 dX7_undo_21 rfl rfl (Nat.le_of_ble_eq_true rfl) (pnF_int _) ?_
    refine pn_aload_n (q := 25) dX7_undo_24 rfl rfl rfl ?_
    refine pn_get (q := 28) fX7_29 dX7_undo_25 rfl rfl rfl ?_
    refine pn_aload_n (q := 29) dX7_undo_28 rfl rfl rfl ?_
    refine pn_get (q := 32) fX7_268 dX7_undo_29 rfl rfl rfl ?_
    refine pn_aald (q := 33) (Or.inr rfl) (j := 3) dX7_undo_32 rfl rfl rfl (by omega) (by decide) ?_; refine pn_eq (h' := _) (st' := [.ref 9]) rfl rfl ?_
    refine pn_aload_n (q := 34) dX7_undo_33 rfl rfl rfl ?_
    refine pn_get (q := 37) fX7_20 dX7_undo_34 rfl rfl rfl ?_
    refine pn_upS0 (q := 40) (bc9 := 0) (bs9 := 0) (m_copies2 adK d (nowF (P 3)) (nowF Y)) lkX7_221 dX7_undo_37 rfl rfl (pnSel_of (I := [9, 3]) rfl rfl) (pnFree_none rfl) rfl (by omega) (by omega) (by omega) (Nat.le_of_ble_eq_true rfl) ?_
    refine pn_eq (h' := (hM (P 3) P (0, a2, a3, a4, 3) b c e f g h)) (st' := _) rfl rfl ?_
    refine pn_aload_n (q := 41) dX7_undo_40 rfl rfl rfl ?_
    refine pn_get (q := 44) fX7_268 dX7_undo_41 rfl rfl rfl ?_
    refine pn_iret dX7_undo_44 rfl ?_
    exact ⟨rfl, rfl⟩
  · omega
set_option maxRecDepth 100000 in
theorem m_undo5 (adK : Nat → Nat) (d : Nat) (Y : MN) (P : Nat → MN) (a1 : Nat) (a2 : Nat → Nat) (a3 : Nat) (a4 : Int32) (b : G1) (c : G3) (e : G4) (f : G5) (g : G6) (h : G7) : pnCt mX7_undo adK (d + 1) 0 0 [.ref 0] (hM Y P (a1, a2, a3, a4, 5) b c e f g h) (pnIs (.inl (some (.int (nI 4)))) (hM (P 4) P (0, a2, a3, a4, 4) b c e f g h)) := by
  refine pnCt_of (by decide) kX7_undo (Nat.le_of_ble_eq_true rfl) rfl hM_cl (pnCS_b rfl) ?_
  refine pn_aload_n (q := 1) dX7_undo_0 rfl rfl rfl ?_
  refine pn_iconst (q := 2) (v := nI 0) dX7_undo_1 rfl (by decide) ?_
  (refine pn_put (q := 5) fX7_63 dX7_undo_2 rfl rfl (Nat.le_of_ble_eq_true rfl) (pnF_int _) ?_)
  refine pn_eq (h' := (hM Y P (0, a2, a3, a4, 5) b c e f g h)) (st' := _) rfl rfl ?_
  refine pn_aload_n (q := 6) dX7_undo_5 rfl rfl rfl ?_
  (refine pn_get (q := 9) fX7_268 dX7_undo_6 rfl rfl rfl ?_)
  refine pn_eq (h' := _) (st' := .int (nI 5) :: _) rfl rfl ?_
  first | refine pn_zne (q := 12) (tgt := 14) dX7_undo_9 (by decide) rfl (by omega) (fun hc9 => ?_) (fun hc9 => ?_) | refine pn_if_ne (q := 12) (tgt := 14) dX7_undo_9 (by decide) rfl (fun hc9 => ?_) (fun hc9 => ?_)
  · refine pn_aload_n (q := 15) dX7_undo_14 rfl rfl rfl ?_
    refine pn_dup (q := 16) dX7_undo_15 rfl rfl ?_
    (refine pn_get (q := 19) fX7_268 dX7_undo_16 rfl rfl rfl ?_)
    refine pn_eq (h' := _) (st' := .int (nI 5) :: _) rfl rfl ?_
    refine pn_iconst (q := 20) (v := nI 1) dX7_undo_19 rfl (by decide) ?_
    first | with_reducible refine pn_isubN (q := 21) dX7_undo_20 rfl (by omega) ?_ | refine pn_isub (q := 21) dX7_undo_20 rfl ?_
    refine pn_put (q := 24) fX7_268 dX7_undo_21 rfl rfl (Nat.le_of_ble_eq_true rfl) (pnF_int _) ?_
    refine pn_aload_n (q := 25) dX7_undo_24 rfl rfl rfl ?_
    refine pn_get (q := 28) fX7_29 dX7_undo_25 rfl rfl rfl ?_
    refine pn_aload_n (q := 29) dX7_undo_28 rfl rfl rfl ?_
    refine pn_get (q := 32) fX7_268 dX7_undo_29 rfl rfl rfl ?_
    refine pn_aald (q := 33) (Or.inr rfl) (j := 4) dX7_undo_32 rfl rfl rfl (by omega) (by decide) ?_; refine pn_eq (h' := _) (st' := [.ref 10]) rfl rfl ?_
    refine pn_aload_n (q := 34) dX7_undo_33 rfl rfl rfl ?_
    refine pn_get (q := 37) fX7_20 dX7_undo_34 rfl rfl rfl ?_
    refine pn_upS0 (q := 40) (bc9 := 0) (bs9 := 0) (m_copies2 adK d (nowF (P 4)) (nowF Y)) lkX7_221 dX7_undo_37 rfl rfl (pnSel_of (I := [10, 3]) rfl rfl) (pnFree_none rfl) rfl (by omega) (by omega) (by omega) (Nat.le_of_ble_eq_true rfl) ?_
    refine pn_eq (h' := (hM (P 4) P (0, a2, a3, a4, 4) b c e f g h)) (st' := _) rfl rfl ?_
    refine pn_aload_n (q := 41) dX7_undo_40 rfl rfl rfl ?_
    refine pn_get (q := 44) fX7_268 dX7_undo_41 rfl rfl rfl ?_
    refine pn_iret dX7_undo_44 rfl ?_
    exact ⟨rfl, rfl⟩
  · omega
set_option maxRecDepth 100000 in
theorem m_undo6 (adK : Nat → Nat) (d : Nat) (Y : MN) (P : Nat → MN) (a1 : Nat) (a2 : Nat → Nat) (a3 : Nat) (a4 : Int32) (b : G1) (c : G3) (e : G4) (f : G5) (g : G6) (h : G7) : pnCt mX7_undo adK (d + 1) 0 0 [.ref 0] (hM Y P (a1, a2, a3, a4, 6) b c e f g h) (pnIs (.inl (some (.int (nI 5)))) (hM (P 5) P (0, a2, a3, a4, 5) b c e f g h)) := by
  refine pnCt_of (by decide) kX7_undo (Nat.le_of_ble_eq_true rfl) rfl hM_cl (pnCS_b rfl) ?_
  refine pn_aload_n (q := 1) dX7_undo_0 rfl rfl rfl ?_
  refine pn_iconst (q := 2) (v := nI 0) dX7_undo_1 rfl (by decide) ?_
  (refine pn_put (q := 5) fX7_63 dX7_undo_2 rfl rfl (Nat.le_of_ble_eq_true rfl) (pnF_int _) ?_)
  refine pn_eq (h' := (hM Y P (0, a2, a3, a4, 6) b c e f g h)) (st' := _) rfl rfl ?_
  refine pn_aload_n (q := 6) dX7_undo_5 rfl rfl rfl ?_
  (refine pn_get (q := 9) fX7_268 dX7_undo_6 rfl rfl rfl ?_)
  refine pn_eq (h' := _) (st' := .int (nI 6) :: _) rfl rfl ?_
  first | refine pn_zne (q := 12) (tgt := 14) dX7_undo_9 (by decide) rfl (by omega) (fun hc9 => ?_) (fun hc9 => ?_) | refine pn_if_ne (q := 12) (tgt := 14) dX7_undo_9 (by decide) rfl (fun hc9 => ?_) (fun hc9 => ?_)
  · refine pn_aload_n (q := 15) dX7_undo_14 rfl rfl rfl ?_
    refine pn_dup (q := 16) dX7_undo_15 rfl rfl ?_
    (refine pn_get (q := 19) fX7_268 dX7_undo_16 rfl rfl rfl ?_)
    refine pn_eq (h' := _) (st' := .int (nI 6) :: _) rfl rfl ?_
    refine pn_iconst (q := 20) (v := nI 1) dX7_undo_19 rfl (by decide) ?_
    first | with_reducible refine pn_isubN (q := 21) dX7_undo_20 rfl (by omega) ?_ | refine pn_isub (q := 21) dX7_undo_20 rfl ?_
    refine pn_put (q := 24) fX7_268 dX7_undo_21 rfl rfl (Nat.le_of_ble_eq_true rfl) (pnF_int _) ?_
    refine pn_aload_n (q := 25) dX7_undo_24 rfl rfl rfl ?_
    refine pn_get (q := 28) fX7_29 dX7_undo_25 rfl rfl rfl ?_
    refine pn_aload_n (q := 29) dX7_undo_28 rfl rfl rfl ?_
    refine pn_get (q := 32) fX7_268 dX7_undo_29 rfl rfl rfl ?_
    refine pn_aald (q := 33) (Or.inr rfl) (j := 5) dX7_undo_32 rfl rfl rfl (by omega) (by decide) ?_; refine pn_eq (h' := _) (st' := [.ref 11]) rfl rfl ?_
    refine pn_aload_n (q := 34) dX7_undo_33 rfl rfl rfl ?_
    refine pn_get (q := 37) fX7_20 dX7_undo_34 rfl rfl rfl ?_
    refine pn_upS0 (q := 40) (bc9 := 0) (bs9 := 0) (m_copies2 adK d (nowF (P 5)) (nowF Y)) lkX7_221 dX7_undo_37 rfl rfl (pnSel_of (I := [11, 3]) rfl rfl) (pnFree_none rfl) rfl (by omega) (by omega) (by omega) (Nat.le_of_ble_eq_true rfl) ?_
    refine pn_eq (h' := (hM (P 5) P (0, a2, a3, a4, 5) b c e f g h)) (st' := _) rfl rfl ?_
    refine pn_aload_n (q := 41) dX7_undo_40 rfl rfl rfl ?_
    refine pn_get (q := 44) fX7_268 dX7_undo_41 rfl rfl rfl ?_
    refine pn_iret dX7_undo_44 rfl ?_
    exact ⟨rfl, rfl⟩
  · omega
set_option maxRecDepth 100000 in
theorem m_undo7 (adK : Nat → Nat) (d : Nat) (Y : MN) (P : Nat → MN) (a1 : Nat) (a2 : Nat → Nat) (a3 : Nat) (a4 : Int32) (b : G1) (c : G3) (e : G4) (f : G5) (g : G6) (h : G7) : pnCt mX7_undo adK (d + 1) 0 0 [.ref 0] (hM Y P (a1, a2, a3, a4, 7) b c e f g h) (pnIs (.inl (some (.int (nI 6)))) (hM (P 6) P (0, a2, a3, a4, 6) b c e f g h)) := by
  refine pnCt_of (by decide) kX7_undo (Nat.le_of_ble_eq_true rfl) rfl hM_cl (pnCS_b rfl) ?_
  refine pn_aload_n (q := 1) dX7_undo_0 rfl rfl rfl ?_
  refine pn_iconst (q := 2) (v := nI 0) dX7_undo_1 rfl (by decide) ?_
  (refine pn_put (q := 5) fX7_63 dX7_undo_2 rfl rfl (Nat.le_of_ble_eq_true rfl) (pnF_int _) ?_)
  refine pn_eq (h' := (hM Y P (0, a2, a3, a4, 7) b c e f g h)) (st' := _) rfl rfl ?_
  refine pn_aload_n (q := 6) dX7_undo_5 rfl rfl rfl ?_
  (refine pn_get (q := 9) fX7_268 dX7_undo_6 rfl rfl rfl ?_)
  refine pn_eq (h' := _) (st' := .int (nI 7) :: _) rfl rfl ?_
  first | refine pn_zne (q := 12) (tgt := 14) dX7_undo_9 (by decide) rfl (by omega) (fun hc9 => ?_) (fun hc9 => ?_) | refine pn_if_ne (q := 12) (tgt := 14) dX7_undo_9 (by decide) rfl (fun hc9 => ?_) (fun hc9 => ?_)
  · refine pn_aload_n (q := 15) dX7_undo_14 rfl rfl rfl ?_
    refine pn_dup (q := 16) dX7_undo_15 rfl rfl ?_
    (refine pn_get (q := 19) fX7_268 dX7_undo_16 rfl rfl rfl ?_)
    refine pn_eq (h' := _) (st' := .int (nI 7) :: _) rfl rfl ?_
    refine pn_iconst (q := 20) (v := nI 1) dX7_undo_19 rfl (by decide) ?_
    first | with_reducible refine pn_isubN (q := 21) dX7_undo_20 rfl (by omega) ?_ | refine pn_isub (q := 21) dX7_undo_20 rfl ?_
    refine pn_put (q := 24) fX7_268 dX7_undo_21 rfl rfl (Nat.le_of_ble_eq_true rfl) (pnF_int _) ?_
    refine pn_aload_n (q := 25) dX7_undo_24 rfl rfl rfl ?_
    refine pn_get (q := 28) fX7_29 dX7_undo_25 rfl rfl rfl ?_
    refine pn_aload_n (q := 29) dX7_undo_28 rfl rfl rfl ?_
    refine pn_get (q := 32) fX7_268 dX7_undo_29 rfl rfl rfl ?_
    refine pn_aald (q := 33) (Or.inr rfl) (j := 6) dX7_undo_32 rfl rfl rfl (by omega) (by decide) ?_; refine pn_eq (h' := _) (st' := [.ref 12]) rfl rfl ?_
    refine pn_aload_n (q := 34) dX7_undo_33 rfl rfl rfl ?_
    refine pn_get (q := 37) fX7_20 dX7_undo_34 rfl rfl rfl ?_
    refine pn_upS0 (q := 40) (bc9 := 0) (bs9 := 0) (m_copies2 adK d (nowF (P 6)) (nowF Y)) lkX7_221 dX7_undo_37 rfl rfl (pnSel_of (I := [12, 3]) rfl rfl) (pnFree_none rfl) rfl (by omega) (by omega) (by omega) (Nat.le_of_ble_eq_true rfl) ?_
    refine pn_eq (h' := (hM (P 6) P (0, a2, a3, a4, 6) b c e f g h)) (st' := _) rfl rfl ?_
    refine pn_aload_n (q := 41) dX7_undo_40 rfl rfl rfl ?_
    refine pn_get (q := 44) fX7_268 dX7_undo_41 rfl rfl rfl ?_
    refine pn_iret dX7_undo_44 rfl ?_
    exact ⟨rfl, rfl⟩
  · omega
set_option maxRecDepth 100000 in
theorem m_undo8 (adK : Nat → Nat) (d : Nat) (Y : MN) (P : Nat → MN) (a1 : Nat) (a2 : Nat → Nat) (a3 : Nat) (a4 : Int32) (b : G1) (c : G3) (e : G4) (f : G5) (g : G6) (h : G7) : pnCt mX7_undo adK (d + 1) 0 0 [.ref 0] (hM Y P (a1, a2, a3, a4, 8) b c e f g h) (pnIs (.inl (some (.int (nI 7)))) (hM (P 7) P (0, a2, a3, a4, 7) b c e f g h)) := by
  refine pnCt_of (by decide) kX7_undo (Nat.le_of_ble_eq_true rfl) rfl hM_cl (pnCS_b rfl) ?_
  refine pn_aload_n (q := 1) dX7_undo_0 rfl rfl rfl ?_
  refine pn_iconst (q := 2) (v := nI 0) dX7_undo_1 rfl (by decide) ?_
  (refine pn_put (q := 5) fX7_63 dX7_undo_2 rfl rfl (Nat.le_of_ble_eq_true rfl) (pnF_int _) ?_)
  refine pn_eq (h' := (hM Y P (0, a2, a3, a4, 8) b c e f g h)) (st' := _) rfl rfl ?_
  refine pn_aload_n (q := 6) dX7_undo_5 rfl rfl rfl ?_
  (refine pn_get (q := 9) fX7_268 dX7_undo_6 rfl rfl rfl ?_)
  refine pn_eq (h' := _) (st' := .int (nI 8) :: _) rfl rfl ?_
  first | refine pn_zne (q := 12) (tgt := 14) dX7_undo_9 (by decide) rfl (by omega) (fun hc9 => ?_) (fun hc9 => ?_) | refine pn_if_ne (q := 12) (tgt := 14) dX7_undo_9 (by decide) rfl (fun hc9 => ?_) (fun hc9 => ?_)
  · refine pn_aload_n (q := 15) dX7_undo_14 rfl rfl rfl ?_
    refine pn_dup (q := 16) dX7_undo_15 rfl rfl ?_
    (refine pn_get (q := 19) fX7_268 dX7_undo_16 rfl rfl rfl ?_)
    refine pn_eq (h' := _) (st' := .int (nI 8) :: _) rfl rfl ?_
    refine pn_iconst (q := 20) (v := nI 1) dX7_undo_19 rfl (by decide) ?_
    first | with_reducible refine pn_isubN (q := 21) dX7_undo_20 rfl (by omega) ?_ | refine pn_isub (q := 21) dX7_undo_20 rfl ?_
    refine pn_put (q := 24) fX7_268 dX7_undo_21 rfl rfl (Nat.le_of_ble_eq_true rfl) (pnF_int _) ?_
    refine pn_aload_n (q := 25) dX7_undo_24 rfl rfl rfl ?_
    refine pn_get (q := 28) fX7_29 dX7_undo_25 rfl rfl rfl ?_
    refine pn_aload_n (q := 29) dX7_undo_28 rfl rfl rfl ?_
    refine pn_get (q := 32) fX7_268 dX7_undo_29 rfl rfl rfl ?_
    refine pn_aald (q := 33) (Or.inr rfl) (j := 7) dX7_undo_32 rfl rfl rfl (by omega) (by decide) ?_; refine pn_eq (h' := _) (st' := [.ref 13]) rfl rfl ?_
    refine pn_aload_n (q := 34) dX7_undo_33 rfl rfl rfl ?_
    refine pn_get (q := 37) fX7_20 dX7_undo_34 rfl rfl rfl ?_
    refine pn_upS0 (q := 40) (bc9 := 0) (bs9 := 0) (m_copies2 adK d (nowF (P 7)) (nowF Y)) lkX7_221 dX7_undo_37 rfl rfl (pnSel_of (I := [13, 3]) rfl rfl) (pnFree_none rfl) rfl (by omega) (by omega) (by omega) (Nat.le_of_ble_eq_true rfl) ?_
    refine pn_eq (h' := (hM (P 7) P (0, a2, a3, a4, 7) b c e f g h)) (st' := _) rfl rfl ?_
    refine pn_aload_n (q := 41) dX7_undo_40 rfl rfl rfl ?_
    refine pn_get (q := 44) fX7_268 dX7_undo_41 rfl rfl rfl ?_
    refine pn_iret dX7_undo_44 rfl ?_
    exact ⟨rfl, rfl⟩
  · omega
set_option maxRecDepth 100000 in
theorem m_undo0 (adK : Nat → Nat) (d : Nat) (Y : MN) (P : Nat → MN) (a : G0) (b : G1) (c : G3) (e : G4) (f : G5) (g : G6) (h : G7) (ha : a.2.2.2.2 = 0) : pnCt mX7_undo adK (d + 1) 0 0 [.ref 0] (hM Y P a b c e f g h) (pnIs (.inl (some (.int (-1)))) (hM Y P (0, a.2) b c e f g h)) := by
  refine pnCt_of (by decide) kX7_undo (Nat.le_of_ble_eq_true rfl) rfl hM_cl (pnCS_b rfl) ?_
  refine pn_aload_n (q := 1) dX7_undo_0 rfl rfl rfl ?_
  refine pn_iconst (q := 2) (v := nI 0) dX7_undo_1 rfl (by decide) ?_
  (refine pn_put (q := 5) fX7_63 dX7_undo_2 rfl rfl (Nat.le_of_ble_eq_true rfl) (pnF_int _) ?_)
  refine pn_eq (h' := (hM Y P (0, a.2) b c e f g h)) (st' := _) rfl rfl ?_
  refine pn_aload_n (q := 6) dX7_undo_5 rfl rfl rfl ?_
  (refine pn_get (q := 9) fX7_268 dX7_undo_6 rfl rfl rfl ?_)
  refine pn_eq (h' := _) (st' := .int (nI a.2.2.2.2) :: _) rfl rfl ?_
  first | refine pn_zne (q := 12) (tgt := 14) dX7_undo_9 (by decide) rfl (by omega) (fun hc9 => ?_) (fun hc9 => ?_) | refine pn_if_ne (q := 12) (tgt := 14) dX7_undo_9 (by decide) rfl (fun hc9 => ?_) (fun hc9 => ?_)
  · omega
  · refine pn_iconst (q := 13) (v := (-1)) dX7_undo_12 rfl (by decide) ?_
    refine pn_iret dX7_undo_13 rfl ?_
    exact ⟨rfl, rfl⟩
abbrev unB (a : G0) : G0 := (0, a.2.1, a.2.2.1, a.2.2.2.1, a.2.2.2.2 - 1)
theorem m_undo (adK : Nat → Nat) (d : Nat) (Y : MN) (P : Nat → MN) (a : G0) (b : G1) (c : G3) (e : G4) (f : G5) (g : G6) (h : G7) (ha : a.2.2.2.2 ≤ 8) (h0 : 0 < a.2.2.2.2) : pnCt mX7_undo adK (d + 1) 0 0 [.ref 0] (hM Y P a b c e f g h) (pnIs (.inl (some (.int (nI (a.2.2.2.2 - 1))))) (hM (P (a.2.2.2.2 - 1)) P (unB a) b c e f g h)) := by
  obtain ⟨a1, a2, a3, a4, k⟩ := a
  match k, ha, h0 with
  | 0, _, q => exact absurd q (Nat.lt_irrefl _)
  | 1, _, _ => exact m_undo1 adK d Y P a1 a2 a3 a4 b c e f g h
  | 2, _, _ => exact m_undo2 adK d Y P a1 a2 a3 a4 b c e f g h
  | 3, _, _ => exact m_undo3 adK d Y P a1 a2 a3 a4 b c e f g h
  | 4, _, _ => exact m_undo4 adK d Y P a1 a2 a3 a4 b c e f g h
  | 5, _, _ => exact m_undo5 adK d Y P a1 a2 a3 a4 b c e f g h
  | 6, _, _ => exact m_undo6 adK d Y P a1 a2 a3 a4 b c e f g h
  | 7, _, _ => exact m_undo7 adK d Y P a1 a2 a3 a4 b c e f g h
  | 8, _, _ => exact m_undo8 adK d Y P a1 a2 a3 a4 b c e f g h
  | k + 9, q, _ => exact absurd q (by show ¬ k + 9 ≤ 8; omega)
/-! parts come and go -/
abbrev yP (Y : MN) (pc : Nat) (ps : Nat → Int64) : MN := (Y.1, Y.2.1, Y.2.2.1, Y.2.2.2.1, pc, Y.2.2.2.2.2.1, ps, Y.2.2.2.2.2.2.2)
theorem nowF_pc (Y : MN) (m : Nat) : vp_updL (nowF Y) 3 (lN m) = nowF (yP Y m Y.2.2.2.2.2.2.1) := by
  funext j
  unfold vp_updL nowF
  by_cases e : j = 3
  · subst e; rfl
  · rw [if_neg e]
    show _ = if j = 0 then _ else if j = 1 then _ else if j = 2 then _ else if j = 3 then _ else if j = 4 then _ else if j < 29 then _ else if j = 29 then _ else _
    rw [if_neg e, if_neg e]
theorem nowF_ps (Y : MN) (p : Nat) (x : Int64) : vp_updL (nowF Y) (30 + p) x = nowF (yP Y Y.2.2.2.2.1 (vp_updL Y.2.2.2.2.2.2.1 p x)) := by
  funext j
  unfold vp_updL
  by_cases e : j = 30 + p
  · subst e
    rw [if_pos rfl, nowF_p]
    exact (if_pos rfl).symm
  · rw [if_neg e]
    unfold nowF
    dsimp only
    repeat' split
    all_goals first | rfl | omega
set_option maxRecDepth 100000 in
theorem m_comes (adK : Nat → Nat) (d : Nat) (Y : MN) (P : Nat → MN) (a : G0) (b : G1) (c : G3) (e : G4) (f : G5) (g : G6) (h : G7) (x : Int64) (hpc : Y.2.2.2.2.1 < 60) : pnCt mX7_comes adK (d + 1) 0 0 [.ref 0, .long x] (hM Y P a b c e f g h) (pnIs (.inl none) (hM (yP Y (Y.2.2.2.2.1 + 1) (vp_updL Y.2.2.2.2.2.2.1 Y.2.2.2.2.1 x)) P a b c e f g h)) := by
  refine pnCt_of (by decide) kX7_comes (Nat.le_of_ble_eq_true rfl) rfl hM_cl (pnCS_b rfl) ?_
  refine pn_aload_n (q := 1) dX7_comes_0 rfl rfl rfl ?_
  refine pn_get (q := 4) fX7_20 dX7_comes_1 rfl rfl rfl ?_
  refine pn_bipush (q := 6) (v := nI 30) dX7_comes_4 rfl (by decide) ?_
  refine pn_aload_n (q := 7) dX7_comes_6 rfl rfl rfl ?_
  refine pn_idV (q := 10) (bc9 := 0) (bs9 := 0) (m_many adK d Y P a b c e f g h) lkX7_232 dX7_comes_7 rfl rfl (hM_cl) (hM_cl) (Nat.le_of_ble_eq_true rfl) rfl rfl rfl rfl rfl rfl (by omega) (by omega) (by omega) (Nat.le_of_ble_eq_true rfl) ?_
  refine pn_iaddN (q := 11) dX7_comes_10 rfl ?_
  refine pn_lload_n (q := 12) dX7_comes_11 rfl rfl ?_
  refine pn_last1 (q := 13) dX7_comes_12 rfl rfl rfl (by omega) (by decide) ?_; refine pn_eq (h' := hM (yP Y Y.2.2.2.2.1 (vp_updL Y.2.2.2.2.2.2.1 Y.2.2.2.2.1 x)) P a b c e f g h) (st' := _) (by rw [nowF_ps]; rfl) rfl ?_
  refine pn_aload_n (q := 14) dX7_comes_13 rfl rfl rfl ?_
  refine pn_get (q := 17) fX7_20 dX7_comes_14 rfl rfl rfl ?_
  refine pn_iconst (q := 18) (v := nI 3) dX7_comes_17 rfl (by decide) ?_
  first | refine pn_dup2 (q := 19) dX7_comes_18 rfl rfl rfl ?_ | refine pn_dup2l (q := 19) dX7_comes_18 rfl ?_
  refine pn_lald1 (q := 20) dX7_comes_19 rfl rfl rfl (by omega) (by decide) ?_; refine pn_eq (h' := _) (st' := .long (lN Y.2.2.2.2.1) :: _) rfl rfl ?_
  refine pn_lconst (q := 21) (v := lN 1) dX7_comes_20 rfl (by decide) ?_
  first | with_reducible refine pn_laddN (q := 22) dX7_comes_21 rfl ?_ | refine pn_ladd (q := 22) dX7_comes_21 rfl ?_
  refine pn_last1 (q := 23) dX7_comes_22 rfl rfl rfl (by omega) (by decide) ?_; refine pn_eq (h' := hM (yP Y (Y.2.2.2.2.1 + 1) (vp_updL Y.2.2.2.2.2.2.1 Y.2.2.2.2.1 x)) P a b c e f g h) (st' := _) (by rw [nowF_pc]; rfl) rfl ?_
  refine pn_vret dX7_comes_23 rfl ?_
  exact ⟨rfl, rfl⟩
/-! take -/
theorem m_manyE (adK : Nat → Nat) (d : Nat) (Y : MN) (P : Nat → MN) (a : G0) (b : G1) (c : G3) (e : G4) (f : G5) (g : G6) (h : G7) (k : Nat) (hk : Y.2.2.2.2.1 = k) : pnCt mX7_many adK d 0 0 [.ref 0] (hM Y P a b c e f g h) (pnIs (.inl (some (.int (nI k)))) (hM Y P a b c e f g h)) := by subst hk; exact m_many adK d Y P a b c e f g h
set_option maxRecDepth 100000 in
theorem m_takeX (adK : Nat → Nat) (d : Nat) (Y : MN) (P : Nat → MN) (a : G0) (b : G1) (c : G3) (e : G4) (f : G5) (g : G6) (h : G7) (x : Int32) (hpc : Y.2.2.2.2.1 ≤ 60) (hx : hasN Y.2.2.2.2.1 x = false) : pnCt mX7_take adK (d + 2) 0 0 [.ref 0, .int x] (hM Y P a b c e f g h) (pnIs (.inl (some (.int (nI 0)))) (hM Y P (bdA (0, a.2) 1 0) b c e f g h)) := by
  refine pnCt_of (by decide) kX7_take (Nat.le_of_ble_eq_true rfl) rfl hM_cl (pnCS_b rfl) ?_
  have Cx := m_isThere adK d Y P (0, a.2) b c e f g h x hpc
  rw [hx] at Cx
  refine pn_aload_n (q := 1) dX7_take_0 rfl rfl rfl ?_
  refine pn_iconst (q := 2) (v := nI 0) dX7_take_1 rfl (by decide) ?_
  (refine pn_put (q := 5) fX7_63 dX7_take_2 rfl rfl (Nat.le_of_ble_eq_true rfl) (pnF_int _) ?_)
  refine pn_eq (h' := (hM Y P (0, a.2) b c e f g h)) (st' := _) rfl rfl ?_
  refine pn_aload_n (q := 6) dX7_take_5 rfl rfl rfl ?_
  refine pn_aload_n (q := 7) dX7_take_6 rfl rfl rfl ?_
  refine pn_iload_n (q := 8) dX7_take_7 rfl rfl ?_
  refine pn_idV (q := 11) (bc9 := 0) (bs9 := 0) (Cx) lkX7_275 dX7_take_8 rfl rfl (hM_cl) (hM_cl) (Nat.le_of_ble_eq_true rfl) rfl rfl rfl rfl rfl rfl (by omega) (by omega) (by omega) (Nat.le_of_ble_eq_true rfl) ?_
  refine pn_bne (q := 14) (tgt := 18) dX7_take_11 (by decide) rfl (fun hc11 => ?_) (fun hc11 => ?_)
  · cases hc11
  · refine pn_iconst (q := 15) (v := nB true) dX7_take_14 rfl (by decide) ?_
    refine pn_goto (q := 19) dX7_take_15 (by decide) ?_
    refine pn_iconst (q := 20) (v := nI 1) dX7_take_19 rfl (by decide) ?_
    refine pn_iconst (q := 21) (v := nI 0) dX7_take_20 rfl (by decide) ?_
    refine pn_idV (q := 24) (bc9 := 0) (bs9 := 0) (m_badT adK d Y P (0, a.2) b c e f g h 1 0 rfl (by omega) (by omega) (by omega)) lkX7_206 dX7_take_21 rfl rfl (hM_cl) (hM_cl) (Nat.le_of_ble_eq_true rfl) rfl rfl rfl rfl rfl rfl (by omega) (by omega) (by omega) (Nat.le_of_ble_eq_true rfl) ?_
    refine pn_beq (q := 27) (tgt := 29) dX7_take_24 (by decide) rfl (fun hc24 => ?_) (fun hc24 => ?_)
    · cases hc24
    · refine pn_iconst (q := 28) (v := nI 0) dX7_take_27 rfl (by decide) ?_
      refine pn_iret dX7_take_28 rfl ?_
      exact ⟨rfl, rfl⟩
abbrev tkY (Y : MN) (p : Nat) : MN := yP Y (Y.2.2.2.2.1 - 1) (vp_updL (shN Y.2.2.2.2.2.2.1 p (Y.2.2.2.2.1 - 1 - p)) (Y.2.2.2.2.1 - 1) (lN 0))
set_option maxRecDepth 100000 in
theorem m_take (adK : Nat → Nat) (d : Nat) (Y : MN) (P : Nat → MN) (a : G0) (b : G1) (c : G3) (e : G4) (f : G5) (g : G6) (h : G7) (p : Nat) (ha : a.2.2.2.2 ≤ 8) (hpc : Y.2.2.2.2.1 ≤ 60) (hp : p < Y.2.2.2.2.1) : pnCt mX7_take adK (d + 2) 0 0 [.ref 0, .int (nI p)] (hM Y P a b c e f g h) (pnIs (.inl (some (.int (nI (Y.2.2.2.2.1 - 1))))) (hM (tkY Y p) (keP P Y a.2.2.2.2) (keB ((0, a.2) : G0)) b c e f g h)) := by
  refine pnCt_of (by decide) kX7_take (Nat.le_of_ble_eq_true rfl) rfl hM_cl (pnCS_b rfl) ?_
  have Cx := m_isThere adK d Y P (0, a.2) b c e f g h (nI p) hpc
  rw [hasN_in hp (by omega)] at Cx
  have fin : pnWP mX7_take adK (d + 2) (pnIs (.inl (some (.int (nI (Y.2.2.2.2.1 - 1))))) (hM (tkY Y p) (keP P Y a.2.2.2.2) (keB ((0, a.2) : G0)) b c e f g h)) 0 0 (hM (yP Y (Y.2.2.2.2.1 - 1) (shN Y.2.2.2.2.2.2.1 p (Y.2.2.2.2.1 - 1 - p))) (keP P Y a.2.2.2.2) (keB ((0, a.2) : G0)) b c e f g h) [some (.ref 0), some (.int (nI p))] [] 79 := by
    have CM := m_manyE adK d (yP Y (Y.2.2.2.2.1 - 1) (shN Y.2.2.2.2.2.2.1 p (Y.2.2.2.2.1 - 1 - p))) (keP P Y a.2.2.2.2) (keB ((0, a.2) : G0)) b c e f g h (Y.2.2.2.2.1 - 1) rfl
    have CM2 := m_manyE adK d (tkY Y p) (keP P Y a.2.2.2.2) (keB ((0, a.2) : G0)) b c e f g h (Y.2.2.2.2.1 - 1) rfl
    refine pn_aload_n (q := 80) dX7_take_79 rfl rfl rfl ?_
    refine pn_get (q := 83) fX7_20 dX7_take_80 rfl rfl rfl ?_
    refine pn_bipush (q := 85) (v := nI 30) dX7_take_83 rfl (by decide) ?_
    refine pn_aload_n (q := 86) dX7_take_85 rfl rfl rfl ?_
    refine pn_idV (q := 89) (bc9 := 0) (bs9 := 0) (CM) lkX7_232 dX7_take_86 rfl rfl (hM_cl) (hM_cl) (Nat.le_of_ble_eq_true rfl) rfl rfl rfl rfl rfl rfl (by omega) (by omega) (by omega) (Nat.le_of_ble_eq_true rfl) ?_
    refine pn_iaddN (q := 90) dX7_take_89 rfl ?_
    refine pn_lconst (q := 91) (v := lN 0) dX7_take_90 rfl (by decide) ?_
    refine pn_last1 (q := 92) dX7_take_91 rfl rfl rfl (by omega) (by decide) ?_; refine pn_eq (h' := hM (tkY Y p) (keP P Y a.2.2.2.2) (keB ((0, a.2) : G0)) b c e f g h) (st' := _) (by rw [nowF_ps]; rfl) rfl ?_
    refine pn_aload_n (q := 93) dX7_take_92 rfl rfl rfl ?_
    refine pn_idV (q := 96) (bc9 := 0) (bs9 := 0) (CM2) lkX7_232 dX7_take_93 rfl rfl (hM_cl) (hM_cl) (Nat.le_of_ble_eq_true rfl) rfl rfl rfl rfl rfl rfl (by omega) (by omega) (by omega) (Nat.le_of_ble_eq_true rfl) ?_
    refine pn_iret dX7_take_96 rfl ?_
    exact ⟨rfl, rfl⟩
  have loop : ∀ (z m : Nat), p + m + z = Y.2.2.2.2.1 - 1 → pnWP mX7_take adK (d + 2) (pnIs (.inl (some (.int (nI (Y.2.2.2.2.1 - 1))))) (hM (tkY Y p) (keP P Y a.2.2.2.2) (keB ((0, a.2) : G0)) b c e f g h)) 0 0 (hM (yP Y (Y.2.2.2.2.1 - 1) (shN Y.2.2.2.2.2.2.1 p m)) (keP P Y a.2.2.2.2) (keB ((0, a.2) : G0)) b c e f g h) [some (.ref 0), some (.int (nI p)), some (.int (nI (p + m)))] [] 45 := by
    intro z
    induction z with
    | zero =>
      intro m hz
      have hm : m = Y.2.2.2.2.1 - 1 - p := by omega
      subst hm
      have CM := m_manyE adK d (yP Y (Y.2.2.2.2.1 - 1) (shN Y.2.2.2.2.2.2.1 p (Y.2.2.2.2.1 - 1 - p))) (keP P Y a.2.2.2.2) (keB ((0, a.2) : G0)) b c e f g h (Y.2.2.2.2.1 - 1) rfl
      refine pn_iload_n (q := 46) dX7_take_45 rfl rfl ?_
      refine pn_aload_n (q := 47) dX7_take_46 rfl rfl rfl ?_
      refine pn_idV (q := 50) (bc9 := 0) (bs9 := 0) (CM) lkX7_232 dX7_take_47 rfl rfl (hM_cl) (hM_cl) (Nat.le_of_ble_eq_true rfl) rfl rfl rfl rfl rfl rfl (by omega) (by omega) (by omega) (Nat.le_of_ble_eq_true rfl) ?_
      first | refine pn_nge (q := 53) (tgt := 79) dX7_take_50 (by decide) rfl (by omega) (by omega) (fun hc50 => ?_) (fun hc50 => ?_) | refine pn_icmp_ge (q := 53) (tgt := 79) dX7_take_50 (by decide) rfl (fun hc50 => ?_) (fun hc50 => ?_)
      · exact pn_take 2 fin
      · omega
    | succ z ih =>
      intro m hz
      have CM := m_manyE adK d (yP Y (Y.2.2.2.2.1 - 1) (shN Y.2.2.2.2.2.2.1 p m)) (keP P Y a.2.2.2.2) (keB ((0, a.2) : G0)) b c e f g h (Y.2.2.2.2.1 - 1) rfl
      have e1 : nowF (yP Y (Y.2.2.2.2.1 - 1) (shN Y.2.2.2.2.2.2.1 p m)) (30 + (p + m) + 1) = Y.2.2.2.2.2.2.1 (p + m + 1) := by
        rw [show 30 + (p + m) + 1 = 30 + (p + m + 1) by omega, nowF_p]
        exact shN_out Y.2.2.2.2.2.2.1 p m _ (by omega)
      refine pn_iload_n (q := 46) dX7_take_45 rfl rfl ?_
      refine pn_aload_n (q := 47) dX7_take_46 rfl rfl rfl ?_
      refine pn_idV (q := 50) (bc9 := 0) (bs9 := 0) (CM) lkX7_232 dX7_take_47 rfl rfl (hM_cl) (hM_cl) (Nat.le_of_ble_eq_true rfl) rfl rfl rfl rfl rfl rfl (by omega) (by omega) (by omega) (Nat.le_of_ble_eq_true rfl) ?_
      first | refine pn_nge (q := 53) (tgt := 79) dX7_take_50 (by decide) rfl (by omega) (by omega) (fun hc50 => ?_) (fun hc50 => ?_) | refine pn_icmp_ge (q := 53) (tgt := 79) dX7_take_50 (by decide) rfl (fun hc50 => ?_) (fun hc50 => ?_)
      · omega
      · refine pn_aload_n (q := 54) dX7_take_53 rfl rfl rfl ?_
        refine pn_get (q := 57) fX7_20 dX7_take_54 rfl rfl rfl ?_
        refine pn_bipush (q := 59) (v := nI 30) dX7_take_57 rfl (by decide) ?_
        refine pn_iload_n (q := 60) dX7_take_59 rfl rfl ?_
        first | with_reducible refine pn_iaddN (q := 61) dX7_take_60 rfl ?_ | refine pn_iadd (q := 61) dX7_take_60 rfl ?_
        refine pn_aload_n (q := 62) dX7_take_61 rfl rfl rfl ?_
        refine pn_get (q := 65) fX7_20 dX7_take_62 rfl rfl rfl ?_
        refine pn_bipush (q := 67) (v := nI 30) dX7_take_65 rfl (by decide) ?_
        refine pn_iload_n (q := 68) dX7_take_67 rfl rfl ?_
        first | with_reducible refine pn_iaddN (q := 69) dX7_take_68 rfl ?_ | refine pn_iadd (q := 69) dX7_take_68 rfl ?_
        refine pn_iconst (q := 70) (v := nI 1) dX7_take_69 rfl (by decide) ?_
        first | with_reducible refine pn_iaddN (q := 71) dX7_take_70 rfl ?_ | refine pn_iadd (q := 71) dX7_take_70 rfl ?_
        refine pn_lald1 (q := 72) dX7_take_71 rfl rfl rfl (by omega) (by decide) ?_; rw [e1]
        refine pn_last1 (q := 73) dX7_take_72 rfl rfl rfl (by omega) (by decide) ?_; refine pn_eq (h' := hM (yP Y (Y.2.2.2.2.1 - 1) (shN Y.2.2.2.2.2.2.1 p (m + 1))) (keP P Y a.2.2.2.2) (keB ((0, a.2) : G0)) b c e f g h) (st' := _) (by rw [nowF_ps]; rfl) rfl ?_
        first | refine pn_iinc1 (q := 76) dX7_take_73 rfl rfl (by decide) ?_ | refine pn_iinc (q := 76) (mm := 1) dX7_take_73 rfl rfl (by decide) (by decide) ?_
        refine pn_goto (q := 45) dX7_take_76 (by decide) ?_
        exact ih (m + 1) (by omega)
  refine pn_aload_n (q := 1) dX7_take_0 rfl rfl rfl ?_
  refine pn_iconst (q := 2) (v := nI 0) dX7_take_1 rfl (by decide) ?_
  (refine pn_put (q := 5) fX7_63 dX7_take_2 rfl rfl (Nat.le_of_ble_eq_true rfl) (pnF_int _) ?_)
  refine pn_eq (h' := (hM Y P (0, a.2) b c e f g h)) (st' := _) rfl rfl ?_
  refine pn_aload_n (q := 6) dX7_take_5 rfl rfl rfl ?_
  refine pn_aload_n (q := 7) dX7_take_6 rfl rfl rfl ?_
  refine pn_iload_n (q := 8) dX7_take_7 rfl rfl ?_
  refine pn_idV (q := 11) (bc9 := 0) (bs9 := 0) (Cx) lkX7_275 dX7_take_8 rfl rfl (hM_cl) (hM_cl) (Nat.le_of_ble_eq_true rfl) rfl rfl rfl rfl rfl rfl (by omega) (by omega) (by omega) (Nat.le_of_ble_eq_true rfl) ?_
  refine pn_bne (q := 14) (tgt := 18) dX7_take_11 (by decide) rfl (fun hc11 => ?_) (fun hc11 => ?_)
  · refine pn_iconst (q := 19) (v := nB false) dX7_take_18 rfl (by decide) ?_
    refine pn_iconst (q := 20) (v := nI 1) dX7_take_19 rfl (by decide) ?_
    refine pn_iconst (q := 21) (v := nI 0) dX7_take_20 rfl (by decide) ?_
    refine pn_idV (q := 24) (bc9 := 0) (bs9 := 0) (m_badF adK d Y P (0, a.2) b c e f g h 1 0 rfl) lkX7_206 dX7_take_21 rfl rfl (hM_cl) (hM_cl) (Nat.le_of_ble_eq_true rfl) rfl rfl rfl rfl rfl rfl (by omega) (by omega) (by omega) (Nat.le_of_ble_eq_true rfl) ?_
    refine pn_beq (q := 27) (tgt := 29) dX7_take_24 (by decide) rfl (fun hc24 => ?_) (fun hc24 => ?_)
    · refine pn_aload_n (q := 30) dX7_take_29 rfl rfl rfl ?_
      refine pn_idV (q := 33) (bc9 := 0) (bs9 := 0) (m_remembers adK d Y P (0, a.2) b c e f g h ha) lkX7_218 dX7_take_30 rfl rfl (hM_cl) (hM_cl) (Nat.le_of_ble_eq_true rfl) rfl rfl rfl rfl rfl rfl (by omega) (by omega) (by omega) (Nat.le_of_ble_eq_true rfl) ?_
      refine pn_aload_n (q := 34) dX7_take_33 rfl rfl rfl ?_
      refine pn_get (q := 37) fX7_20 dX7_take_34 rfl rfl rfl ?_
      refine pn_iconst (q := 38) (v := nI 3) dX7_take_37 rfl (by decide) ?_
      first | refine pn_dup2 (q := 39) dX7_take_38 rfl rfl rfl ?_ | refine pn_dup2l (q := 39) dX7_take_38 rfl ?_
      refine pn_lald1 (q := 40) dX7_take_39 rfl rfl rfl (by omega) (by decide) ?_; refine pn_eq (h' := _) (st' := .long (lN Y.2.2.2.2.1) :: _) rfl rfl ?_
      refine pn_lconst (q := 41) (v := lN 1) dX7_take_40 rfl (by decide) ?_
      refine pn_lsubN (q := 42) dX7_take_41 rfl (by omega) ?_
      refine pn_last1 (q := 43) dX7_take_42 rfl rfl rfl (by omega) (by decide) ?_; refine pn_eq (h' := hM (yP Y (Y.2.2.2.2.1 - 1) (shN Y.2.2.2.2.2.2.1 p 0)) (keP P Y a.2.2.2.2) (keB ((0, a.2) : G0)) b c e f g h) (st' := _) (by rw [nowF_pc]; rfl) rfl ?_
      refine pn_iload_n (q := 44) dX7_take_43 rfl rfl ?_
      refine pn_istore_n (q := 45) dX7_take_44 rfl (by decide) ?_
      exact loop (Y.2.2.2.2.1 - 1 - p) 0 (by omega)
    · cases hc24
  · cases hc11
