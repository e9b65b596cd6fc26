/-! feed -/
def mfB (v : Int32) (s : Nat) : Int32 := (v >>> (nI s &&& 31)) &&& nI 255
def xkI (x1 x2 x3 x4 x5 : Int32) (k : Nat) : Int32 := if k < 4 then x1 else if k < 8 then x2 else if k < 12 then x3 else if k < 16 then x4 else x5
def mfd (F : Nat → Int32) (t : Nat) (x1 x2 x3 x4 x5 : Int32) : Nat → Nat → Int32
  | 0 => F
  | k + 1 => upd (mfd F t x1 x2 x3 x4 x5 k) (t + k) (mfB (xkI x1 x2 x3 x4 x5 k) (24 - 8 * (k % 4)))
abbrev feB (b : G1) (F : Nat → Int32) : G1 := (b.1, b.2.1, b.2.2.1, b.2.2.2.1, F, b.2.2.2.2.2)
set_option maxRecDepth 100000 in
theorem m_feed (adK : Nat → Nat) (d : Nat) (Y : MN) (P : Nat → MN) (a : G0) (b : G1) (c : G3) (e : G4) (f : G5) (g : G6) (h : G7) (x1 x2 x3 x4 x5 : Int32) (ht : a.2.2.1 + 20 ≤ 300) : pnCt mX7_feed adK (d + 1) 0 0 [.ref 0, .int x1, .int x2, .int x3, .int x4, .int x5] (hM Y P a b c e f g h) (pnIs (.inl (some (.int (nI (a.2.2.1 + 20))))) (hM Y P (0, a.2.1, a.2.2.1 + 20, a.2.2.2) (feB b (mfd b.2.2.2.2.1 a.2.2.1 x1 x2 x3 x4 x5 20)) c e f g h)) := by
  refine pnCt_of (by decide) kX7_feed (Nat.le_of_ble_eq_true rfl) rfl hM_cl (pnCS_b rfl) ?_
  have loop : ∀ (z k : Nat), k + z = 20 → pnWP mX7_feed adK (d + 1) (pnIs (.inl (some (.int (nI (a.2.2.1 + 20))))) (hM Y P (0, a.2.1, a.2.2.1 + 20, a.2.2.2) (feB b (mfd b.2.2.2.2.1 a.2.2.1 x1 x2 x3 x4 x5 20)) c e f g h)) 0 0 (hM Y P (0, a.2.1, a.2.2.1 + k, a.2.2.2) (feB b (mfd b.2.2.2.2.1 a.2.2.1 x1 x2 x3 x4 x5 k)) c e f g h) [some (.ref 0), some (.int x1), some (.int x2), some (.int x3), some (.int x4), some (.int x5), some (.int (nI k))] [] 23 := by
    intro z
    induction z with
    | zero =>
      intro k hk
      have hk20 : k = 20 := by omega
      subst hk20
      refine pn_iload (q := 25) dX7_feed_23 rfl rfl ?_
      refine pn_bipush (q := 27) (v := nI 20) dX7_feed_25 rfl (by decide) ?_
      first | refine pn_nge (q := 30) (tgt := 120) dX7_feed_27 (by decide) rfl (by omega) (by omega) (fun hc27 => ?_) (fun hc27 => ?_) | refine pn_icmp_ge (q := 30) (tgt := 120) dX7_feed_27 (by decide) rfl (fun hc27 => ?_) (fun hc27 => ?_)
      · refine pn_aload_n (q := 121) dX7_feed_120 rfl rfl rfl ?_
        refine pn_get (q := 124) fX7_66 dX7_feed_121 rfl rfl rfl ?_
        refine pn_iret dX7_feed_124 rfl ?_
        exact ⟨rfl, rfl⟩
      · omega
    | succ z ih =>
      intro k hk
      have hx : ∀ v, xkI x1 x2 x3 x4 x5 k = v → pnWP mX7_feed adK (d + 1) (pnIs (.inl (some (.int (nI (a.2.2.1 + 20))))) (hM Y P (0, a.2.1, a.2.2.1 + 20, a.2.2.2) (feB b (mfd b.2.2.2.2.1 a.2.2.1 x1 x2 x3 x4 x5 20)) c e f g h)) 0 0 (hM Y P (0, a.2.1, a.2.2.1 + k, a.2.2.2) (feB b (mfd b.2.2.2.2.1 a.2.2.1 x1 x2 x3 x4 x5 k)) c e f g h) [some (.ref 0), some (.int x1), some (.int x2), some (.int x3), some (.int x4), some (.int x5), some (.int (nI k))] [.int v] 76 := by
        intro v hv
        have e1 : mfd b.2.2.2.2.1 a.2.2.1 x1 x2 x3 x4 x5 (k + 1) = upd (mfd b.2.2.2.2.1 a.2.2.1 x1 x2 x3 x4 x5 k) (a.2.2.1 + k) (mfB v (24 - 8 * (k % 4))) := by rw [← hv]; rfl
        have k8 := ih (k + 1) (by omega)
        rw [e1] at k8
        refine pn_istore (q := 78) dX7_feed_76 rfl (by decide) ?_
        refine pn_aload_n (q := 79) dX7_feed_78 rfl rfl rfl ?_
        refine pn_get (q := 82) fX7_17 dX7_feed_79 rfl rfl rfl ?_
        refine pn_aload_n (q := 83) dX7_feed_82 rfl rfl rfl ?_
        (refine pn_get (q := 86) fX7_66 dX7_feed_83 rfl rfl rfl ?_)
        refine pn_eq (h' := _) (st' := .int (nI (a.2.2.1 + k)) :: _) rfl rfl ?_
        refine pn_iload (q := 88) dX7_feed_86 rfl rfl ?_
        refine pn_bipush (q := 90) (v := nI 24) dX7_feed_88 rfl (by decide) ?_
        refine pn_bipush (q := 92) (v := nI 8) dX7_feed_90 rfl (by decide) ?_
        refine pn_iload (q := 94) dX7_feed_92 rfl rfl ?_
        refine pn_iconst (q := 95) (v := nI 4) dX7_feed_94 rfl (by decide) ?_
        refine pn_iremN (q := 96) dX7_feed_95 rfl (by omega) ?_
        first | with_reducible refine pn_imulN (q := 97) dX7_feed_96 rfl ?_ | refine pn_imul (q := 97) dX7_feed_96 rfl ?_
        first | with_reducible refine pn_isubN (q := 98) dX7_feed_97 rfl (by omega) ?_ | refine pn_isub (q := 98) dX7_feed_97 rfl ?_
        refine pn_ishr (q := 99) dX7_feed_98 rfl ?_
        refine pn_sipush (q := 102) (v := nI 255) dX7_feed_99 rfl (by decide) ?_
        refine pn_iand (q := 103) dX7_feed_102 rfl ?_
        refine pn_iast (q := 104) dX7_feed_103 rfl rfl rfl (by omega) (by first | decide | omega) ?_
        refine pn_aload_n (q := 105) dX7_feed_104 rfl rfl rfl ?_
        refine pn_dup (q := 106) dX7_feed_105 rfl rfl ?_
        refine pn_get (q := 109) fX7_66 dX7_feed_106 rfl rfl rfl ?_
        refine pn_iconst (q := 110) (v := nI 1) dX7_feed_109 rfl (by decide) ?_
        first | with_reducible refine pn_iaddN (q := 111) dX7_feed_110 rfl ?_ | refine pn_iadd (q := 111) dX7_feed_110 rfl ?_
        refine pn_put (q := 114) fX7_66 dX7_feed_111 rfl rfl (Nat.le_of_ble_eq_true rfl) (pnF_int _) ?_
        first | refine pn_iinc1 (q := 117) dX7_feed_114 rfl rfl (by decide) ?_ | refine pn_iinc (q := 117) (mm := 1) dX7_feed_114 rfl rfl (by decide) (by decide) ?_
        refine pn_goto (q := 23) dX7_feed_117 (by decide) ?_
        exact pn_take 7 k8
      refine pn_iload (q := 25) dX7_feed_23 rfl rfl ?_
      refine pn_bipush (q := 27) (v := nI 20) dX7_feed_25 rfl (by decide) ?_
      first | refine pn_nge (q := 30) (tgt := 120) dX7_feed_27 (by decide) rfl (by omega) (by omega) (fun hc27 => ?_) (fun hc27 => ?_) | refine pn_icmp_ge (q := 30) (tgt := 120) dX7_feed_27 (by decide) rfl (fun hc27 => ?_) (fun hc27 => ?_)
      · omega
      · refine pn_iload (q := 32) dX7_feed_30 rfl rfl ?_
        refine pn_iconst (q := 33) (v := nI 4) dX7_feed_32 rfl (by decide) ?_
        first | refine pn_nge (q := 36) (tgt := 40) dX7_feed_33 (by decide) rfl (by omega) (by omega) (fun hc33 => ?_) (fun hc33 => ?_) | refine pn_icmp_ge (q := 36) (tgt := 40) dX7_feed_33 (by decide) rfl (fun hc33 => ?_) (fun hc33 => ?_)
        · refine pn_iload (q := 42) dX7_feed_40 rfl rfl ?_
          refine pn_bipush (q := 44) (v := nI 8) dX7_feed_42 rfl (by decide) ?_
          first | refine pn_nge (q := 47) (tgt := 51) dX7_feed_44 (by decide) rfl (by omega) (by omega) (fun hc44 => ?_) (fun hc44 => ?_) | refine pn_icmp_ge (q := 47) (tgt := 51) dX7_feed_44 (by decide) rfl (fun hc44 => ?_) (fun hc44 => ?_)
          · refine pn_iload (q := 53) dX7_feed_51 rfl rfl ?_
            refine pn_bipush (q := 55) (v := nI 12) dX7_feed_53 rfl (by decide) ?_
            first | refine pn_nge (q := 58) (tgt := 62) dX7_feed_55 (by decide) rfl (by omega) (by omega) (fun hc55 => ?_) (fun hc55 => ?_) | refine pn_icmp_ge (q := 58) (tgt := 62) dX7_feed_55 (by decide) rfl (fun hc55 => ?_) (fun hc55 => ?_)
            · refine pn_iload (q := 64) dX7_feed_62 rfl rfl ?_
              refine pn_bipush (q := 66) (v := nI 16) dX7_feed_64 rfl (by decide) ?_
              first | refine pn_nge (q := 69) (tgt := 74) dX7_feed_66 (by decide) rfl (by omega) (by omega) (fun hc66 => ?_) (fun hc66 => ?_) | refine pn_icmp_ge (q := 69) (tgt := 74) dX7_feed_66 (by decide) rfl (fun hc66 => ?_) (fun hc66 => ?_)
              · refine pn_iload (q := 76) dX7_feed_74 rfl rfl ?_
                exact hx _ (by unfold xkI; first | rw [if_pos (by omega)] | rw [if_neg (by omega), if_pos (by omega)] | rw [if_neg (by omega), if_neg (by omega), if_pos (by omega)] | rw [if_neg (by omega), if_neg (by omega), if_neg (by omega), if_pos (by omega)] | rw [if_neg (by omega), if_neg (by omega), if_neg (by omega), if_neg (by omega)])
              · refine pn_iload (q := 71) dX7_feed_69 rfl rfl ?_
                refine pn_goto (q := 76) dX7_feed_71 (by decide) ?_
                exact hx _ (by unfold xkI; first | rw [if_pos (by omega)] | rw [if_neg (by omega), if_pos (by omega)] | rw [if_neg (by omega), if_neg (by omega), if_pos (by omega)] | rw [if_neg (by omega), if_neg (by omega), if_neg (by omega), if_pos (by omega)] | rw [if_neg (by omega), if_neg (by omega), if_neg (by omega), if_neg (by omega)])
            · refine pn_iload_n (q := 59) dX7_feed_58 rfl rfl ?_
              refine pn_goto (q := 76) dX7_feed_59 (by decide) ?_
              exact hx _ (by unfold xkI; first | rw [if_pos (by omega)] | rw [if_neg (by omega), if_pos (by omega)] | rw [if_neg (by omega), if_neg (by omega), if_pos (by omega)] | rw [if_neg (by omega), if_neg (by omega), if_neg (by omega), if_pos (by omega)] | rw [if_neg (by omega), if_neg (by omega), if_neg (by omega), if_neg (by omega)])
          · refine pn_iload_n (q := 48) dX7_feed_47 rfl rfl ?_
            refine pn_goto (q := 76) dX7_feed_48 (by decide) ?_
            exact hx _ (by unfold xkI; first | rw [if_pos (by omega)] | rw [if_neg (by omega), if_pos (by omega)] | rw [if_neg (by omega), if_neg (by omega), if_pos (by omega)] | rw [if_neg (by omega), if_neg (by omega), if_neg (by omega), if_pos (by omega)] | rw [if_neg (by omega), if_neg (by omega), if_neg (by omega), if_neg (by omega)])
        · refine pn_iload_n (q := 37) dX7_feed_36 rfl rfl ?_
          refine pn_goto (q := 76) dX7_feed_37 (by decide) ?_
          exact hx _ (by unfold xkI; first | rw [if_pos (by omega)] | rw [if_neg (by omega), if_pos (by omega)] | rw [if_neg (by omega), if_neg (by omega), if_pos (by omega)] | rw [if_neg (by omega), if_neg (by omega), if_neg (by omega), if_pos (by omega)] | rw [if_neg (by omega), if_neg (by omega), if_neg (by omega), if_neg (by omega)])
  refine pn_aload_n (q := 1) dX7_feed_0 rfl rfl rfl ?_
  refine pn_iconst (q := 2) (v := nI 0) dX7_feed_1 rfl (by decide) ?_
  (refine pn_put (q := 5) fX7_63 dX7_feed_2 rfl rfl (Nat.le_of_ble_eq_true rfl) (pnF_int _) ?_)
  refine pn_eq (h' := (hM Y P (0, a.2) b c e f g h)) (st' := _) rfl rfl ?_
  refine pn_aload_n (q := 6) dX7_feed_5 rfl rfl rfl ?_
  (refine pn_get (q := 9) fX7_66 dX7_feed_6 rfl rfl rfl ?_)
  refine pn_eq (h' := _) (st' := .int (nI a.2.2.1) :: _) rfl rfl ?_
  refine pn_bipush (q := 11) (v := nI 20) dX7_feed_9 rfl (by decide) ?_
  first | with_reducible refine pn_iaddN (q := 12) dX7_feed_11 rfl ?_ | refine pn_iadd (q := 12) dX7_feed_11 rfl ?_
  refine pn_sipush (q := 15) (v := nI 300) dX7_feed_12 rfl (by decide) ?_
  first | refine pn_nle (q := 18) (tgt := 20) dX7_feed_15 (by decide) rfl (by omega) (by omega) (fun hc15 => ?_) (fun hc15 => ?_) | refine pn_icmp_le (q := 18) (tgt := 20) dX7_feed_15 (by decide) rfl (fun hc15 => ?_) (fun hc15 => ?_)
  · refine pn_iconst (q := 21) (v := nI 0) dX7_feed_20 rfl (by decide) ?_
    refine pn_istore (q := 23) dX7_feed_21 rfl (by decide) ?_
    exact loop 20 0 (by omega)
  · omega
set_option maxRecDepth 100000 in
theorem m_feedNo (adK : Nat → Nat) (d : Nat) (Y : MN) (P : Nat → MN) (a : G0) (b : G1) (c : G3) (e : G4) (f : G5) (g : G6) (h : G7) (x1 x2 x3 x4 x5 : Int32) (ht : 300 < a.2.2.1 + 20) (ht2 : a.2.2.1 ≤ 300) : pnCt mX7_feed adK (d + 1) 0 0 [.ref 0, .int x1, .int x2, .int x3, .int x4, .int x5] (hM Y P a b c e f g h) (pnIs (.inl (some (.int (-1)))) (hM Y P (0, a.2) b c e f g h)) := by
  refine pnCt_of (by decide) kX7_feed (Nat.le_of_ble_eq_true rfl) rfl hM_cl (pnCS_b rfl) ?_
  refine pn_aload_n (q := 1) dX7_feed_0 rfl rfl rfl ?_
  refine pn_iconst (q := 2) (v := nI 0) dX7_feed_1 rfl (by decide) ?_
  (refine pn_put (q := 5) fX7_63 dX7_feed_2 rfl rfl (Nat.le_of_ble_eq_true rfl) (pnF_int _) ?_)
  refine pn_eq (h' := (hM Y P (0, a.2) b c e f g h)) (st' := _) rfl rfl ?_
  refine pn_aload_n (q := 6) dX7_feed_5 rfl rfl rfl ?_
  (refine pn_get (q := 9) fX7_66 dX7_feed_6 rfl rfl rfl ?_)
  refine pn_eq (h' := _) (st' := .int (nI a.2.2.1) :: _) rfl rfl ?_
  refine pn_bipush (q := 11) (v := nI 20) dX7_feed_9 rfl (by decide) ?_
  first | with_reducible refine pn_iaddN (q := 12) dX7_feed_11 rfl ?_ | refine pn_iadd (q := 12) dX7_feed_11 rfl ?_
  refine pn_sipush (q := 15) (v := nI 300) dX7_feed_12 rfl (by decide) ?_
  first | refine pn_nle (q := 18) (tgt := 20) dX7_feed_15 (by decide) rfl (by omega) (by omega) (fun hc15 => ?_) (fun hc15 => ?_) | refine pn_icmp_le (q := 18) (tgt := 20) dX7_feed_15 (by decide) rfl (fun hc15 => ?_) (fun hc15 => ?_)
  · omega
  · refine pn_iconst (q := 19) (v := (-1)) dX7_feed_18 rfl (by decide) ?_
    refine pn_iret dX7_feed_19 rfl ?_
    exact ⟨rfl, rfl⟩
