/-! put -/
def xpI (x1 x2 x3 x4 x5 : Int32) (k : Nat) : Int32 := if k = 0 then x1 else if k = 1 then x2 else if k = 2 then x3 else if k = 3 then x4 else x5
def pvO (x : Nat → Int32) : Nat → Bool
  | 0 => false
  | k + 1 => pvO x k || decide (x k = -1)
def pvI (x : Nat → Int32) : Nat → Bool
  | 0 => true
  | k + 1 => pvI x k && (!pvO x k || decide (x k = -1))
def pvC (c : G3) (x : Nat → Int32) : Nat → G3
  | 0 => (c.1, 0)
  | k + 1 => if pvO x (k + 1) = true then pvC c x k else (upd (pvC c x k).1 (pvC c x k).2 (x k), (pvC c x k).2 + 1)
theorem pvC_le (c : G3) (x : Nat → Int32) : ∀ k, (pvC c x k).2 ≤ k
  | 0 => Nat.le_refl _
  | k + 1 => by
    have := pvC_le c x k
    unfold pvC
    split
    · omega
    · show (pvC c x k).2 + 1 ≤ k + 1
      omega
/-- what put's nodes tell: as long as no node follows behind the first -1 -/
def pvX (n sh k : Nat) (c : G3) (x : Nat → Int32) : Int64 := if pvI x 5 = true then lpN n sh k (pvC c x 5).1 0 (pvC c x 5).2 else lN 0
set_option maxRecDepth 100000 in
theorem m_putH {Q : pnR → List pnE → Prop} (adK : Nat → Nat) (d : Nat) (Y : MN) (P : Nat → MN) (a : G0) (b : G1) (c : G3) (e : G4) (f : G5) (g : G6) (h : G7) (x1 x2 x3 x4 x5 : Int32) (hS : shOk Y.2.2.1 Y.2.2.2.1) (hn : Y.1 ≤ 11) (hn1 : 1 ≤ Y.1) (kk : ∀ o i : Bool, pnWP mX7_put adK (d + 3) Q 0 0 (hM Y P (0, a.2) b (pvC c (xpI x1 x2 x3 x4 x5) 5) e f g h) [some (.ref 0), some (.int x1), some (.int x2), some (.int x3), some (.int x4), some (.int x5), some (.int (nB o)), some (.int (nB i)), some (.long (pvX Y.1 Y.2.2.1 Y.2.2.2.1 c (xpI x1 x2 x3 x4 x5)))] [] 164) : pnWP mX7_put adK (d + 3) Q 0 0 (hM Y P a b c e f g h) [some (.ref 0), some (.int x1), some (.int x2), some (.int x3), some (.int x4), some (.int x5)] [] 0 := by
  have loop : ∀ (z k : Nat), k + z = 5 → pnWP mX7_put adK (d + 3) Q 0 0 (hM Y P (0, a.2) b (pvC c (xpI x1 x2 x3 x4 x5) k) e f g h) [some (.ref 0), some (.int x1), some (.int x2), some (.int x3), some (.int x4), some (.int x5), some (.int (nB (pvO (xpI x1 x2 x3 x4 x5) k))), some (.int (nB (pvI (xpI x1 x2 x3 x4 x5) k))), some (.int (nI k))] [] 19 := by
    intro z
    induction z with
    | zero =>
      intro k hk
      have hk5 : k = 5 := by omega
      subst hk5
      have hc5 := pvC_le c (xpI x1 x2 x3 x4 x5) 5
      have k9 := kk (pvO (xpI x1 x2 x3 x4 x5) 5) (pvI (xpI x1 x2 x3 x4 x5) 5)
      cases hi : pvI (xpI x1 x2 x3 x4 x5) 5 with
      | false =>
        rw [hi] at k9
        rw [show (pvX Y.1 Y.2.2.1 Y.2.2.2.1 c (xpI x1 x2 x3 x4 x5)) = lN 0 by unfold pvX; rw [hi]; rfl] at k9
        refine pn_iload (q := 21) dX7_put_19 rfl rfl ?_
        refine pn_iconst (q := 22) (v := nI 5) dX7_put_21 rfl (by decide) ?_
        first | refine pn_nge (q := 25) (tgt := 145) dX7_put_22 (by decide) rfl (by omega) (by omega) (fun hc22 => ?_) (fun hc22 => ?_) | refine pn_icmp_ge (q := 25) (tgt := 145) dX7_put_22 (by decide) rfl (fun hc22 => ?_) (fun hc22 => ?_)
        · refine pn_iload (q := 147) dX7_put_145 rfl rfl ?_
          refine pn_beq (q := 150) (tgt := 161) dX7_put_147 (by decide) rfl (fun hc147 => ?_) (fun hc147 => ?_)
          · refine pn_lconst (q := 162) (v := lN 0) dX7_put_161 rfl (by decide) ?_
            refine pn_lstore (q := 164) dX7_put_162 rfl (by decide) ?_
            exact k9
          · cases hc147
        · omega
      | true =>
        rw [hi] at k9
        rw [show (pvX Y.1 Y.2.2.1 Y.2.2.2.1 c (xpI x1 x2 x3 x4 x5)) = lpN Y.1 Y.2.2.1 Y.2.2.2.1 (pvC c (xpI x1 x2 x3 x4 x5) 5).1 0 (pvC c (xpI x1 x2 x3 x4 x5) 5).2 by unfold pvX; rw [hi]; rfl] at k9
        have CP := m_partOfN adK d Y P (0, a.2) b (pvC c (xpI x1 x2 x3 x4 x5) 5) e f g h Y.1 Y.2.2.1 Y.2.2.2.1 rfl rfl rfl hS hn hn1 hc5
        refine pn_iload (q := 21) dX7_put_19 rfl rfl ?_
        refine pn_iconst (q := 22) (v := nI 5) dX7_put_21 rfl (by decide) ?_
        first | refine pn_nge (q := 25) (tgt := 145) dX7_put_22 (by decide) rfl (by omega) (by omega) (fun hc22 => ?_) (fun hc22 => ?_) | refine pn_icmp_ge (q := 25) (tgt := 145) dX7_put_22 (by decide) rfl (fun hc22 => ?_) (fun hc22 => ?_)
        · refine pn_iload (q := 147) dX7_put_145 rfl rfl ?_
          refine pn_beq (q := 150) (tgt := 161) dX7_put_147 (by decide) rfl (fun hc147 => ?_) (fun hc147 => ?_)
          · cases hc147
          · refine pn_aload_n (q := 151) dX7_put_150 rfl rfl rfl ?_
            refine pn_aload_n (q := 152) dX7_put_151 rfl rfl rfl ?_
            refine pn_get (q := 155) fX7_20 dX7_put_152 rfl rfl rfl ?_
            refine pn_idV (q := 158) (bc9 := 0) (bs9 := 0) (CP) lkX7_202 dX7_put_155 rfl rfl (hM_cl) (hM_cl) (Nat.le_of_ble_eq_true rfl) rfl rfl rfl rfl rfl rfl (by omega) (by omega) (by omega) (Nat.le_of_ble_eq_true rfl) ?_
            refine pn_goto (q := 162) dX7_put_158 (by decide) ?_
            refine pn_lstore (q := 164) dX7_put_162 rfl (by decide) ?_
            exact k9
        · omega
    | succ z ih =>
      intro k hk
      have k19 := ih (k + 1) (by omega)
      have hck := pvC_le c (xpI x1 x2 x3 x4 x5) k
      have key : ∀ v, (xpI x1 x2 x3 x4 x5) k = v → pnWP mX7_put adK (d + 3) Q 0 0 (hM Y P (0, a.2) b (pvC c (xpI x1 x2 x3 x4 x5) k) e f g h) [some (.ref 0), some (.int x1), some (.int x2), some (.int x3), some (.int x4), some (.int x5), some (.int (nB (pvO (xpI x1 x2 x3 x4 x5) k))), some (.int (nB (pvI (xpI x1 x2 x3 x4 x5) k))), some (.int (nI k))] [.int v] 67 := by
        intro v hv
        have eo : pvO (xpI x1 x2 x3 x4 x5) (k + 1) = (pvO (xpI x1 x2 x3 x4 x5) k || decide (v = -1)) := by rw [← hv]; rfl
        have ei : pvI (xpI x1 x2 x3 x4 x5) (k + 1) = (pvI (xpI x1 x2 x3 x4 x5) k && (!pvO (xpI x1 x2 x3 x4 x5) k || decide (v = -1))) := by rw [← hv]; rfl
        have ec : pvC c (xpI x1 x2 x3 x4 x5) (k + 1) = if pvO (xpI x1 x2 x3 x4 x5) (k + 1) = true then pvC c (xpI x1 x2 x3 x4 x5) k else (upd (pvC c (xpI x1 x2 x3 x4 x5) k).1 (pvC c (xpI x1 x2 x3 x4 x5) k).2 v, (pvC c (xpI x1 x2 x3 x4 x5) k).2 + 1) := by rw [← hv]; rfl
        rw [ec, eo, ei] at k19
        have k108 : ∀ o', o' = (pvO (xpI x1 x2 x3 x4 x5) k || decide (v = -1)) → pnWP mX7_put adK (d + 3) Q 0 0 (hM Y P (0, a.2) b (pvC c (xpI x1 x2 x3 x4 x5) k) e f g h) [some (.ref 0), some (.int x1), some (.int x2), some (.int x3), some (.int x4), some (.int x5), some (.int (nB (pvO (xpI x1 x2 x3 x4 x5) k))), some (.int (nB (pvI (xpI x1 x2 x3 x4 x5) k && (!pvO (xpI x1 x2 x3 x4 x5) k || decide (v = -1))))), some (.int (nI k)), some (.int v)] [.int (nB o')] 108 := by
          intro o' ho
          rw [← ho] at k19
          cases o' with
          | true =>
            refine pn_istore (q := 110) dX7_put_108 rfl (by decide) ?_
            refine pn_iload (q := 112) dX7_put_110 rfl rfl ?_
            refine pn_beq (q := 115) (tgt := 118) dX7_put_112 (by decide) rfl (fun hc112 => ?_) (fun hc112 => ?_)
            · cases hc112
            · refine pn_goto (q := 139) dX7_put_115 (by decide) ?_
              first | refine pn_iinc1 (q := 142) dX7_put_139 rfl rfl (by decide) ?_ | refine pn_iinc (q := 142) (mm := 1) dX7_put_139 rfl rfl (by decide) (by decide) ?_
              refine pn_goto (q := 19) dX7_put_142 (by decide) ?_
              exact pn_take 9 k19
          | false =>
            refine pn_istore (q := 110) dX7_put_108 rfl (by decide) ?_
            refine pn_iload (q := 112) dX7_put_110 rfl rfl ?_
            refine pn_beq (q := 115) (tgt := 118) dX7_put_112 (by decide) rfl (fun hc112 => ?_) (fun hc112 => ?_)
            · refine pn_aload_n (q := 119) dX7_put_118 rfl rfl rfl ?_
              refine pn_get (q := 122) fX7_32 dX7_put_119 rfl rfl rfl ?_
              refine pn_aload_n (q := 123) dX7_put_122 rfl rfl rfl ?_
              refine pn_get (q := 126) fX7_85 dX7_put_123 rfl rfl rfl ?_
              refine pn_iload (q := 128) dX7_put_126 rfl rfl ?_
              refine pn_iast (q := 129) dX7_put_128 rfl rfl rfl (by omega) (by first | decide | omega) ?_
              refine pn_aload_n (q := 130) dX7_put_129 rfl rfl rfl ?_
              refine pn_dup (q := 131) dX7_put_130 rfl rfl ?_
              refine pn_get (q := 134) fX7_85 dX7_put_131 rfl rfl rfl ?_
              refine pn_iconst (q := 135) (v := nI 1) dX7_put_134 rfl (by decide) ?_
              first | with_reducible refine pn_iaddN (q := 136) dX7_put_135 rfl ?_ | refine pn_iadd (q := 136) dX7_put_135 rfl ?_
              refine pn_put (q := 139) fX7_85 dX7_put_136 rfl rfl (Nat.le_of_ble_eq_true rfl) (pnF_int _) ?_
              first | refine pn_iinc1 (q := 142) dX7_put_139 rfl rfl (by decide) ?_ | refine pn_iinc (q := 142) (mm := 1) dX7_put_139 rfl rfl (by decide) (by decide) ?_
              refine pn_goto (q := 19) dX7_put_142 (by decide) ?_
              exact pn_take 9 k19
            · cases hc112
        have k90 : ∀ i', i' = (pvI (xpI x1 x2 x3 x4 x5) k && (!pvO (xpI x1 x2 x3 x4 x5) k || decide (v = -1))) → pnWP mX7_put adK (d + 3) Q 0 0 (hM Y P (0, a.2) b (pvC c (xpI x1 x2 x3 x4 x5) k) e f g h) [some (.ref 0), some (.int x1), some (.int x2), some (.int x3), some (.int x4), some (.int x5), some (.int (nB (pvO (xpI x1 x2 x3 x4 x5) k))), some (.int (nB (pvI (xpI x1 x2 x3 x4 x5) k))), some (.int (nI k)), some (.int v)] [.int (nB i')] 90 := by
          intro i' hi
          rw [← hi] at k108
          refine pn_istore (q := 92) dX7_put_90 rfl (by decide) ?_
          refine pn_iload (q := 94) dX7_put_92 rfl rfl ?_
          refine pn_bne (q := 97) (tgt := 103) dX7_put_94 (by decide) rfl (fun hc94 => ?_) (fun hc94 => ?_)
          · refine pn_iconst (q := 104) (v := nB true) dX7_put_103 rfl (by decide) ?_
            refine pn_goto (q := 108) dX7_put_104 (by decide) ?_
            (first | (refine k108 true ?_; simp [hc94]; done) | (refine k108 true ?_; simp [hc94, hc100]; done) | (refine k108 false ?_; simp [hc94, hc100]; done))
          · refine pn_iload (q := 99) dX7_put_97 rfl rfl ?_
            refine pn_iconst (q := 100) (v := (-1)) dX7_put_99 rfl (by decide) ?_
            refine pn_icmp_ne (q := 103) (tgt := 107) dX7_put_100 (by decide) rfl (fun hc100 => ?_) (fun hc100 => ?_)
            · refine pn_iconst (q := 108) (v := nB false) dX7_put_107 rfl (by decide) ?_
              (first | (refine k108 true ?_; simp [hc94]; done) | (refine k108 true ?_; simp [hc94, hc100]; done) | (refine k108 false ?_; simp [hc94, hc100]; done))
            · refine pn_iconst (q := 104) (v := nB true) dX7_put_103 rfl (by decide) ?_
              refine pn_goto (q := 108) dX7_put_104 (by decide) ?_
              (first | (refine k108 true ?_; simp [hc94]; done) | (refine k108 true ?_; simp [hc94, hc100]; done) | (refine k108 false ?_; simp [hc94, hc100]; done))
        refine pn_istore (q := 69) dX7_put_67 rfl (by decide) ?_
        refine pn_iload (q := 71) dX7_put_69 rfl rfl ?_
        refine pn_beq (q := 74) (tgt := 89) dX7_put_71 (by decide) rfl (fun hc71 => ?_) (fun hc71 => ?_)
        · refine pn_iconst (q := 90) (v := nB false) dX7_put_89 rfl (by decide) ?_
          (first | (refine k90 false ?_; simp [hc71]; done) | (refine k90 true ?_; simp [hc71, hc76]; done) | (refine k90 true ?_; simp [hc71, hc76, hc82]; done) | (refine k90 false ?_; simp [hc71, hc76, hc82]; done))
        · refine pn_iload (q := 76) dX7_put_74 rfl rfl ?_
          refine pn_beq (q := 79) (tgt := 85) dX7_put_76 (by decide) rfl (fun hc76 => ?_) (fun hc76 => ?_)
          · refine pn_iconst (q := 86) (v := nB true) dX7_put_85 rfl (by decide) ?_
            refine pn_goto (q := 90) dX7_put_86 (by decide) ?_
            (first | (refine k90 false ?_; simp [hc71]; done) | (refine k90 true ?_; simp [hc71, hc76]; done) | (refine k90 true ?_; simp [hc71, hc76, hc82]; done) | (refine k90 false ?_; simp [hc71, hc76, hc82]; done))
          · refine pn_iload (q := 81) dX7_put_79 rfl rfl ?_
            refine pn_iconst (q := 82) (v := (-1)) dX7_put_81 rfl (by decide) ?_
            refine pn_icmp_ne (q := 85) (tgt := 89) dX7_put_82 (by decide) rfl (fun hc82 => ?_) (fun hc82 => ?_)
            · refine pn_iconst (q := 90) (v := nB false) dX7_put_89 rfl (by decide) ?_
              (first | (refine k90 false ?_; simp [hc71]; done) | (refine k90 true ?_; simp [hc71, hc76]; done) | (refine k90 true ?_; simp [hc71, hc76, hc82]; done) | (refine k90 false ?_; simp [hc71, hc76, hc82]; done))
            · refine pn_iconst (q := 86) (v := nB true) dX7_put_85 rfl (by decide) ?_
              refine pn_goto (q := 90) dX7_put_86 (by decide) ?_
              (first | (refine k90 false ?_; simp [hc71]; done) | (refine k90 true ?_; simp [hc71, hc76]; done) | (refine k90 true ?_; simp [hc71, hc76, hc82]; done) | (refine k90 false ?_; simp [hc71, hc76, hc82]; done))
      refine pn_iload (q := 21) dX7_put_19 rfl rfl ?_
      refine pn_iconst (q := 22) (v := nI 5) dX7_put_21 rfl (by decide) ?_
      first | refine pn_nge (q := 25) (tgt := 145) dX7_put_22 (by decide) rfl (by omega) (by omega) (fun hc22 => ?_) (fun hc22 => ?_) | refine pn_icmp_ge (q := 25) (tgt := 145) dX7_put_22 (by decide) rfl (fun hc22 => ?_) (fun hc22 => ?_)
      · omega
      · refine pn_iload (q := 27) dX7_put_25 rfl rfl ?_
        first | refine pn_zne (q := 30) (tgt := 34) dX7_put_27 (by decide) rfl (by omega) (fun hc27 => ?_) (fun hc27 => ?_) | refine pn_if_ne (q := 30) (tgt := 34) dX7_put_27 (by decide) rfl (fun hc27 => ?_) (fun hc27 => ?_)
        · refine pn_iload (q := 36) dX7_put_34 rfl rfl ?_
          refine pn_iconst (q := 37) (v := nI 1) dX7_put_36 rfl (by decide) ?_
          first | refine pn_nne (q := 40) (tgt := 44) dX7_put_37 (by decide) rfl (by omega) (by omega) (fun hc37 => ?_) (fun hc37 => ?_) | refine pn_icmp_ne (q := 40) (tgt := 44) dX7_put_37 (by decide) rfl (fun hc37 => ?_) (fun hc37 => ?_)
          · refine pn_iload (q := 46) dX7_put_44 rfl rfl ?_
            refine pn_iconst (q := 47) (v := nI 2) dX7_put_46 rfl (by decide) ?_
            first | refine pn_nne (q := 50) (tgt := 54) dX7_put_47 (by decide) rfl (by omega) (by omega) (fun hc47 => ?_) (fun hc47 => ?_) | refine pn_icmp_ne (q := 50) (tgt := 54) dX7_put_47 (by decide) rfl (fun hc47 => ?_) (fun hc47 => ?_)
            · refine pn_iload (q := 56) dX7_put_54 rfl rfl ?_
              refine pn_iconst (q := 57) (v := nI 3) dX7_put_56 rfl (by decide) ?_
              first | refine pn_nne (q := 60) (tgt := 65) dX7_put_57 (by decide) rfl (by omega) (by omega) (fun hc57 => ?_) (fun hc57 => ?_) | refine pn_icmp_ne (q := 60) (tgt := 65) dX7_put_57 (by decide) rfl (fun hc57 => ?_) (fun hc57 => ?_)
              · refine pn_iload (q := 67) dX7_put_65 rfl rfl ?_
                exact key _ (by unfold xpI; first | rw [if_pos (by omega)] | rw [if_neg (by omega), if_pos (by omega)] | rw [if_neg (by omega), if_neg (by omega), if_pos (by omega)] | rw [if_neg (by omega), if_neg (by omega), if_neg (by omega), if_pos (by omega)] | rw [if_neg (by omega), if_neg (by omega), if_neg (by omega), if_neg (by omega)])
              · refine pn_iload (q := 62) dX7_put_60 rfl rfl ?_
                refine pn_goto (q := 67) dX7_put_62 (by decide) ?_
                exact key _ (by unfold xpI; first | rw [if_pos (by omega)] | rw [if_neg (by omega), if_pos (by omega)] | rw [if_neg (by omega), if_neg (by omega), if_pos (by omega)] | rw [if_neg (by omega), if_neg (by omega), if_neg (by omega), if_pos (by omega)] | rw [if_neg (by omega), if_neg (by omega), if_neg (by omega), if_neg (by omega)])
            · refine pn_iload_n (q := 51) dX7_put_50 rfl rfl ?_
              refine pn_goto (q := 67) dX7_put_51 (by decide) ?_
              exact key _ (by unfold xpI; first | rw [if_pos (by omega)] | rw [if_neg (by omega), if_pos (by omega)] | rw [if_neg (by omega), if_neg (by omega), if_pos (by omega)] | rw [if_neg (by omega), if_neg (by omega), if_neg (by omega), if_pos (by omega)] | rw [if_neg (by omega), if_neg (by omega), if_neg (by omega), if_neg (by omega)])
          · refine pn_iload_n (q := 41) dX7_put_40 rfl rfl ?_
            refine pn_goto (q := 67) dX7_put_41 (by decide) ?_
            exact key _ (by unfold xpI; first | rw [if_pos (by omega)] | rw [if_neg (by omega), if_pos (by omega)] | rw [if_neg (by omega), if_neg (by omega), if_pos (by omega)] | rw [if_neg (by omega), if_neg (by omega), if_neg (by omega), if_pos (by omega)] | rw [if_neg (by omega), if_neg (by omega), if_neg (by omega), if_neg (by omega)])
        · refine pn_iload_n (q := 31) dX7_put_30 rfl rfl ?_
          refine pn_goto (q := 67) dX7_put_31 (by decide) ?_
          exact key _ (by unfold xpI; first | rw [if_pos (by omega)] | rw [if_neg (by omega), if_pos (by omega)] | rw [if_neg (by omega), if_neg (by omega), if_pos (by omega)] | rw [if_neg (by omega), if_neg (by omega), if_neg (by omega), if_pos (by omega)] | rw [if_neg (by omega), if_neg (by omega), if_neg (by omega), if_neg (by omega)])
  refine pn_aload_n (q := 1) dX7_put_0 rfl rfl rfl ?_
  refine pn_iconst (q := 2) (v := nI 0) dX7_put_1 rfl (by decide) ?_
  (refine pn_put (q := 5) fX7_63 dX7_put_2 rfl rfl (Nat.le_of_ble_eq_true rfl) (pnF_int _) ?_)
  refine pn_eq (h' := (hM Y P (0, a.2) b c e f g h)) (st' := _) rfl rfl ?_
  refine pn_aload_n (q := 6) dX7_put_5 rfl rfl rfl ?_
  refine pn_iconst (q := 7) (v := nI 0) dX7_put_6 rfl (by decide) ?_
  (refine pn_put (q := 10) fX7_85 dX7_put_7 rfl rfl (Nat.le_of_ble_eq_true rfl) (pnF_int _) ?_)
  refine pn_eq (h' := (hM Y P (0, a.2) b (pvC c (xpI x1 x2 x3 x4 x5) 0) e f g h)) (st' := _) rfl rfl ?_
  refine pn_iconst (q := 11) (v := nI 0) dX7_put_10 rfl (by decide) ?_
  refine pn_istore (q := 13) dX7_put_11 rfl (by decide) ?_
  refine pn_iconst (q := 14) (v := nI 1) dX7_put_13 rfl (by decide) ?_
  refine pn_istore (q := 16) dX7_put_14 rfl (by decide) ?_
  refine pn_iconst (q := 17) (v := nI 0) dX7_put_16 rfl (by decide) ?_
  refine pn_istore (q := 19) dX7_put_17 rfl (by decide) ?_
  exact loop 5 0 (by omega)
theorem hasN_neg1 (m : Nat) : hasN m (-1) = false := by
  unfold hasN
  apply decide_eq_false
  rw [show (-1 : Int32).toInt = -1 by decide]
  omega
/-- the class tells the same of put's nodes -/
theorem pv_inv (c : G3) (x : Nat → Int32) : ∀ k, (pvO x k = false → (pvC c x k).2 = k ∧ cntA x k = k) ∧ (pvO x k = true → (pvC c x k).2 < k ∧ x (pvC c x k).2 = -1 ∧ (pvI x k = true → cntA x k = (pvC c x k).2) ∧ (pvI x k = false → (pvC c x k).2 < cntA x k)) ∧ (pvO x k = false → pvI x k = true) ∧ (∀ j, j < (pvC c x k).2 → (pvC c x k).1 j = x j)
  | 0 => ⟨fun _ => ⟨rfl, rfl⟩, (fun q => by cases q), fun _ => rfl, fun j hj => absurd hj (Nat.not_lt_zero _)⟩
  | k + 1 => by
    obtain ⟨h1, h2, h3, h4⟩ := pv_inv c x k
    have eo : pvO x (k + 1) = (pvO x k || decide (x k = -1)) := rfl
    have ei : pvI x (k + 1) = (pvI x k && (!pvO x k || decide (x k = -1))) := rfl
    have en : cntA x (k + 1) = if x k = -1 then cntA x k else cntA x k + 1 := rfl
    have ec : pvC c x (k + 1) = if pvO x (k + 1) = true then pvC c x k else (upd (pvC c x k).1 (pvC c x k).2 (x k), (pvC c x k).2 + 1) := rfl
    cases ho : pvO x k with
    | true =>
      obtain ⟨g1, g2, g3, g4⟩ := h2 ho
      have ho1 : pvO x (k + 1) = true := by rw [eo, ho]; rfl
      rw [ho1] at ec ⊢
      rw [if_pos rfl] at ec
      rw [ec]
      refine ⟨(fun q => by cases q), fun _ => ⟨by omega, g2, ?_, ?_⟩, (fun q => by cases q), h4⟩
      · intro q
        rw [ei, ho] at q
        simp at q
        rw [en, if_pos q.2]
        exact g3 q.1
      · intro q
        rw [en]
        cases hi : pvI x k with
        | false =>
          have := g4 hi
          split <;> omega
        | true =>
          have := g3 hi
          rw [ei, ho, hi] at q
          simp at q
          rw [if_neg q]
          omega
    | false =>
      obtain ⟨g1, g2⟩ := h1 ho
      have hi := h3 ho
      by_cases hx : x k = -1
      · have ho1 : pvO x (k + 1) = true := by rw [eo, ho, decide_eq_true hx]; rfl
        have hi1 : pvI x (k + 1) = true := by rw [ei, ho, hi]; rfl
        rw [ho1] at ec ⊢
        rw [if_pos rfl] at ec
        rw [ec, hi1]
        refine ⟨(fun q => by cases q), fun _ => ⟨by omega, by rw [g1]; exact hx, ?_, (fun q => by cases q)⟩, fun _ => rfl, h4⟩
        intro _
        rw [en, if_pos hx]
        omega
      · have ho1 : pvO x (k + 1) = false := by rw [eo, ho, decide_eq_false hx]; rfl
        have hi1 : pvI x (k + 1) = true := by rw [ei, ho, hi]; rfl
        rw [ho1] at ec ⊢
        rw [if_neg Bool.false_ne_true] at ec
        rw [ec, hi1]
        refine ⟨fun _ => ⟨by show (pvC c x k).2 + 1 = k + 1; omega, by rw [en, if_neg hx]; omega⟩, (fun q => by cases q), fun _ => rfl, ?_⟩
        intro j hj
        show upd (pvC c x k).1 (pvC c x k).2 (x k) j = x j
        unfold upd
        have hj : j < (pvC c x k).2 + 1 := hj
        by_cases e : j = (pvC c x k).2
        · rw [if_pos e, e, g1]
        · rw [if_neg e]
          exact h4 j (by omega)
theorem cntA_congr {x y : Nat → Int32} : ∀ k, (∀ j, j < k → x j = y j) → cntA x k = cntA y k
  | 0, _ => rfl
  | k + 1, h => by
    unfold cntA
    rw [cntA_congr k (fun j hj => h j (by omega)), h k (by omega)]
theorem lpN_0 {n sh k : Nat} {row : Nat → Int32} {f c : Nat} (h : telN row f c (n - 1) = false) : lpN n sh k row f c = lN 0 := by
  unfold lpN
  rw [h, Bool.and_false]
  rfl
theorem pvX_eq {n sh k : Nat} (hS : shOk sh k) (c : G3) (x y : Nat → Int32) (hxy : ∀ j, j < 5 → x j = y j) : pvX n sh k c x = lpN n sh k y 0 (cntA y 5) := by
  obtain ⟨h1, h2, h3, h4⟩ := pv_inv c x 5
  rw [← cntA_congr 5 hxy]
  have hy : lpN n sh k y 0 (cntA x 5) = lpN n sh k x 0 (cntA x 5) := lpN_congr hS (fun j hj => by
    have := cntA_le x 5
    rw [Nat.zero_add]
    exact (hxy j (by omega)).symm)
  rw [hy]
  unfold pvX
  cases hi : pvI x 5 with
  | true =>
    rw [if_pos rfl]
    have e1 : cntA x 5 = (pvC c x 5).2 := by
      cases ho : pvO x 5 with
      | true => exact (h2 ho).2.2.1 hi
      | false => obtain ⟨q1, q2⟩ := h1 ho; omega
    rw [e1]
    exact lpN_congr hS (fun j hj => by rw [Nat.zero_add]; exact h4 j hj)
  | false =>
    rw [if_neg Bool.false_ne_true]
    cases ho : pvO x 5 with
    | false => rw [h3 ho] at hi; cases hi
    | true =>
      obtain ⟨g1, g2, g3, g4⟩ := h2 ho
      refine (lpN_0 (decide_eq_false (fun hh => ?_))).symm
      have := (hh _ (g4 hi)).1
      rw [Nat.zero_add, g2, hasN_neg1] at this
      cases this
set_option maxRecDepth 100000 in
theorem m_putXa (adK : Nat → Nat) (d : Nat) (Y : MN) (P : Nat → MN) (a : G0) (b : G1) (c : G3) (e : G4) (f : G5) (g : G6) (h : G7) (x1 x2 x3 x4 x5 : Int32) (hS : shOk Y.2.2.1 Y.2.2.2.1) (hn : Y.1 ≤ 11) (hn1 : 1 ≤ Y.1) (hpc : Y.2.2.2.2.1 ≤ 60) (h0 : (pvX Y.1 Y.2.2.1 Y.2.2.2.1 c (xpI x1 x2 x3 x4 x5)) = lN 0) : pnCt mX7_put adK (d + 3) 0 0 [.ref 0, .int x1, .int x2, .int x3, .int x4, .int x5] (hM Y P a b c e f g h) (pnIs (.inl (some (.int (nI 0)))) (hM Y P (bdA (0, a.2) 1 1) b (pvC c (xpI x1 x2 x3 x4 x5) 5) e f g h)) := by
  refine pnCt_of (by decide) kX7_put (Nat.le_of_ble_eq_true rfl) rfl hM_cl (pnCS_b rfl) ?_
  refine m_putH adK d Y P a b c e f g h x1 x2 x3 x4 x5 hS hn hn1 (fun o i => ?_)
  rw [h0]
  refine pn_aload_n (q := 165) dX7_put_164 rfl rfl rfl ?_
  refine pn_lload (q := 167) dX7_put_165 rfl rfl ?_
  refine pn_lconst (q := 168) (v := lN 0) dX7_put_167 rfl (by decide) ?_
  refine pn_lne (q1 := 169) (q := 172) (tgt := 176) dX7_put_168 rfl dX7_put_169 (by decide) rfl (fun hc168 => ?_) (fun hc168 => ?_)
  · exact (hc168 rfl).elim
  · refine pn_iconst (q := 173) (v := nB true) dX7_put_172 rfl (by decide) ?_
    refine pn_goto (q := 177) dX7_put_173 (by decide) ?_
    refine pn_iconst (q := 178) (v := nI 1) dX7_put_177 rfl (by decide) ?_
    refine pn_iconst (q := 179) (v := nI 1) dX7_put_178 rfl (by decide) ?_
    refine pn_idV (q := 182) (bc9 := 0) (bs9 := 0) (m_badT adK d Y P (0, a.2) b (pvC c (xpI x1 x2 x3 x4 x5) 5) e f g h 1 1 rfl (by omega) (by omega) (by omega)) lkX7_206 dX7_put_179 rfl rfl (hM_cl) (hM_cl) (Nat.le_of_ble_eq_true rfl) rfl rfl rfl rfl rfl rfl (by omega) (by omega) (by omega) (Nat.le_of_ble_eq_true rfl) ?_
    refine pn_bne (q := 185) (tgt := 215) dX7_put_182 (by decide) rfl (fun hc182 => ?_) (fun hc182 => ?_)
    · refine pn_iconst (q := 216) (v := nI 0) dX7_put_215 rfl (by decide) ?_
      refine pn_iret dX7_put_216 rfl ?_
      exact ⟨rfl, rfl⟩
    · cases hc182
set_option maxRecDepth 100000 in
theorem m_putXb (adK : Nat → Nat) (d : Nat) (Y : MN) (P : Nat → MN) (a : G0) (b : G1) (c : G3) (e : G4) (f : G5) (g : G6) (h : G7) (x1 x2 x3 x4 x5 : Int32) (hS : shOk Y.2.2.1 Y.2.2.2.1) (hn : Y.1 ≤ 11) (hn1 : 1 ≤ Y.1) (hpc : Y.2.2.2.2.1 ≤ 60) (h0 : ¬ (pvX Y.1 Y.2.2.1 Y.2.2.2.1 c (xpI x1 x2 x3 x4 x5)) = lN 0) (h1 : ¬ (pvX Y.1 Y.2.2.1 Y.2.2.2.1 c (xpI x1 x2 x3 x4 x5)) &&& ((lfN Y.2.2.2.2.2.2.1 Y.2.1 Y.2.2.2.2.1) ^^^ (-1)) = lN 0) : pnCt mX7_put adK (d + 3) 0 0 [.ref 0, .int x1, .int x2, .int x3, .int x4, .int x5] (hM Y P a b c e f g h) (pnIs (.inl (some (.int (nI 0)))) (hM Y P (bdA (0, a.2) 2 2) b (pvC c (xpI x1 x2 x3 x4 x5) 5) e f g h)) := by
  refine pnCt_of (by decide) kX7_put (Nat.le_of_ble_eq_true rfl) rfl hM_cl (pnCS_b rfl) ?_
  refine m_putH adK d Y P a b c e f g h x1 x2 x3 x4 x5 hS hn hn1 (fun o i => ?_)
  refine pn_aload_n (q := 165) dX7_put_164 rfl rfl rfl ?_
  refine pn_lload (q := 167) dX7_put_165 rfl rfl ?_
  refine pn_lconst (q := 168) (v := lN 0) dX7_put_167 rfl (by decide) ?_
  refine pn_lne (q1 := 169) (q := 172) (tgt := 176) dX7_put_168 rfl dX7_put_169 (by decide) rfl (fun hc168 => ?_) (fun hc168 => ?_)
  · refine pn_iconst (q := 177) (v := nB false) dX7_put_176 rfl (by decide) ?_
    refine pn_iconst (q := 178) (v := nI 1) dX7_put_177 rfl (by decide) ?_
    refine pn_iconst (q := 179) (v := nI 1) dX7_put_178 rfl (by decide) ?_
    refine pn_idV (q := 182) (bc9 := 0) (bs9 := 0) (m_badF adK d Y P (0, a.2) b (pvC c (xpI x1 x2 x3 x4 x5) 5) e f g h 1 1 rfl) lkX7_206 dX7_put_179 rfl rfl (hM_cl) (hM_cl) (Nat.le_of_ble_eq_true rfl) rfl rfl rfl rfl rfl rfl (by omega) (by omega) (by omega) (Nat.le_of_ble_eq_true rfl) ?_
    refine pn_bne (q := 185) (tgt := 215) dX7_put_182 (by decide) rfl (fun hc182 => ?_) (fun hc182 => ?_)
    · cases hc182
    · refine pn_aload_n (q := 186) dX7_put_185 rfl rfl rfl ?_
      refine pn_lload (q := 188) dX7_put_186 rfl rfl ?_
      refine pn_aload_n (q := 189) dX7_put_188 rfl rfl rfl ?_
      refine pn_idV (q := 192) (bc9 := 0) (bs9 := 0) (m_leftNow adK d Y P (0, a.2) b (pvC c (xpI x1 x2 x3 x4 x5) 5) e f g h hpc) lkX7_225 dX7_put_189 rfl rfl (hM_cl) (hM_cl) (Nat.le_of_ble_eq_true rfl) rfl rfl rfl rfl rfl rfl (by omega) (by omega) (by omega) (Nat.le_of_ble_eq_true rfl) ?_
      refine pn_ldc2 (q := 195) pw_1283 dX7_put_192 rfl ?_
      refine pn_lxor (q := 196) dX7_put_195 rfl ?_
      refine pn_land (q := 197) dX7_put_196 rfl ?_
      refine pn_lconst (q := 198) (v := lN 0) dX7_put_197 rfl (by decide) ?_
      refine pn_leq (q1 := 199) (q := 202) (tgt := 206) dX7_put_198 rfl dX7_put_199 (by decide) rfl (fun hc198 => ?_) (fun hc198 => ?_)
      · exact (h1 hc198).elim
      · refine pn_iconst (q := 203) (v := nB true) dX7_put_202 rfl (by decide) ?_
        refine pn_goto (q := 207) dX7_put_203 (by decide) ?_
        refine pn_iconst (q := 208) (v := nI 2) dX7_put_207 rfl (by decide) ?_
        refine pn_iconst (q := 209) (v := nI 2) dX7_put_208 rfl (by decide) ?_
        refine pn_idV (q := 212) (bc9 := 0) (bs9 := 0) (m_badT adK d Y P (0, a.2) b (pvC c (xpI x1 x2 x3 x4 x5) 5) e f g h 2 2 rfl (by omega) (by omega) (by omega)) lkX7_206 dX7_put_209 rfl rfl (hM_cl) (hM_cl) (Nat.le_of_ble_eq_true rfl) rfl rfl rfl rfl rfl rfl (by omega) (by omega) (by omega) (Nat.le_of_ble_eq_true rfl) ?_
        refine pn_beq (q := 215) (tgt := 217) dX7_put_212 (by decide) rfl (fun hc212 => ?_) (fun hc212 => ?_)
        · cases hc212
        · refine pn_iconst (q := 216) (v := nI 0) dX7_put_215 rfl (by decide) ?_
          refine pn_iret dX7_put_216 rfl ?_
          exact ⟨rfl, rfl⟩
  · exact (h0 hc168).elim
set_option maxRecDepth 100000 in
theorem m_put (adK : Nat → Nat) (d : Nat) (Y : MN) (P : Nat → MN) (a : G0) (b : G1) (c : G3) (e : G4) (f : G5) (g : G6) (h : G7) (x1 x2 x3 x4 x5 : Int32) (hS : shOk Y.2.2.1 Y.2.2.2.1) (hn : Y.1 ≤ 11) (hn1 : 1 ≤ Y.1) (hpc : Y.2.2.2.2.1 ≤ 60) (ha : a.2.2.2.2 ≤ 8) (hpc2 : Y.2.2.2.2.1 < 60) (h0 : ¬ (pvX Y.1 Y.2.2.1 Y.2.2.2.1 c (xpI x1 x2 x3 x4 x5)) = lN 0) (h1 : (pvX Y.1 Y.2.2.1 Y.2.2.2.1 c (xpI x1 x2 x3 x4 x5)) &&& ((lfN Y.2.2.2.2.2.2.1 Y.2.1 Y.2.2.2.2.1) ^^^ (-1)) = lN 0) : pnCt mX7_put adK (d + 3) 0 0 [.ref 0, .int x1, .int x2, .int x3, .int x4, .int x5] (hM Y P a b c e f g h) (pnIs (.inl (some (.int (nI (Y.2.2.2.2.1 + 1))))) (hM (yP Y (Y.2.2.2.2.1 + 1) (vp_updL Y.2.2.2.2.2.2.1 Y.2.2.2.2.1 (pvX Y.1 Y.2.2.1 Y.2.2.2.1 c (xpI x1 x2 x3 x4 x5)))) (keP P Y a.2.2.2.2) (keB ((0, a.2) : G0)) b (pvC c (xpI x1 x2 x3 x4 x5) 5) e f g h)) := by
  refine pnCt_of (by decide) kX7_put (Nat.le_of_ble_eq_true rfl) rfl hM_cl (pnCS_b rfl) ?_
  refine m_putH adK d Y P a b c e f g h x1 x2 x3 x4 x5 hS hn hn1 (fun o i => ?_)
  refine pn_aload_n (q := 165) dX7_put_164 rfl rfl rfl ?_
  refine pn_lload (q := 167) dX7_put_165 rfl rfl ?_
  refine pn_lconst (q := 168) (v := lN 0) dX7_put_167 rfl (by decide) ?_
  refine pn_lne (q1 := 169) (q := 172) (tgt := 176) dX7_put_168 rfl dX7_put_169 (by decide) rfl (fun hc168 => ?_) (fun hc168 => ?_)
  · refine pn_iconst (q := 177) (v := nB false) dX7_put_176 rfl (by decide) ?_
    refine pn_iconst (q := 178) (v := nI 1) dX7_put_177 rfl (by decide) ?_
    refine pn_iconst (q := 179) (v := nI 1) dX7_put_178 rfl (by decide) ?_
    refine pn_idV (q := 182) (bc9 := 0) (bs9 := 0) (m_badF adK d Y P (0, a.2) b (pvC c (xpI x1 x2 x3 x4 x5) 5) e f g h 1 1 rfl) lkX7_206 dX7_put_179 rfl rfl (hM_cl) (hM_cl) (Nat.le_of_ble_eq_true rfl) rfl rfl rfl rfl rfl rfl (by omega) (by omega) (by omega) (Nat.le_of_ble_eq_true rfl) ?_
    refine pn_bne (q := 185) (tgt := 215) dX7_put_182 (by decide) rfl (fun hc182 => ?_) (fun hc182 => ?_)
    · cases hc182
    · refine pn_aload_n (q := 186) dX7_put_185 rfl rfl rfl ?_
      refine pn_lload (q := 188) dX7_put_186 rfl rfl ?_
      refine pn_aload_n (q := 189) dX7_put_188 rfl rfl rfl ?_
      refine pn_idV (q := 192) (bc9 := 0) (bs9 := 0) (m_leftNow adK d Y P (0, a.2) b (pvC c (xpI x1 x2 x3 x4 x5) 5) e f g h hpc) lkX7_225 dX7_put_189 rfl rfl (hM_cl) (hM_cl) (Nat.le_of_ble_eq_true rfl) rfl rfl rfl rfl rfl rfl (by omega) (by omega) (by omega) (Nat.le_of_ble_eq_true rfl) ?_
      refine pn_ldc2 (q := 195) pw_1283 dX7_put_192 rfl ?_
      refine pn_lxor (q := 196) dX7_put_195 rfl ?_
      refine pn_land (q := 197) dX7_put_196 rfl ?_
      refine pn_lconst (q := 198) (v := lN 0) dX7_put_197 rfl (by decide) ?_
      refine pn_leq (q1 := 199) (q := 202) (tgt := 206) dX7_put_198 rfl dX7_put_199 (by decide) rfl (fun hc198 => ?_) (fun hc198 => ?_)
      · refine pn_iconst (q := 207) (v := nB false) dX7_put_206 rfl (by decide) ?_
        refine pn_iconst (q := 208) (v := nI 2) dX7_put_207 rfl (by decide) ?_
        refine pn_iconst (q := 209) (v := nI 2) dX7_put_208 rfl (by decide) ?_
        refine pn_idV (q := 212) (bc9 := 0) (bs9 := 0) (m_badF adK d Y P (0, a.2) b (pvC c (xpI x1 x2 x3 x4 x5) 5) e f g h 2 2 rfl) lkX7_206 dX7_put_209 rfl rfl (hM_cl) (hM_cl) (Nat.le_of_ble_eq_true rfl) rfl rfl rfl rfl rfl rfl (by omega) (by omega) (by omega) (Nat.le_of_ble_eq_true rfl) ?_
        refine pn_beq (q := 215) (tgt := 217) dX7_put_212 (by decide) rfl (fun hc212 => ?_) (fun hc212 => ?_)
        · refine pn_aload_n (q := 218) dX7_put_217 rfl rfl rfl ?_
          refine pn_idV (q := 221) (bc9 := 0) (bs9 := 0) (m_remembers adK d Y P (0, a.2) b (pvC c (xpI x1 x2 x3 x4 x5) 5) e f g h ha) lkX7_218 dX7_put_218 rfl rfl (hM_cl) (hM_cl) (Nat.le_of_ble_eq_true rfl) rfl rfl rfl rfl rfl rfl (by omega) (by omega) (by omega) (Nat.le_of_ble_eq_true rfl) ?_
          refine pn_aload_n (q := 222) dX7_put_221 rfl rfl rfl ?_
          refine pn_lload (q := 224) dX7_put_222 rfl rfl ?_
          refine pn_idV (q := 227) (bc9 := 0) (bs9 := 0) (m_comes adK d Y (keP P Y a.2.2.2.2) (keB ((0, a.2) : G0)) b (pvC c (xpI x1 x2 x3 x4 x5) 5) e f g h (pvX Y.1 Y.2.2.1 Y.2.2.2.1 c (xpI x1 x2 x3 x4 x5)) hpc2) lkX7_271 dX7_put_224 rfl rfl (hM_cl) (hM_cl) (Nat.le_of_ble_eq_true rfl) rfl rfl rfl rfl rfl rfl (by omega) (by omega) (by omega) (Nat.le_of_ble_eq_true rfl) ?_
          refine pn_aload_n (q := 228) dX7_put_227 rfl rfl rfl ?_
          refine pn_idV (q := 231) (bc9 := 0) (bs9 := 0) (m_manyE adK d (yP Y (Y.2.2.2.2.1 + 1) (vp_updL Y.2.2.2.2.2.2.1 Y.2.2.2.2.1 (pvX Y.1 Y.2.2.1 Y.2.2.2.1 c (xpI x1 x2 x3 x4 x5)))) (keP P Y a.2.2.2.2) (keB ((0, a.2) : G0)) b (pvC c (xpI x1 x2 x3 x4 x5) 5) e f g h (Y.2.2.2.2.1 + 1) rfl) lkX7_232 dX7_put_228 rfl rfl (hM_cl) (hM_cl) (Nat.le_of_ble_eq_true rfl) rfl rfl rfl rfl rfl rfl (by omega) (by omega) (by omega) (Nat.le_of_ble_eq_true rfl) ?_
          refine pn_iret dX7_put_231 rfl ?_
          exact ⟨rfl, rfl⟩
        · cases hc212
      · exact (hc198 h1).elim
  · exact (h0 hc168).elim
