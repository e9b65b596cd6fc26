/-! classes, as the reference counts them -/
def clV (Fn : (Nat → Int32) → Nat → Nat → Nat) (t : Int32) (cn : Nat → Int32) (us : Nat) : Nat → Nat → Nat → Nat
  | 0, _, best => best
  | z + 1, k, best => if k < us ∧ ¬ cn k &&& t = 0 then clV Fn t cn us z (k + 1) best else clV Fn t cn us z (k + 1) (Fn (upd cn k (if k = us then t else cn k ||| t)) (if k = us then us + 1 else us) best)
def clF (nd : Nat → Int32) : Nat → Nat → (Nat → Int32) → Nat → Nat → Nat
  | 0, _, _, us, best => if best ≤ us then best else us
  | r + 1, p, cn, us, best => if best ≤ us then best else clV (fun cn' us' best' => clF nd r (p + 1) cn' us' best') (nd p) cn us (us + 1) 0 best
theorem upd_back9 (cn : Nat → Int32) (k : Nat) (x : Int32) : upd (upd cn k x) k (cn k) = cn := by
  funext j
  unfold upd
  by_cases q : j = k
  · rw [if_pos q, q]
  · rw [if_neg q, if_neg q]
set_option maxRecDepth 100000 in
theorem m_classesOn (adK : Nat → Nat) (d : Nat) (Y : MN) (P : Nat → MN) (a : G0) (b : G1) (c : G3) (e : G4) (f : G5) (g : G6) (hn : Y.1 ≤ 11) (hpc : Y.2.2.2.2.1 ≤ 14) : ∀ (r p us best : Nat) (cn : Nat → Int32), p + r = Y.2.2.2.2.1 → us ≤ p → best ≤ 15 → pnCt mX7_classesOn adK (d + 4 + r) 0 0 [.ref 0, .int (nI p), .int (nI us)] (hM Y P a b c e f g (cn, best)) (pnIs (.inl none) (hM Y P a b c e f g (cn, clF (fun p => nI (ndO (Y.2.2.2.2.2.2.1 p) Y.1 Y.1)) r p cn us best))) ∧ clF (fun p => nI (ndO (Y.2.2.2.2.2.2.1 p) Y.1 Y.1)) r p cn us best ≤ 15 := by
  intro r
  induction r with
  | zero =>
    intro p us best cn hp hu hb
    have CM := m_many adK d Y P a b c e f g (cn, best)
    have e0 : clF (fun p => nI (ndO (Y.2.2.2.2.2.2.1 p) Y.1 Y.1)) 0 p cn us best = if best ≤ us then best else us := rfl
    rw [e0]
    by_cases h1 : best ≤ us
    · rw [if_pos h1]
      refine ⟨?_, hb⟩
      refine pnCt_of (by decide) kX7_classesOn (Nat.le_of_ble_eq_true rfl) rfl hM_cl (pnCS_b rfl) ?_
      refine pn_iload_n (q := 1) dX7_classesOn_0 rfl rfl ?_
      refine pn_aload_n (q := 2) dX7_classesOn_1 rfl rfl rfl ?_
      (refine pn_get (q := 5) fX7_346 dX7_classesOn_2 rfl rfl rfl ?_)
      refine pn_eq (h' := _) (st' := .int (nI best) :: _) rfl rfl ?_
      first | refine pn_nlt (q := 8) (tgt := 9) dX7_classesOn_5 (by decide) rfl (by omega) (by omega) (fun hc5 => ?_) (fun hc5 => ?_) | refine pn_icmp_lt (q := 8) (tgt := 9) dX7_classesOn_5 (by decide) rfl (fun hc5 => ?_) (fun hc5 => ?_)
      · omega
      · refine pn_vret dX7_classesOn_8 rfl ?_
        exact ⟨rfl, rfl⟩
    · rw [if_neg h1]
      refine ⟨?_, by omega⟩
      refine pnCt_of (by decide) kX7_classesOn (Nat.le_of_ble_eq_true rfl) rfl hM_cl (pnCS_b rfl) ?_
      refine pn_iload_n (q := 1) dX7_classesOn_0 rfl rfl ?_
      refine pn_aload_n (q := 2) dX7_classesOn_1 rfl rfl rfl ?_
      (refine pn_get (q := 5) fX7_346 dX7_classesOn_2 rfl rfl rfl ?_)
      refine pn_eq (h' := _) (st' := .int (nI best) :: _) rfl rfl ?_
      first | refine pn_nlt (q := 8) (tgt := 9) dX7_classesOn_5 (by decide) rfl (by omega) (by omega) (fun hc5 => ?_) (fun hc5 => ?_) | refine pn_icmp_lt (q := 8) (tgt := 9) dX7_classesOn_5 (by decide) rfl (fun hc5 => ?_) (fun hc5 => ?_)
      · refine pn_iload_n (q := 10) dX7_classesOn_9 rfl rfl ?_
        refine pn_aload_n (q := 11) dX7_classesOn_10 rfl rfl rfl ?_
        refine pn_idV (q := 14) (bc9 := 0) (bs9 := 0) (CM) lkX7_232 dX7_classesOn_11 rfl rfl (hM_cl) (hM_cl) (Nat.le_of_ble_eq_true rfl) rfl rfl rfl rfl rfl rfl (by omega) (by omega) (by omega) (Nat.le_of_ble_eq_true rfl) ?_
        first | refine pn_nne (q := 17) (tgt := 23) dX7_classesOn_14 (by decide) rfl (by omega) (by omega) (fun hc14 => ?_) (fun hc14 => ?_) | refine pn_icmp_ne (q := 17) (tgt := 23) dX7_classesOn_14 (by decide) rfl (fun hc14 => ?_) (fun hc14 => ?_)
        · omega
        · refine pn_aload_n (q := 18) dX7_classesOn_17 rfl rfl rfl ?_
          refine pn_iload_n (q := 19) dX7_classesOn_18 rfl rfl ?_
          refine pn_put (q := 22) fX7_346 dX7_classesOn_19 rfl rfl (Nat.le_of_ble_eq_true rfl) (pnF_int _) ?_
          refine pn_vret dX7_classesOn_22 rfl ?_
          exact ⟨rfl, rfl⟩
      · omega
  | succ r ih =>
    intro p us best cn hp hu hb
    have CM := m_many adK d Y P a b c e f g (cn, best)
    have e0 : clF (fun p => nI (ndO (Y.2.2.2.2.2.2.1 p) Y.1 Y.1)) (r + 1) p cn us best = if best ≤ us then best else clV (fun cn' us' best' => clF (fun p => nI (ndO (Y.2.2.2.2.2.2.1 p) Y.1 Y.1)) r (p + 1) cn' us' best') (nI (ndO (Y.2.2.2.2.2.2.1 p) Y.1 Y.1)) cn us (us + 1) 0 best := rfl
    rw [e0]
    by_cases h1 : best ≤ us
    · rw [if_pos h1]
      refine ⟨?_, hb⟩
      refine pnCt_of (by decide) kX7_classesOn (Nat.le_of_ble_eq_true rfl) rfl hM_cl (pnCS_b rfl) ?_
      refine pn_iload_n (q := 1) dX7_classesOn_0 rfl rfl ?_
      refine pn_aload_n (q := 2) dX7_classesOn_1 rfl rfl rfl ?_
      (refine pn_get (q := 5) fX7_346 dX7_classesOn_2 rfl rfl rfl ?_)
      refine pn_eq (h' := _) (st' := .int (nI best) :: _) rfl rfl ?_
      first | refine pn_nlt (q := 8) (tgt := 9) dX7_classesOn_5 (by decide) rfl (by omega) (by omega) (fun hc5 => ?_) (fun hc5 => ?_) | refine pn_icmp_lt (q := 8) (tgt := 9) dX7_classesOn_5 (by decide) rfl (fun hc5 => ?_) (fun hc5 => ?_)
      · omega
      · refine pn_vret dX7_classesOn_8 rfl ?_
        exact ⟨rfl, rfl⟩
    · rw [if_neg h1]
      have CN := m_nodesOf adK d Y P a b c e f g (cn, best) (Y.2.2.2.2.2.2.1 p) hn
      have ep : nowF Y (30 + p) = Y.2.2.2.2.2.2.1 p := nowF_p Y p
      generalize nI (ndO (Y.2.2.2.2.2.2.1 p) Y.1 Y.1) = t at *
      have loop : ∀ (z k best : Nat), k + z = us + 1 → best ≤ 15 → (∀ R, clV (fun cn' us' best' => clF (fun p => nI (ndO (Y.2.2.2.2.2.2.1 p) Y.1 Y.1)) r (p + 1) cn' us' best') t cn us z k best = R → pnWP mX7_classesOn adK (d + 4 + (r + 1)) (pnIs (.inl none) (hM Y P a b c e f g (cn, R))) 0 0 (hM Y P a b c e f g (cn, best)) [some (.ref 0), some (.int (nI p)), some (.int (nI us)), some (.int t), some (.int (nI k))] [] 40) ∧ clV (fun cn' us' best' => clF (fun p => nI (ndO (Y.2.2.2.2.2.2.1 p) Y.1 Y.1)) r (p + 1) cn' us' best') t cn us z k best ≤ 15 := by
        intro z
        induction z with
        | zero =>
          intro k best hk hb
          refine ⟨fun R e9 => ?_, hb⟩
          have e8 : R = best := e9.symm
          subst e8
          refine pn_iload (q := 42) dX7_classesOn_40 rfl rfl ?_
          refine pn_iload_n (q := 43) dX7_classesOn_42 rfl rfl ?_
          first | refine pn_ngt (q := 46) (tgt := 127) dX7_classesOn_43 (by decide) rfl (by omega) (by omega) (fun hc43 => ?_) (fun hc43 => ?_) | refine pn_icmp_gt (q := 46) (tgt := 127) dX7_classesOn_43 (by decide) rfl (fun hc43 => ?_) (fun hc43 => ?_)
          · refine pn_vret dX7_classesOn_127 rfl ?_
            exact ⟨rfl, rfl⟩
          · omega
        | succ z ih2 =>
          intro k best hk hb
          have e7 : clV (fun cn' us' best' => clF (fun p => nI (ndO (Y.2.2.2.2.2.2.1 p) Y.1 Y.1)) r (p + 1) cn' us' best') t cn us (z + 1) k best = if k < us ∧ ¬ cn k &&& t = 0 then clV (fun cn' us' best' => clF (fun p => nI (ndO (Y.2.2.2.2.2.2.1 p) Y.1 Y.1)) r (p + 1) cn' us' best') t cn us z (k + 1) best else clV (fun cn' us' best' => clF (fun p => nI (ndO (Y.2.2.2.2.2.2.1 p) Y.1 Y.1)) r (p + 1) cn' us' best') t cn us z (k + 1) (clF (fun p => nI (ndO (Y.2.2.2.2.2.2.1 p) Y.1 Y.1)) r (p + 1) (upd cn k (if k = us then t else cn k ||| t)) (if k = us then us + 1 else us) best) := rfl
          rw [e7]
          by_cases q1 : k < us ∧ ¬ cn k &&& t = 0
          · rw [if_pos q1]
            obtain ⟨i1, i2⟩ := ih2 (k + 1) best (by omega) hb
            refine ⟨fun R e9 => ?_, i2⟩
            have k9 := i1 R e9
            refine pn_iload (q := 42) dX7_classesOn_40 rfl rfl ?_
            refine pn_iload_n (q := 43) dX7_classesOn_42 rfl rfl ?_
            first | refine pn_ngt (q := 46) (tgt := 127) dX7_classesOn_43 (by decide) rfl (by omega) (by omega) (fun hc43 => ?_) (fun hc43 => ?_) | refine pn_icmp_gt (q := 46) (tgt := 127) dX7_classesOn_43 (by decide) rfl (fun hc43 => ?_) (fun hc43 => ?_)
            · omega
            · refine pn_aload_n (q := 47) dX7_classesOn_46 rfl rfl rfl ?_
              refine pn_get (q := 50) fX7_56 dX7_classesOn_47 rfl rfl rfl ?_
              refine pn_iload (q := 52) dX7_classesOn_50 rfl rfl ?_
              refine pn_iald (q := 53) dX7_classesOn_52 rfl rfl rfl (by omega) (by decide) ?_
              refine pn_istore (q := 55) dX7_classesOn_53 rfl (by decide) ?_
              refine pn_iload (q := 57) dX7_classesOn_55 rfl rfl ?_
              refine pn_iload_n (q := 58) dX7_classesOn_57 rfl rfl ?_
              first | refine pn_nge (q := 61) (tgt := 71) dX7_classesOn_58 (by decide) rfl (by omega) (by omega) (fun hc58 => ?_) (fun hc58 => ?_) | refine pn_icmp_ge (q := 61) (tgt := 71) dX7_classesOn_58 (by decide) rfl (fun hc58 => ?_) (fun hc58 => ?_)
              · omega
              · refine pn_iload (q := 63) dX7_classesOn_61 rfl rfl ?_
                refine pn_iload_n (q := 64) dX7_classesOn_63 rfl rfl ?_
                refine pn_iand (q := 65) dX7_classesOn_64 rfl ?_
                refine pn_if_eq (q := 68) (tgt := 71) dX7_classesOn_65 (by decide) rfl (fun hc65 => ?_) (fun hc65 => ?_)
                · exact (q1.2 hc65).elim
                · refine pn_goto (q := 121) dX7_classesOn_68 (by decide) ?_
                  first | refine pn_iinc1 (q := 124) dX7_classesOn_121 rfl rfl (by decide) ?_ | refine pn_iinc (q := 124) (mm := 1) dX7_classesOn_121 rfl rfl (by decide) (by decide) ?_
                  refine pn_goto (q := 40) dX7_classesOn_124 (by decide) ?_
                  exact pn_take 5 k9
          · rw [if_neg q1]
            obtain ⟨CS, hS⟩ := ih (p + 1) (if k = us then us + 1 else us) best (upd cn k (if k = us then t else cn k ||| t)) (by omega) (by split <;> omega) hb
            generalize hB : clF (fun p => nI (ndO (Y.2.2.2.2.2.2.1 p) Y.1 Y.1)) r (p + 1) (upd cn k (if k = us then t else cn k ||| t)) (if k = us then us + 1 else us) best = B at *
            obtain ⟨i1, i2⟩ := ih2 (k + 1) B (by omega) hS
            refine ⟨fun R e9 => ?_, i2⟩
            have k9 := i1 R e9
            have fin : ∀ v : Int32, pnWP mX7_classesOn adK (d + 4 + (r + 1)) (pnIs (.inl none) (hM Y P a b c e f g (cn, R))) 0 0 (hM Y P a b c e f g (upd cn k v, B)) [some (.ref 0), some (.int (nI p)), some (.int (nI us)), some (.int t), some (.int (nI k)), some (.int (cn k))] [] 112 := by
              intro v
              refine pn_aload_n (q := 113) dX7_classesOn_112 rfl rfl rfl ?_
              refine pn_get (q := 116) fX7_56 dX7_classesOn_113 rfl rfl rfl ?_
              refine pn_iload (q := 118) dX7_classesOn_116 rfl rfl ?_
              refine pn_iload (q := 120) dX7_classesOn_118 rfl rfl ?_
              refine pn_iast (q := 121) dX7_classesOn_120 rfl rfl rfl (by omega) (by decide) ?_; refine pn_eq (h' := hM Y P a b c e f g (cn, B)) (st' := _) (by show (hM Y P a b c e f g (upd cn k v, B)).set 22 (Sum.inl (0, 15, Sum.inl (upd (upd cn k v) k (cn k)))) = _; rw [upd_back9]; rfl) rfl ?_
              first | refine pn_iinc1 (q := 124) dX7_classesOn_121 rfl rfl (by decide) ?_ | refine pn_iinc (q := 124) (mm := 1) dX7_classesOn_121 rfl rfl (by decide) (by decide) ?_
              refine pn_goto (q := 40) dX7_classesOn_124 (by decide) ?_
              exact pn_take 5 k9
            by_cases q2 : k = us
            · rw [if_pos q2, if_pos q2] at CS
              refine pn_iload (q := 42) dX7_classesOn_40 rfl rfl ?_
              refine pn_iload_n (q := 43) dX7_classesOn_42 rfl rfl ?_
              first | refine pn_ngt (q := 46) (tgt := 127) dX7_classesOn_43 (by decide) rfl (by omega) (by omega) (fun hc43 => ?_) (fun hc43 => ?_) | refine pn_icmp_gt (q := 46) (tgt := 127) dX7_classesOn_43 (by decide) rfl (fun hc43 => ?_) (fun hc43 => ?_)
              · omega
              · refine pn_aload_n (q := 47) dX7_classesOn_46 rfl rfl rfl ?_
                refine pn_get (q := 50) fX7_56 dX7_classesOn_47 rfl rfl rfl ?_
                refine pn_iload (q := 52) dX7_classesOn_50 rfl rfl ?_
                refine pn_iald (q := 53) dX7_classesOn_52 rfl rfl rfl (by omega) (by decide) ?_
                refine pn_istore (q := 55) dX7_classesOn_53 rfl (by decide) ?_
                refine pn_iload (q := 57) dX7_classesOn_55 rfl rfl ?_
                refine pn_iload_n (q := 58) dX7_classesOn_57 rfl rfl ?_
                first | refine pn_nge (q := 61) (tgt := 71) dX7_classesOn_58 (by decide) rfl (by omega) (by omega) (fun hc58 => ?_) (fun hc58 => ?_) | refine pn_icmp_ge (q := 61) (tgt := 71) dX7_classesOn_58 (by decide) rfl (fun hc58 => ?_) (fun hc58 => ?_)
                · refine pn_aload_n (q := 72) dX7_classesOn_71 rfl rfl rfl ?_
                  refine pn_get (q := 75) fX7_56 dX7_classesOn_72 rfl rfl rfl ?_
                  refine pn_iload (q := 77) dX7_classesOn_75 rfl rfl ?_
                  refine pn_iload (q := 79) dX7_classesOn_77 rfl rfl ?_
                  refine pn_iload_n (q := 80) dX7_classesOn_79 rfl rfl ?_
                  first | refine pn_nne (q := 83) (tgt := 87) dX7_classesOn_80 (by decide) rfl (by omega) (by omega) (fun hc80 => ?_) (fun hc80 => ?_) | refine pn_icmp_ne (q := 83) (tgt := 87) dX7_classesOn_80 (by decide) rfl (fun hc80 => ?_) (fun hc80 => ?_)
                  · omega
                  · refine pn_iload_n (q := 84) dX7_classesOn_83 rfl rfl ?_
                    refine pn_goto (q := 91) dX7_classesOn_84 (by decide) ?_
                    refine pn_iast (q := 92) dX7_classesOn_91 rfl rfl rfl (by omega) (by decide) ?_; refine pn_eq (h' := hM Y P a b c e f g (upd cn k t, best)) (st' := _) rfl rfl ?_
                    refine pn_aload_n (q := 93) dX7_classesOn_92 rfl rfl rfl ?_
                    refine pn_iload_n (q := 94) dX7_classesOn_93 rfl rfl ?_
                    refine pn_iconst (q := 95) (v := nI 1) dX7_classesOn_94 rfl (by decide) ?_
                    first | with_reducible refine pn_iaddN (q := 96) dX7_classesOn_95 rfl ?_ | refine pn_iadd (q := 96) dX7_classesOn_95 rfl ?_
                    refine pn_iload (q := 98) dX7_classesOn_96 rfl rfl ?_
                    refine pn_iload_n (q := 99) dX7_classesOn_98 rfl rfl ?_
                    first | refine pn_nne (q := 102) (tgt := 108) dX7_classesOn_99 (by decide) rfl (by omega) (by omega) (fun hc99 => ?_) (fun hc99 => ?_) | refine pn_icmp_ne (q := 102) (tgt := 108) dX7_classesOn_99 (by decide) rfl (fun hc99 => ?_) (fun hc99 => ?_)
                    · omega
                    · refine pn_iload_n (q := 103) dX7_classesOn_102 rfl rfl ?_
                      refine pn_iconst (q := 104) (v := nI 1) dX7_classesOn_103 rfl (by decide) ?_
                      first | with_reducible refine pn_iaddN (q := 105) dX7_classesOn_104 rfl ?_ | refine pn_iadd (q := 105) dX7_classesOn_104 rfl ?_
                      refine pn_goto (q := 109) dX7_classesOn_105 (by decide) ?_
                      refine pn_idV (q := 112) (bc9 := 0) (bs9 := 0) (CS) lkX7_349 dX7_classesOn_109 rfl rfl (hM_cl) (hM_cl) (Nat.le_of_ble_eq_true rfl) rfl rfl rfl rfl rfl rfl (by omega) (by omega) (by omega) (Nat.le_of_ble_eq_true rfl) ?_
                      exact fin t
                · omega
            · rw [if_neg q2, if_neg q2] at CS
              have q3 : cn k &&& t = 0 := by
                by_cases q : cn k &&& t = 0
                · exact q
                · exact absurd ⟨by omega, q⟩ q1
              refine pn_iload (q := 42) dX7_classesOn_40 rfl rfl ?_
              refine pn_iload_n (q := 43) dX7_classesOn_42 rfl rfl ?_
              first | refine pn_ngt (q := 46) (tgt := 127) dX7_classesOn_43 (by decide) rfl (by omega) (by omega) (fun hc43 => ?_) (fun hc43 => ?_) | refine pn_icmp_gt (q := 46) (tgt := 127) dX7_classesOn_43 (by decide) rfl (fun hc43 => ?_) (fun hc43 => ?_)
              · omega
              · refine pn_aload_n (q := 47) dX7_classesOn_46 rfl rfl rfl ?_
                refine pn_get (q := 50) fX7_56 dX7_classesOn_47 rfl rfl rfl ?_
                refine pn_iload (q := 52) dX7_classesOn_50 rfl rfl ?_
                refine pn_iald (q := 53) dX7_classesOn_52 rfl rfl rfl (by omega) (by decide) ?_
                refine pn_istore (q := 55) dX7_classesOn_53 rfl (by decide) ?_
                refine pn_iload (q := 57) dX7_classesOn_55 rfl rfl ?_
                refine pn_iload_n (q := 58) dX7_classesOn_57 rfl rfl ?_
                first | refine pn_nge (q := 61) (tgt := 71) dX7_classesOn_58 (by decide) rfl (by omega) (by omega) (fun hc58 => ?_) (fun hc58 => ?_) | refine pn_icmp_ge (q := 61) (tgt := 71) dX7_classesOn_58 (by decide) rfl (fun hc58 => ?_) (fun hc58 => ?_)
                · omega
                · refine pn_iload (q := 63) dX7_classesOn_61 rfl rfl ?_
                  refine pn_iload_n (q := 64) dX7_classesOn_63 rfl rfl ?_
                  refine pn_iand (q := 65) dX7_classesOn_64 rfl ?_
                  refine pn_if_eq (q := 68) (tgt := 71) dX7_classesOn_65 (by decide) rfl (fun hc65 => ?_) (fun hc65 => ?_)
                  · refine pn_aload_n (q := 72) dX7_classesOn_71 rfl rfl rfl ?_
                    refine pn_get (q := 75) fX7_56 dX7_classesOn_72 rfl rfl rfl ?_
                    refine pn_iload (q := 77) dX7_classesOn_75 rfl rfl ?_
                    refine pn_iload (q := 79) dX7_classesOn_77 rfl rfl ?_
                    refine pn_iload_n (q := 80) dX7_classesOn_79 rfl rfl ?_
                    first | refine pn_nne (q := 83) (tgt := 87) dX7_classesOn_80 (by decide) rfl (by omega) (by omega) (fun hc80 => ?_) (fun hc80 => ?_) | refine pn_icmp_ne (q := 83) (tgt := 87) dX7_classesOn_80 (by decide) rfl (fun hc80 => ?_) (fun hc80 => ?_)
                    · refine pn_iload (q := 89) dX7_classesOn_87 rfl rfl ?_
                      refine pn_iload_n (q := 90) dX7_classesOn_89 rfl rfl ?_
                      refine pn_ior (q := 91) dX7_classesOn_90 rfl ?_
                      refine pn_iast (q := 92) dX7_classesOn_91 rfl rfl rfl (by omega) (by decide) ?_; refine pn_eq (h' := hM Y P a b c e f g (upd cn k (cn k ||| t), best)) (st' := _) rfl rfl ?_
                      refine pn_aload_n (q := 93) dX7_classesOn_92 rfl rfl rfl ?_
                      refine pn_iload_n (q := 94) dX7_classesOn_93 rfl rfl ?_
                      refine pn_iconst (q := 95) (v := nI 1) dX7_classesOn_94 rfl (by decide) ?_
                      first | with_reducible refine pn_iaddN (q := 96) dX7_classesOn_95 rfl ?_ | refine pn_iadd (q := 96) dX7_classesOn_95 rfl ?_
                      refine pn_iload (q := 98) dX7_classesOn_96 rfl rfl ?_
                      refine pn_iload_n (q := 99) dX7_classesOn_98 rfl rfl ?_
                      first | refine pn_nne (q := 102) (tgt := 108) dX7_classesOn_99 (by decide) rfl (by omega) (by omega) (fun hc99 => ?_) (fun hc99 => ?_) | refine pn_icmp_ne (q := 102) (tgt := 108) dX7_classesOn_99 (by decide) rfl (fun hc99 => ?_) (fun hc99 => ?_)
                      · refine pn_iload_n (q := 109) dX7_classesOn_108 rfl rfl ?_
                        refine pn_idV (q := 112) (bc9 := 0) (bs9 := 0) (CS) lkX7_349 dX7_classesOn_109 rfl rfl (hM_cl) (hM_cl) (Nat.le_of_ble_eq_true rfl) rfl rfl rfl rfl rfl rfl (by omega) (by omega) (by omega) (Nat.le_of_ble_eq_true rfl) ?_
                        exact fin (cn k ||| t)
                      · omega
                    · omega
                  · exact (hc65 q3).elim
      obtain ⟨i1, i2⟩ := loop (us + 1) 0 best (by omega) hb
      refine ⟨?_, i2⟩
      have k9 := i1 _ rfl
      refine pnCt_of (by decide) kX7_classesOn (Nat.le_of_ble_eq_true rfl) rfl hM_cl (pnCS_b rfl) ?_
      refine pn_iload_n (q := 1) dX7_classesOn_0 rfl rfl ?_
      refine pn_aload_n (q := 2) dX7_classesOn_1 rfl rfl rfl ?_
      (refine pn_get (q := 5) fX7_346 dX7_classesOn_2 rfl rfl rfl ?_)
      refine pn_eq (h' := _) (st' := .int (nI best) :: _) rfl rfl ?_
      first | refine pn_nlt (q := 8) (tgt := 9) dX7_classesOn_5 (by decide) rfl (by omega) (by omega) (fun hc5 => ?_) (fun hc5 => ?_) | refine pn_icmp_lt (q := 8) (tgt := 9) dX7_classesOn_5 (by decide) rfl (fun hc5 => ?_) (fun hc5 => ?_)
      · refine pn_iload_n (q := 10) dX7_classesOn_9 rfl rfl ?_
        refine pn_aload_n (q := 11) dX7_classesOn_10 rfl rfl rfl ?_
        refine pn_idV (q := 14) (bc9 := 0) (bs9 := 0) (CM) lkX7_232 dX7_classesOn_11 rfl rfl (hM_cl) (hM_cl) (Nat.le_of_ble_eq_true rfl) rfl rfl rfl rfl rfl rfl (by omega) (by omega) (by omega) (Nat.le_of_ble_eq_true rfl) ?_
        first | refine pn_nne (q := 17) (tgt := 23) dX7_classesOn_14 (by decide) rfl (by omega) (by omega) (fun hc14 => ?_) (fun hc14 => ?_) | refine pn_icmp_ne (q := 17) (tgt := 23) dX7_classesOn_14 (by decide) rfl (fun hc14 => ?_) (fun hc14 => ?_)
        · refine pn_aload_n (q := 24) dX7_classesOn_23 rfl rfl rfl ?_
          refine pn_aload_n (q := 25) dX7_classesOn_24 rfl rfl rfl ?_
          refine pn_get (q := 28) fX7_20 dX7_classesOn_25 rfl rfl rfl ?_
          refine pn_bipush (q := 30) (v := nI 30) dX7_classesOn_28 rfl (by decide) ?_
          refine pn_iload_n (q := 31) dX7_classesOn_30 rfl rfl ?_
          first | with_reducible refine pn_iaddN (q := 32) dX7_classesOn_31 rfl ?_ | refine pn_iadd (q := 32) dX7_classesOn_31 rfl ?_
          refine pn_lald1 (q := 33) dX7_classesOn_32 rfl rfl rfl (by omega) (by decide) ?_; rw [ep]
          refine pn_idV (q := 36) (bc9 := 0) (bs9 := 0) (CN) lkX7_340 dX7_classesOn_33 rfl rfl (hM_cl) (hM_cl) (Nat.le_of_ble_eq_true rfl) rfl rfl rfl rfl rfl rfl (by omega) (by omega) (by omega) (Nat.le_of_ble_eq_true rfl) ?_
          refine pn_istore_n (q := 37) dX7_classesOn_36 rfl (by decide) ?_
          refine pn_iconst (q := 38) (v := nI 0) dX7_classesOn_37 rfl (by decide) ?_
          refine pn_istore (q := 40) dX7_classesOn_38 rfl (by decide) ?_
          exact k9
        · omega
      · omega
set_option maxRecDepth 100000 in
theorem m_classesX (adK : Nat → Nat) (d : Nat) (Y : MN) (P : Nat → MN) (a : G0) (b : G1) (c : G3) (e : G4) (f : G5) (g : G6) (h : G7) (hpc : 14 < Y.2.2.2.2.1) (hpc2 : Y.2.2.2.2.1 ≤ 60) : pnCt mX7_classes adK (d + 20) 0 0 [.ref 0] (hM Y P a b c e f g h) (pnIs (.inl (some (.int (nI 0)))) (hM Y P (bdA (0, a.2) 1 2) b c e f g h)) := by
  refine pnCt_of (by decide) kX7_classes (Nat.le_of_ble_eq_true rfl) rfl hM_cl (pnCS_b rfl) ?_
  refine pn_aload_n (q := 1) dX7_classes_0 rfl rfl rfl ?_
  refine pn_iconst (q := 2) (v := nI 0) dX7_classes_1 rfl (by decide) ?_
  (refine pn_put (q := 5) fX7_63 dX7_classes_2 rfl rfl (Nat.le_of_ble_eq_true rfl) (pnF_int _) ?_)
  refine pn_eq (h' := (hM Y P (0, a.2) b c e f g h)) (st' := _) rfl rfl ?_
  refine pn_aload_n (q := 6) dX7_classes_5 rfl rfl rfl ?_
  refine pn_aload_n (q := 7) dX7_classes_6 rfl rfl rfl ?_
  refine pn_idV (q := 10) (bc9 := 0) (bs9 := 0) (m_many adK d Y P (0, a.2) b c e f g h) lkX7_232 dX7_classes_7 rfl rfl (hM_cl) (hM_cl) (Nat.le_of_ble_eq_true rfl) rfl rfl rfl rfl rfl rfl (by omega) (by omega) (by omega) (Nat.le_of_ble_eq_true rfl) ?_
  refine pn_bipush (q := 12) (v := nI 14) dX7_classes_10 rfl (by decide) ?_
  first | refine pn_nle (q := 15) (tgt := 19) dX7_classes_12 (by decide) rfl (by omega) (by omega) (fun hc12 => ?_) (fun hc12 => ?_) | refine pn_icmp_le (q := 15) (tgt := 19) dX7_classes_12 (by decide) rfl (fun hc12 => ?_) (fun hc12 => ?_)
  · omega
  · refine pn_iconst (q := 16) (v := nB true) dX7_classes_15 rfl (by decide) ?_
    refine pn_goto (q := 20) dX7_classes_16 (by decide) ?_
    refine pn_iconst (q := 21) (v := nI 1) dX7_classes_20 rfl (by decide) ?_
    refine pn_iconst (q := 22) (v := nI 2) dX7_classes_21 rfl (by decide) ?_
    refine pn_idV (q := 25) (bc9 := 0) (bs9 := 0) (m_badT adK d Y P (0, a.2) b c e f g h 1 2 rfl (by omega) (by omega) (by omega)) lkX7_206 dX7_classes_22 rfl rfl (hM_cl) (hM_cl) (Nat.le_of_ble_eq_true rfl) rfl rfl rfl rfl rfl rfl (by omega) (by omega) (by omega) (Nat.le_of_ble_eq_true rfl) ?_
    refine pn_beq (q := 28) (tgt := 30) dX7_classes_25 (by decide) rfl (fun hc25 => ?_) (fun hc25 => ?_)
    · cases hc25
    · refine pn_iconst (q := 29) (v := nI 0) dX7_classes_28 rfl (by decide) ?_
      refine pn_iret dX7_classes_29 rfl ?_
      exact ⟨rfl, rfl⟩
set_option maxRecDepth 100000 in
theorem m_classes (adK : Nat → Nat) (d : Nat) (Y : MN) (P : Nat → MN) (a : G0) (b : G1) (c : G3) (e : G4) (f : G5) (g : G6) (h : G7) (hn : Y.1 ≤ 11) (hpc : Y.2.2.2.2.1 ≤ 14) : pnCt mX7_classes adK (d + 20) 0 0 [.ref 0] (hM Y P a b c e f g h) (pnIs (.inl (some (.int (nI (clF (fun p => nI (ndO (Y.2.2.2.2.2.2.1 p) Y.1 Y.1)) Y.2.2.2.2.1 0 h.1 0 15))))) (hM Y P (0, a.2) b c e f g (h.1, clF (fun p => nI (ndO (Y.2.2.2.2.2.2.1 p) Y.1 Y.1)) Y.2.2.2.2.1 0 h.1 0 15))) := by
  refine pnCt_of (by decide) kX7_classes (Nat.le_of_ble_eq_true rfl) rfl hM_cl (pnCS_b rfl) ?_
  obtain ⟨CS, hS⟩ := m_classesOn adK d Y P (0, a.2) b c e f g hn hpc Y.2.2.2.2.1 0 0 15 h.1 (by omega) (by omega) (by omega)
  refine pn_aload_n (q := 1) dX7_classes_0 rfl rfl rfl ?_
  refine pn_iconst (q := 2) (v := nI 0) dX7_classes_1 rfl (by decide) ?_
  (refine pn_put (q := 5) fX7_63 dX7_classes_2 rfl rfl (Nat.le_of_ble_eq_true rfl) (pnF_int _) ?_)
  refine pn_eq (h' := (hM Y P (0, a.2) b c e f g h)) (st' := _) rfl rfl ?_
  refine pn_aload_n (q := 6) dX7_classes_5 rfl rfl rfl ?_
  refine pn_aload_n (q := 7) dX7_classes_6 rfl rfl rfl ?_
  refine pn_idV (q := 10) (bc9 := 0) (bs9 := 0) (m_many adK d Y P (0, a.2) b c e f g h) lkX7_232 dX7_classes_7 rfl rfl (hM_cl) (hM_cl) (Nat.le_of_ble_eq_true rfl) rfl rfl rfl rfl rfl rfl (by omega) (by omega) (by omega) (Nat.le_of_ble_eq_true rfl) ?_
  refine pn_bipush (q := 12) (v := nI 14) dX7_classes_10 rfl (by decide) ?_
  first | refine pn_nle (q := 15) (tgt := 19) dX7_classes_12 (by decide) rfl (by omega) (by omega) (fun hc12 => ?_) (fun hc12 => ?_) | refine pn_icmp_le (q := 15) (tgt := 19) dX7_classes_12 (by decide) rfl (fun hc12 => ?_) (fun hc12 => ?_)
  · refine pn_iconst (q := 20) (v := nB false) dX7_classes_19 rfl (by decide) ?_
    refine pn_iconst (q := 21) (v := nI 1) dX7_classes_20 rfl (by decide) ?_
    refine pn_iconst (q := 22) (v := nI 2) dX7_classes_21 rfl (by decide) ?_
    refine pn_idV (q := 25) (bc9 := 0) (bs9 := 0) (m_badF adK d Y P (0, a.2) b c e f g h 1 2 rfl) lkX7_206 dX7_classes_22 rfl rfl (hM_cl) (hM_cl) (Nat.le_of_ble_eq_true rfl) rfl rfl rfl rfl rfl rfl (by omega) (by omega) (by omega) (Nat.le_of_ble_eq_true rfl) ?_
    refine pn_beq (q := 28) (tgt := 30) dX7_classes_25 (by decide) rfl (fun hc25 => ?_) (fun hc25 => ?_)
    · refine pn_aload_n (q := 31) dX7_classes_30 rfl rfl rfl ?_
      refine pn_bipush (q := 33) (v := nI 15) dX7_classes_31 rfl (by decide) ?_
      (refine pn_put (q := 36) fX7_346 dX7_classes_33 rfl rfl (Nat.le_of_ble_eq_true rfl) (pnF_int _) ?_)
      refine pn_eq (h' := (hM Y P (0, a.2) b c e f g (h.1, 15))) (st' := _) rfl rfl ?_
      refine pn_aload_n (q := 37) dX7_classes_36 rfl rfl rfl ?_
      refine pn_iconst (q := 38) (v := nI 0) dX7_classes_37 rfl (by decide) ?_
      refine pn_iconst (q := 39) (v := nI 0) dX7_classes_38 rfl (by decide) ?_
      refine pn_idV (q := 42) (bc9 := 0) (bs9 := 0) (CS) lkX7_349 dX7_classes_39 rfl rfl (hM_cl) (hM_cl) (Nat.le_of_ble_eq_true rfl) rfl rfl rfl rfl rfl rfl (by omega) (by omega) (by omega) (Nat.le_of_ble_eq_true rfl) ?_
      refine pn_aload_n (q := 43) dX7_classes_42 rfl rfl rfl ?_
      refine pn_get (q := 46) fX7_346 dX7_classes_43 rfl rfl rfl ?_
      refine pn_iret dX7_classes_46 rfl ?_
      exact ⟨rfl, rfl⟩
    · cases hc25
  · omega
