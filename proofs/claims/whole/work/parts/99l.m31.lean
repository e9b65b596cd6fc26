/-! the search, as the reference goes -/
def caC (C W : Nat → Int64) : Nat → Nat → Int64
  | 0 => C
  | i + 1 => vp_updL (caC C W i) i (W i)
def gsL (dp : Nat) (g : G6) : G6 := if 1 < g.2.2.1 + 1 then (g.1, g.2.1, g.2.2.1 + 1, g.2.2.2.1, g.2.2.2.2.1, g.2.2.2.2.2) else (g.1, caC g.2.1 g.1 dp, g.2.2.1 + 1, g.2.2.2.1, dp, g.2.2.2.2.2)
abbrev gsT (dp : Nat) (s : Int64) (g : G6) : G6 := (vp_updL g.1 dp s, g.2.1, g.2.2.1, g.2.2.2.1 + 1, g.2.2.2.2.1, g.2.2.2.2.2)
abbrev gsX (g : G6) : G6 := (g.1, g.2.1, g.2.2.1, g.2.2.2.1, g.2.2.2.2.1, true)
def gsV (Fn : Int64 → G6 → G6) (A : Nat → Int64) (once : Bool) (x : Int64) (dp : Nat) : Nat → Nat → G6 → G6
  | 0, _, g => g
  | z + 1, k, g => if g.2.2.2.2.2 = true ∨ (once = true ∧ ¬ g.2.2.1 = 0) then g else if A k &&& (x ^^^ (-1)) = lN 0 then (if g.2.2.2.1 = 20000 then gsX g else gsV Fn A once x dp z (k + 1) (Fn (x &&& (A k ^^^ (-1))) (gsT dp (A k) g))) else gsV Fn A once x dp z (k + 1) g
def gsF (e : G4) (once : Bool) : Nat → Int64 → Nat → G6 → G6
  | 0, _, _, g => g
  | r + 1, x, dp, g => if x = lN 0 then gsL dp g else gsV (fun x' g' => gsF e once r x' (dp + 1) g') e.2.1 once x dp (e.2.2.2.2.1 (llN x + 1) - e.2.2.2.2.1 (llN x)) (e.2.2.2.2.1 (llN x)) g
def gsI (g : G6) : Prop := g.2.2.1 ≤ g.2.2.2.1 + 1 ∧ g.2.2.2.1 ≤ 20000
set_option maxRecDepth 100000 in
theorem m_goes (adK : Nat → Nat) (d : Nat) (Y : MN) (P : Nat → MN) (a : G0) (b : G1) (c : G3) (e : G4) (f : G5) (h : G7) (once : Bool) (hO : lyO e) (G : Int64 → Prop) (M : Int64 → Nat) (hG1 : ∀ x, G x → ¬ x = lN 0 → llN x + 1 < 57) (hG2 : ∀ x k, G x → k < e.2.2.2.2.2.2.2.2 → e.2.1 k &&& (x ^^^ (-1)) = lN 0 → G (x &&& (e.2.1 k ^^^ (-1))) ∧ M (x &&& (e.2.1 k ^^^ (-1))) < M x) : ∀ (r : Nat) (x : Int64) (dp : Nat) (g : G6), G x → M x < r → dp + r = 56 → g.2.2.1 ≤ g.2.2.2.1 → g.2.2.2.1 ≤ 20000 → pnCt mX7_goes adK (d + 1 + r) 0 0 [.ref 0, .long x, .int (nI dp), .int (nB once)] (hM Y P a b c e f g h) (pnIs (.inl none) (hM Y P a b c e f (gsF e once r x dp g) h)) ∧ gsI (gsF e once r x dp g) := by
  obtain ⟨o1, o2, o3⟩ := hO
  intro r
  induction r with
  | zero => intro x dp g hGx hMx; omega
  | succ r ih =>
    intro x dp g hGx hMx hdp hw hs
    have e0 : gsF e once (r + 1) x dp g = if x = lN 0 then gsL dp g else gsV (fun x' g' => gsF e once r x' (dp + 1) g') e.2.1 once x dp (e.2.2.2.2.1 (llN x + 1) - e.2.2.2.2.1 (llN x)) (e.2.2.2.2.1 (llN x)) g := rfl
    rw [e0]
    by_cases h0 : x = lN 0
    · rw [if_pos h0]
      by_cases h1 : 1 < g.2.2.1 + 1
      · rw [show gsL dp g = (g.1, g.2.1, g.2.2.1 + 1, g.2.2.2.1, g.2.2.2.2.1, g.2.2.2.2.2) from if_pos h1]
        refine ⟨?_, ⟨by show g.2.2.1 + 1 ≤ g.2.2.2.1 + 1; omega, hs⟩⟩
        refine pnCt_of (by decide) kX7_goes (Nat.le_of_ble_eq_true rfl) rfl hM_cl (pnCS_b rfl) ?_
        refine pn_lload_n (q := 1) dX7_goes_0 rfl rfl ?_
        refine pn_lconst (q := 2) (v := lN 0) dX7_goes_1 rfl (by decide) ?_
        refine pn_lne (q1 := 3) (q := 6) (tgt := 60) dX7_goes_2 rfl dX7_goes_3 (by decide) rfl (fun hc2 => ?_) (fun hc2 => ?_)
        · exact (hc2 h0).elim
        · refine pn_aload_n (q := 7) dX7_goes_6 rfl rfl rfl ?_
          refine pn_dup (q := 8) dX7_goes_7 rfl rfl ?_
          refine pn_get (q := 11) fX7_291 dX7_goes_8 rfl rfl rfl ?_
          refine pn_iconst (q := 12) (v := nI 1) dX7_goes_11 rfl (by decide) ?_
          first | with_reducible refine pn_iaddN (q := 13) dX7_goes_12 rfl ?_ | refine pn_iadd (q := 13) dX7_goes_12 rfl ?_
          refine pn_put (q := 16) fX7_291 dX7_goes_13 rfl rfl (Nat.le_of_ble_eq_true rfl) (pnF_int _) ?_
          refine pn_aload_n (q := 17) dX7_goes_16 rfl rfl rfl ?_
          (refine pn_get (q := 20) fX7_291 dX7_goes_17 rfl rfl rfl ?_)
          refine pn_eq (h' := _) (st' := .int (nI (g.2.2.1 + 1)) :: _) rfl rfl ?_
          refine pn_iconst (q := 21) (v := nI 1) dX7_goes_20 rfl (by decide) ?_
          first | refine pn_nle (q := 24) (tgt := 25) dX7_goes_21 (by decide) rfl (by omega) (by omega) (fun hc21 => ?_) (fun hc21 => ?_) | refine pn_icmp_le (q := 24) (tgt := 25) dX7_goes_21 (by decide) rfl (fun hc21 => ?_) (fun hc21 => ?_)
          · omega
          · refine pn_vret dX7_goes_24 rfl ?_
            exact ⟨rfl, rfl⟩
      · rw [show gsL dp g = (g.1, caC g.2.1 g.1 dp, g.2.2.1 + 1, g.2.2.2.1, dp, g.2.2.2.2.2) from if_neg h1]
        refine ⟨?_, ⟨by show g.2.2.1 + 1 ≤ g.2.2.2.1 + 1; omega, hs⟩⟩
        refine pnCt_of (by decide) kX7_goes (Nat.le_of_ble_eq_true rfl) rfl hM_cl (pnCS_b rfl) ?_
        have loop : ∀ (z i : Nat), i + z = dp → pnWP mX7_goes adK (d + 1 + (r + 1)) (pnIs (.inl none) (hM Y P a b c e f (g.1, caC g.2.1 g.1 dp, g.2.2.1 + 1, g.2.2.2.1, dp, g.2.2.2.2.2) h)) 0 0 (hM Y P a b c e f (g.1, caC g.2.1 g.1 i, g.2.2.1 + 1, g.2.2.2.1, dp, g.2.2.2.2.2) h) [some (.ref 0), some (.long x), none, some (.int (nI dp)), some (.int (nB once)), some (.int (nI i))] [] 33 := by
          intro z
          induction z with
          | zero =>
            intro i hi
            have hii : i = dp := by omega
            subst hii
            refine pn_iload (q := 35) dX7_goes_33 rfl rfl ?_
            refine pn_iload_n (q := 36) dX7_goes_35 rfl rfl ?_
            first | refine pn_nge (q := 39) (tgt := 59) dX7_goes_36 (by decide) rfl (by omega) (by omega) (fun hc36 => ?_) (fun hc36 => ?_) | refine pn_icmp_ge (q := 39) (tgt := 59) dX7_goes_36 (by decide) rfl (fun hc36 => ?_) (fun hc36 => ?_)
            · refine pn_vret dX7_goes_59 rfl ?_
              exact ⟨rfl, rfl⟩
            · omega
          | succ z ih2 =>
            intro i hi
            refine pn_iload (q := 35) dX7_goes_33 rfl rfl ?_
            refine pn_iload_n (q := 36) dX7_goes_35 rfl rfl ?_
            first | refine pn_nge (q := 39) (tgt := 59) dX7_goes_36 (by decide) rfl (by omega) (by omega) (fun hc36 => ?_) (fun hc36 => ?_) | refine pn_icmp_ge (q := 39) (tgt := 59) dX7_goes_36 (by decide) rfl (fun hc36 => ?_) (fun hc36 => ?_)
            · omega
            · refine pn_aload_n (q := 40) dX7_goes_39 rfl rfl rfl ?_
              refine pn_get (q := 43) fX7_53 dX7_goes_40 rfl rfl rfl ?_
              refine pn_iload (q := 45) dX7_goes_43 rfl rfl ?_
              refine pn_aload_n (q := 46) dX7_goes_45 rfl rfl rfl ?_
              refine pn_get (q := 49) fX7_50 dX7_goes_46 rfl rfl rfl ?_
              refine pn_iload (q := 51) dX7_goes_49 rfl rfl ?_
              refine pn_lald1 (q := 52) dX7_goes_51 rfl rfl rfl (by omega) (by decide) ?_
              refine pn_last1 (q := 53) dX7_goes_52 rfl rfl rfl (by omega) (by decide) ?_
              first | refine pn_iinc1 (q := 56) dX7_goes_53 rfl rfl (by decide) ?_ | refine pn_iinc (q := 56) (mm := 1) dX7_goes_53 rfl rfl (by decide) (by decide) ?_
              refine pn_goto (q := 33) dX7_goes_56 (by decide) ?_
              exact ih2 (i + 1) (by omega)
        refine pn_lload_n (q := 1) dX7_goes_0 rfl rfl ?_
        refine pn_lconst (q := 2) (v := lN 0) dX7_goes_1 rfl (by decide) ?_
        refine pn_lne (q1 := 3) (q := 6) (tgt := 60) dX7_goes_2 rfl dX7_goes_3 (by decide) rfl (fun hc2 => ?_) (fun hc2 => ?_)
        · exact (hc2 h0).elim
        · refine pn_aload_n (q := 7) dX7_goes_6 rfl rfl rfl ?_
          refine pn_dup (q := 8) dX7_goes_7 rfl rfl ?_
          refine pn_get (q := 11) fX7_291 dX7_goes_8 rfl rfl rfl ?_
          refine pn_iconst (q := 12) (v := nI 1) dX7_goes_11 rfl (by decide) ?_
          first | with_reducible refine pn_iaddN (q := 13) dX7_goes_12 rfl ?_ | refine pn_iadd (q := 13) dX7_goes_12 rfl ?_
          refine pn_put (q := 16) fX7_291 dX7_goes_13 rfl rfl (Nat.le_of_ble_eq_true rfl) (pnF_int _) ?_
          refine pn_aload_n (q := 17) dX7_goes_16 rfl rfl rfl ?_
          (refine pn_get (q := 20) fX7_291 dX7_goes_17 rfl rfl rfl ?_)
          refine pn_eq (h' := _) (st' := .int (nI (g.2.2.1 + 1)) :: _) rfl rfl ?_
          refine pn_iconst (q := 21) (v := nI 1) dX7_goes_20 rfl (by decide) ?_
          first | refine pn_nle (q := 24) (tgt := 25) dX7_goes_21 (by decide) rfl (by omega) (by omega) (fun hc21 => ?_) (fun hc21 => ?_) | refine pn_icmp_le (q := 24) (tgt := 25) dX7_goes_21 (by decide) rfl (fun hc21 => ?_) (fun hc21 => ?_)
          · refine pn_aload_n (q := 26) dX7_goes_25 rfl rfl rfl ?_
            refine pn_iload_n (q := 27) dX7_goes_26 rfl rfl ?_
            refine pn_put (q := 30) fX7_294 dX7_goes_27 rfl rfl (Nat.le_of_ble_eq_true rfl) (pnF_int _) ?_
            refine pn_iconst (q := 31) (v := nI 0) dX7_goes_30 rfl (by decide) ?_
            refine pn_istore (q := 33) dX7_goes_31 rfl (by decide) ?_
            exact loop dp 0 (by omega)
          · omega
    · rw [if_neg h0]
      have hl := hG1 x hGx h0
      have f1 := o3 (llN x) (by omega)
      have f2 := o3 (llN x + 1) (by omega)
      have hI : ∀ (z k : Nat) (g : G6), (k + z = e.2.2.2.2.1 (llN x + 1) ∨ z = 0) → gsI g → gsI (gsV (fun x' g' => gsF e once r x' (dp + 1) g') e.2.1 once x dp z k g) ∧ (∀ R, gsV (fun x' g' => gsF e once r x' (dp + 1) g') e.2.1 once x dp z k g = R → (z = 0 → e.2.2.2.2.1 (llN x + 1) ≤ k) → k ≤ 60000 → pnWP mX7_goes adK (d + 1 + (r + 1)) (pnIs (.inl none) (hM Y P a b c e f R h)) 0 0 (hM Y P a b c e f g h) [some (.ref 0), some (.long x), none, some (.int (nI dp)), some (.int (nB once)), some (.int (nI (llN x))), some (.int (nI k))] [] 75) := by
        intro z
        induction z with
        | zero =>
          intro k g hk hg
          refine ⟨hg, fun R e9 hz hk6 => ?_⟩
          have e8 : R = g := e9.symm
          subst e8
          have hz := hz rfl
          refine pn_iload (q := 77) dX7_goes_75 rfl rfl ?_
          refine pn_aload_n (q := 78) dX7_goes_77 rfl rfl rfl ?_
          refine pn_get (q := 81) fX7_47 dX7_goes_78 rfl rfl rfl ?_
          refine pn_iload (q := 83) dX7_goes_81 rfl rfl ?_
          refine pn_iconst (q := 84) (v := nI 1) dX7_goes_83 rfl (by decide) ?_
          first | with_reducible refine pn_iaddN (q := 85) dX7_goes_84 rfl ?_ | refine pn_iadd (q := 85) dX7_goes_84 rfl ?_
          refine pn_iald (q := 86) dX7_goes_85 rfl rfl rfl (by omega) (by first | decide | omega) ?_
          first | refine pn_nge (q := 89) (tgt := 196) dX7_goes_86 (by decide) rfl (by omega) (by omega) (fun hc86 => ?_) (fun hc86 => ?_) | refine pn_icmp_ge (q := 89) (tgt := 196) dX7_goes_86 (by decide) rfl (fun hc86 => ?_) (fun hc86 => ?_)
          · refine pn_vret dX7_goes_196 rfl ?_
            exact ⟨rfl, rfl⟩
          · omega
        | succ z ih2 =>
          intro k g hk hg
          have hk : k + (z + 1) = e.2.2.2.2.1 (llN x + 1) := by omega
          have e7 : gsV (fun x' g' => gsF e once r x' (dp + 1) g') e.2.1 once x dp (z + 1) k g = if g.2.2.2.2.2 = true ∨ (once = true ∧ ¬ g.2.2.1 = 0) then g else if e.2.1 k &&& (x ^^^ (-1)) = lN 0 then (if g.2.2.2.1 = 20000 then gsX g else gsV (fun x' g' => gsF e once r x' (dp + 1) g') e.2.1 once x dp z (k + 1) (gsF e once r (x &&& (e.2.1 k ^^^ (-1))) (dp + 1) (gsT dp (e.2.1 k) g))) else gsV (fun x' g' => gsF e once r x' (dp + 1) g') e.2.1 once x dp z (k + 1) g := rfl
          rw [e7]
          obtain ⟨hg1, hg2⟩ := hg
          by_cases q1 : g.2.2.2.2.2 = true
          · rw [if_pos (Or.inl q1)]
            refine ⟨⟨hg1, hg2⟩, fun R e9 hz hk6 => ?_⟩
            subst e9
            refine pn_iload (q := 77) dX7_goes_75 rfl rfl ?_
            refine pn_aload_n (q := 78) dX7_goes_77 rfl rfl rfl ?_
            refine pn_get (q := 81) fX7_47 dX7_goes_78 rfl rfl rfl ?_
            refine pn_iload (q := 83) dX7_goes_81 rfl rfl ?_
            refine pn_iconst (q := 84) (v := nI 1) dX7_goes_83 rfl (by decide) ?_
            first | with_reducible refine pn_iaddN (q := 85) dX7_goes_84 rfl ?_ | refine pn_iadd (q := 85) dX7_goes_84 rfl ?_
            refine pn_iald (q := 86) dX7_goes_85 rfl rfl rfl (by omega) (by first | decide | omega) ?_
            first | refine pn_nge (q := 89) (tgt := 196) dX7_goes_86 (by decide) rfl (by omega) (by omega) (fun hc86 => ?_) (fun hc86 => ?_) | refine pn_icmp_ge (q := 89) (tgt := 196) dX7_goes_86 (by decide) rfl (fun hc86 => ?_) (fun hc86 => ?_)
            · omega
            · refine pn_aload_n (q := 90) dX7_goes_89 rfl rfl rfl ?_
              refine pn_get (q := 93) fX7_297 dX7_goes_90 rfl rfl rfl ?_
              refine pn_bne (q := 96) (tgt := 196) dX7_goes_93 (by decide) rfl (fun hc93 => ?_) (fun hc93 => ?_)
              · refine pn_vret dX7_goes_196 rfl ?_
                exact ⟨rfl, rfl⟩
              · (rw [q1] at hc93; cases hc93)
          · have q1f : g.2.2.2.2.2 = false := by cases hh : g.2.2.2.2.2 with | true => exact absurd hh q1 | false => rfl
            by_cases q2 : once = true ∧ ¬ g.2.2.1 = 0
            · rw [if_pos (Or.inr q2)]
              refine ⟨⟨hg1, hg2⟩, fun R e9 hz hk6 => ?_⟩
              subst e9
              refine pn_iload (q := 77) dX7_goes_75 rfl rfl ?_
              refine pn_aload_n (q := 78) dX7_goes_77 rfl rfl rfl ?_
              refine pn_get (q := 81) fX7_47 dX7_goes_78 rfl rfl rfl ?_
              refine pn_iload (q := 83) dX7_goes_81 rfl rfl ?_
              refine pn_iconst (q := 84) (v := nI 1) dX7_goes_83 rfl (by decide) ?_
              first | with_reducible refine pn_iaddN (q := 85) dX7_goes_84 rfl ?_ | refine pn_iadd (q := 85) dX7_goes_84 rfl ?_
              refine pn_iald (q := 86) dX7_goes_85 rfl rfl rfl (by omega) (by first | decide | omega) ?_
              first | refine pn_nge (q := 89) (tgt := 196) dX7_goes_86 (by decide) rfl (by omega) (by omega) (fun hc86 => ?_) (fun hc86 => ?_) | refine pn_icmp_ge (q := 89) (tgt := 196) dX7_goes_86 (by decide) rfl (fun hc86 => ?_) (fun hc86 => ?_)
              · omega
              · refine pn_aload_n (q := 90) dX7_goes_89 rfl rfl rfl ?_
                refine pn_get (q := 93) fX7_297 dX7_goes_90 rfl rfl rfl ?_
                refine pn_bne (q := 96) (tgt := 196) dX7_goes_93 (by decide) rfl (fun hc93 => ?_) (fun hc93 => ?_)
                · (rw [q1f] at hc93; cases hc93)
                · refine pn_iload (q := 98) dX7_goes_96 rfl rfl ?_
                  refine pn_beq (q := 101) (tgt := 108) dX7_goes_98 (by decide) rfl (fun hc98 => ?_) (fun hc98 => ?_)
                  · (rw [q2.1] at hc98; cases hc98)
                  · refine pn_aload_n (q := 102) dX7_goes_101 rfl rfl rfl ?_
                    refine pn_get (q := 105) fX7_291 dX7_goes_102 rfl rfl rfl ?_
                    first | refine pn_zne (q := 108) (tgt := 196) dX7_goes_105 (by decide) rfl (by omega) (fun hc105 => ?_) (fun hc105 => ?_) | refine pn_if_ne (q := 108) (tgt := 196) dX7_goes_105 (by decide) rfl (fun hc105 => ?_) (fun hc105 => ?_)
                    · refine pn_vret dX7_goes_196 rfl ?_
                      exact ⟨rfl, rfl⟩
                    · exact (q2.2 hc105).elim
            · rw [if_neg (by rintro (q | q); exact q1 q; exact q2 q)]
              have pass : ∀ (Q : pnR → List pnE → Prop), pnWP mX7_goes adK (d + 1 + (r + 1)) Q 0 0 (hM Y P a b c e f g h) [some (.ref 0), some (.long x), none, some (.int (nI dp)), some (.int (nB once)), some (.int (nI (llN x))), some (.int (nI k))] [] 108 → k ≤ 60000 → pnWP mX7_goes adK (d + 1 + (r + 1)) Q 0 0 (hM Y P a b c e f g h) [some (.ref 0), some (.long x), none, some (.int (nI dp)), some (.int (nB once)), some (.int (nI (llN x))), some (.int (nI k))] [] 75 := by
                intro Q k108 hk6
                cases ho : once with
                | false =>
                  rw [ho] at k108
                  refine pn_iload (q := 77) dX7_goes_75 rfl rfl ?_
                  refine pn_aload_n (q := 78) dX7_goes_77 rfl rfl rfl ?_
                  refine pn_get (q := 81) fX7_47 dX7_goes_78 rfl rfl rfl ?_
                  refine pn_iload (q := 83) dX7_goes_81 rfl rfl ?_
                  refine pn_iconst (q := 84) (v := nI 1) dX7_goes_83 rfl (by decide) ?_
                  first | with_reducible refine pn_iaddN (q := 85) dX7_goes_84 rfl ?_ | refine pn_iadd (q := 85) dX7_goes_84 rfl ?_
                  refine pn_iald (q := 86) dX7_goes_85 rfl rfl rfl (by omega) (by first | decide | omega) ?_
                  first | refine pn_nge (q := 89) (tgt := 196) dX7_goes_86 (by decide) rfl (by omega) (by omega) (fun hc86 => ?_) (fun hc86 => ?_) | refine pn_icmp_ge (q := 89) (tgt := 196) dX7_goes_86 (by decide) rfl (fun hc86 => ?_) (fun hc86 => ?_)
                  · omega
                  · refine pn_aload_n (q := 90) dX7_goes_89 rfl rfl rfl ?_
                    refine pn_get (q := 93) fX7_297 dX7_goes_90 rfl rfl rfl ?_
                    refine pn_bne (q := 96) (tgt := 196) dX7_goes_93 (by decide) rfl (fun hc93 => ?_) (fun hc93 => ?_)
                    · (rw [q1f] at hc93; cases hc93)
                    · refine pn_iload (q := 98) dX7_goes_96 rfl rfl ?_
                      refine pn_beq (q := 101) (tgt := 108) dX7_goes_98 (by decide) rfl (fun hc98 => ?_) (fun hc98 => ?_)
                      · exact k108
                      · cases hc98
                | true =>
                  rw [ho] at k108
                  have hw0 : g.2.2.1 = 0 := by
                    rcases Nat.eq_zero_or_pos g.2.2.1 with q | q
                    · exact q
                    · exact absurd ⟨ho, by omega⟩ q2
                  refine pn_iload (q := 77) dX7_goes_75 rfl rfl ?_
                  refine pn_aload_n (q := 78) dX7_goes_77 rfl rfl rfl ?_
                  refine pn_get (q := 81) fX7_47 dX7_goes_78 rfl rfl rfl ?_
                  refine pn_iload (q := 83) dX7_goes_81 rfl rfl ?_
                  refine pn_iconst (q := 84) (v := nI 1) dX7_goes_83 rfl (by decide) ?_
                  first | with_reducible refine pn_iaddN (q := 85) dX7_goes_84 rfl ?_ | refine pn_iadd (q := 85) dX7_goes_84 rfl ?_
                  refine pn_iald (q := 86) dX7_goes_85 rfl rfl rfl (by omega) (by first | decide | omega) ?_
                  first | refine pn_nge (q := 89) (tgt := 196) dX7_goes_86 (by decide) rfl (by omega) (by omega) (fun hc86 => ?_) (fun hc86 => ?_) | refine pn_icmp_ge (q := 89) (tgt := 196) dX7_goes_86 (by decide) rfl (fun hc86 => ?_) (fun hc86 => ?_)
                  · omega
                  · refine pn_aload_n (q := 90) dX7_goes_89 rfl rfl rfl ?_
                    refine pn_get (q := 93) fX7_297 dX7_goes_90 rfl rfl rfl ?_
                    refine pn_bne (q := 96) (tgt := 196) dX7_goes_93 (by decide) rfl (fun hc93 => ?_) (fun hc93 => ?_)
                    · (rw [q1f] at hc93; cases hc93)
                    · refine pn_iload (q := 98) dX7_goes_96 rfl rfl ?_
                      refine pn_beq (q := 101) (tgt := 108) dX7_goes_98 (by decide) rfl (fun hc98 => ?_) (fun hc98 => ?_)
                      · cases hc98
                      · refine pn_aload_n (q := 102) dX7_goes_101 rfl rfl rfl ?_
                        refine pn_get (q := 105) fX7_291 dX7_goes_102 rfl rfl rfl ?_
                        first | refine pn_zne (q := 108) (tgt := 196) dX7_goes_105 (by decide) rfl (by omega) (fun hc105 => ?_) (fun hc105 => ?_) | refine pn_if_ne (q := 108) (tgt := 196) dX7_goes_105 (by decide) rfl (fun hc105 => ?_) (fun hc105 => ?_)
                        · exact (hc105 hw0).elim
                        · exact k108
              by_cases q3 : e.2.1 k &&& (x ^^^ (-1)) = lN 0
              · rw [if_pos q3]
                by_cases q4 : g.2.2.2.1 = 20000
                · rw [if_pos q4]
                  refine ⟨⟨hg1, hg2⟩, fun R e9 hz hk6 => ?_⟩
                  subst e9
                  refine pass _ ?_ hk6
                  refine pn_aload_n (q := 109) dX7_goes_108 rfl rfl rfl ?_
                  refine pn_get (q := 112) fX7_41 dX7_goes_109 rfl rfl rfl ?_
                  refine pn_iload (q := 114) dX7_goes_112 rfl rfl ?_
                  refine pn_lald5 (q := 115) dX7_goes_114 rfl rfl rfl (by omega) (by omega) ?_
                  refine pn_lload_n (q := 116) dX7_goes_115 rfl rfl ?_
                  refine pn_ldc2 (q := 119) pw_1283 dX7_goes_116 rfl ?_
                  refine pn_lxor (q := 120) dX7_goes_119 rfl ?_
                  refine pn_land (q := 121) dX7_goes_120 rfl ?_
                  refine pn_lconst (q := 122) (v := lN 0) dX7_goes_121 rfl (by decide) ?_
                  refine pn_leq (q1 := 123) (q := 126) (tgt := 129) dX7_goes_122 rfl dX7_goes_123 (by decide) rfl (fun hc122 => ?_) (fun hc122 => ?_)
                  · refine pn_aload_n (q := 130) dX7_goes_129 rfl rfl rfl ?_
                    refine pn_get (q := 133) fX7_300 dX7_goes_130 rfl rfl rfl ?_
                    refine pn_sipush (q := 136) (v := nI 20000) dX7_goes_133 rfl (by decide) ?_
                    first | refine pn_nne (q := 139) (tgt := 145) dX7_goes_136 (by decide) rfl (by omega) (by omega) (fun hc136 => ?_) (fun hc136 => ?_) | refine pn_icmp_ne (q := 139) (tgt := 145) dX7_goes_136 (by decide) rfl (fun hc136 => ?_) (fun hc136 => ?_)
                    · omega
                    · refine pn_aload_n (q := 140) dX7_goes_139 rfl rfl rfl ?_
                      refine pn_iconst (q := 141) (v := nI 1) dX7_goes_140 rfl (by decide) ?_
                      refine pn_put (q := 144) fX7_297 dX7_goes_141 rfl rfl (Nat.le_of_ble_eq_true rfl) (pnF_bool (by first | exact Or.inl rfl | exact Or.inr rfl | assumption)) ?_
                      refine pn_vret dX7_goes_144 rfl ?_
                      exact ⟨rfl, rfl⟩
                  · exact (hc122 q3).elim
                · rw [if_neg q4]
                  have hkA : k < e.2.2.2.2.2.2.2.2 := by omega
                  obtain ⟨gg1, gg2⟩ := hG2 x k hGx hkA q3
                  obtain ⟨CG, hIg⟩ := ih (x &&& (e.2.1 k ^^^ (-1))) (dp + 1) (gsT dp (e.2.1 k) g) gg1 (by omega) (by omega) (by show g.2.2.1 ≤ g.2.2.2.1 + 1; omega) (by show g.2.2.2.1 + 1 ≤ 20000; omega)
                  generalize gsF e once r (x &&& (e.2.1 k ^^^ (-1))) (dp + 1) (gsT dp (e.2.1 k) g) = g2 at *
                  obtain ⟨i1, i2⟩ := ih2 (k + 1) g2 (by omega) hIg
                  refine ⟨i1, fun R e9 hz hk6 => ?_⟩
                  have k9 := i2 R e9 (by omega) (by omega)
                  refine pass _ ?_ hk6
                  refine pn_aload_n (q := 109) dX7_goes_108 rfl rfl rfl ?_
                  refine pn_get (q := 112) fX7_41 dX7_goes_109 rfl rfl rfl ?_
                  refine pn_iload (q := 114) dX7_goes_112 rfl rfl ?_
                  refine pn_lald5 (q := 115) dX7_goes_114 rfl rfl rfl (by omega) (by omega) ?_
                  refine pn_lload_n (q := 116) dX7_goes_115 rfl rfl ?_
                  refine pn_ldc2 (q := 119) pw_1283 dX7_goes_116 rfl ?_
                  refine pn_lxor (q := 120) dX7_goes_119 rfl ?_
                  refine pn_land (q := 121) dX7_goes_120 rfl ?_
                  refine pn_lconst (q := 122) (v := lN 0) dX7_goes_121 rfl (by decide) ?_
                  refine pn_leq (q1 := 123) (q := 126) (tgt := 129) dX7_goes_122 rfl dX7_goes_123 (by decide) rfl (fun hc122 => ?_) (fun hc122 => ?_)
                  · refine pn_aload_n (q := 130) dX7_goes_129 rfl rfl rfl ?_
                    refine pn_get (q := 133) fX7_300 dX7_goes_130 rfl rfl rfl ?_
                    refine pn_sipush (q := 136) (v := nI 20000) dX7_goes_133 rfl (by decide) ?_
                    first | refine pn_nne (q := 139) (tgt := 145) dX7_goes_136 (by decide) rfl (by omega) (by omega) (fun hc136 => ?_) (fun hc136 => ?_) | refine pn_icmp_ne (q := 139) (tgt := 145) dX7_goes_136 (by decide) rfl (fun hc136 => ?_) (fun hc136 => ?_)
                    · refine pn_aload_n (q := 146) dX7_goes_145 rfl rfl rfl ?_
                      refine pn_dup (q := 147) dX7_goes_146 rfl rfl ?_
                      refine pn_get (q := 150) fX7_300 dX7_goes_147 rfl rfl rfl ?_
                      refine pn_iconst (q := 151) (v := nI 1) dX7_goes_150 rfl (by decide) ?_
                      first | with_reducible refine pn_iaddN (q := 152) dX7_goes_151 rfl ?_ | refine pn_iadd (q := 152) dX7_goes_151 rfl ?_
                      refine pn_put (q := 155) fX7_300 dX7_goes_152 rfl rfl (Nat.le_of_ble_eq_true rfl) (pnF_int _) ?_
                      refine pn_aload_n (q := 156) dX7_goes_155 rfl rfl rfl ?_
                      refine pn_get (q := 159) fX7_50 dX7_goes_156 rfl rfl rfl ?_
                      refine pn_iload_n (q := 160) dX7_goes_159 rfl rfl ?_
                      refine pn_aload_n (q := 161) dX7_goes_160 rfl rfl rfl ?_
                      refine pn_get (q := 164) fX7_41 dX7_goes_161 rfl rfl rfl ?_
                      refine pn_iload (q := 166) dX7_goes_164 rfl rfl ?_
                      refine pn_lald5 (q := 167) dX7_goes_166 rfl rfl rfl (by omega) (by omega) ?_
                      refine pn_last1 (q := 168) dX7_goes_167 rfl rfl rfl (by omega) (by decide) ?_
                      (refine pn_aload_n (q := 169) dX7_goes_168 rfl rfl rfl ?_)
                      refine pn_eq (h' := (hM Y P a b c e f (gsT dp (e.2.1 k) g) h)) (st' := _) rfl rfl ?_
                      refine pn_lload_n (q := 170) dX7_goes_169 rfl rfl ?_
                      refine pn_aload_n (q := 171) dX7_goes_170 rfl rfl rfl ?_
                      refine pn_get (q := 174) fX7_41 dX7_goes_171 rfl rfl rfl ?_
                      refine pn_iload (q := 176) dX7_goes_174 rfl rfl ?_
                      refine pn_lald5 (q := 177) dX7_goes_176 rfl rfl rfl (by omega) (by omega) ?_
                      refine pn_ldc2 (q := 180) pw_1283 dX7_goes_177 rfl ?_
                      refine pn_lxor (q := 181) dX7_goes_180 rfl ?_
                      refine pn_land (q := 182) dX7_goes_181 rfl ?_
                      refine pn_iload_n (q := 183) dX7_goes_182 rfl rfl ?_
                      refine pn_iconst (q := 184) (v := nI 1) dX7_goes_183 rfl (by decide) ?_
                      first | with_reducible refine pn_iaddN (q := 185) dX7_goes_184 rfl ?_ | refine pn_iadd (q := 185) dX7_goes_184 rfl ?_
                      refine pn_iload (q := 187) dX7_goes_185 rfl rfl ?_
                      refine pn_idV (q := 190) (bc9 := 0) (bs9 := 0) (CG) lkX7_303 dX7_goes_187 rfl rfl (hM_cl) (hM_cl) (Nat.le_of_ble_eq_true rfl) rfl rfl rfl rfl rfl rfl (by omega) (by omega) (by omega) (Nat.le_of_ble_eq_true rfl) ?_
                      first | refine pn_iinc1 (q := 193) dX7_goes_190 rfl rfl (by decide) ?_ | refine pn_iinc (q := 193) (mm := 1) dX7_goes_190 rfl rfl (by decide) (by decide) ?_
                      refine pn_goto (q := 75) dX7_goes_193 (by decide) ?_
                      exact k9
                    · omega
                  · exact (hc122 q3).elim
              · rw [if_neg q3]
                obtain ⟨i1, i2⟩ := ih2 (k + 1) g (by omega) ⟨hg1, hg2⟩
                refine ⟨i1, fun R e9 hz hk6 => ?_⟩
                have k9 := i2 R e9 (by omega) (by omega)
                refine pass _ ?_ hk6
                refine pn_aload_n (q := 109) dX7_goes_108 rfl rfl rfl ?_
                refine pn_get (q := 112) fX7_41 dX7_goes_109 rfl rfl rfl ?_
                refine pn_iload (q := 114) dX7_goes_112 rfl rfl ?_
                refine pn_lald5 (q := 115) dX7_goes_114 rfl rfl rfl (by omega) (by omega) ?_
                refine pn_lload_n (q := 116) dX7_goes_115 rfl rfl ?_
                refine pn_ldc2 (q := 119) pw_1283 dX7_goes_116 rfl ?_
                refine pn_lxor (q := 120) dX7_goes_119 rfl ?_
                refine pn_land (q := 121) dX7_goes_120 rfl ?_
                refine pn_lconst (q := 122) (v := lN 0) dX7_goes_121 rfl (by decide) ?_
                refine pn_leq (q1 := 123) (q := 126) (tgt := 129) dX7_goes_122 rfl dX7_goes_123 (by decide) rfl (fun hc122 => ?_) (fun hc122 => ?_)
                · exact (q3 hc122).elim
                · refine pn_goto (q := 190) dX7_goes_126 (by decide) ?_
                  first | refine pn_iinc1 (q := 193) dX7_goes_190 rfl rfl (by decide) ?_ | refine pn_iinc (q := 193) (mm := 1) dX7_goes_190 rfl rfl (by decide) (by decide) ?_
                  refine pn_goto (q := 75) dX7_goes_193 (by decide) ?_
                  exact k9
      obtain ⟨i1, i2⟩ := hI (e.2.2.2.2.1 (llN x + 1) - e.2.2.2.2.1 (llN x)) (e.2.2.2.2.1 (llN x)) g (by omega) ⟨by omega, hs⟩
      refine ⟨?_, i1⟩
      refine pnCt_of (by decide) kX7_goes (Nat.le_of_ble_eq_true rfl) rfl hM_cl (pnCS_b rfl) ?_
      have CM := m_least adK (d + r) x h0
      have k9 := i2 _ rfl (by omega) (by omega)
      refine pn_lload_n (q := 1) dX7_goes_0 rfl rfl ?_
      refine pn_lconst (q := 2) (v := lN 0) dX7_goes_1 rfl (by decide) ?_
      refine pn_lne (q1 := 3) (q := 6) (tgt := 60) dX7_goes_2 rfl dX7_goes_3 (by decide) rfl (fun hc2 => ?_) (fun hc2 => ?_)
      · refine pn_lload_n (q := 61) dX7_goes_60 rfl rfl ?_
        refine pn_roS1 (q := 64) (CM) lkX7_82 dX7_goes_61 rfl rfl (pnSel_of (I := []) rfl rfl) (pnFree_none rfl) rfl (by omega) (Nat.le_of_ble_eq_true rfl) rfl ?_
        refine pn_istore (q := 66) dX7_goes_64 rfl (by decide) ?_
        refine pn_aload_n (q := 67) dX7_goes_66 rfl rfl rfl ?_
        refine pn_get (q := 70) fX7_47 dX7_goes_67 rfl rfl rfl ?_
        refine pn_iload (q := 72) dX7_goes_70 rfl rfl ?_
        refine pn_iald (q := 73) dX7_goes_72 rfl rfl rfl (by omega) (by first | decide | omega) ?_
        refine pn_istore (q := 75) dX7_goes_73 rfl (by decide) ?_
        exact k9
      · exact (h0 hc2).elim
