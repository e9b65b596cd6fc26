/-! of rows of nodes that tell one part one is taken -/
def fsB (sh : Nat) (E : Nat → Int32) (m : Nat) : Bool := if sh = 2 then decide (2 < m ∨ E 0 < E 1) else if sh = 1 then decide (E 0 < E (m - 1)) else decide ((∀ i, i < m → ¬ E i < E 0) ∧ E 1 < E (m - 1))
set_option maxRecDepth 100000 in
theorem m_isFirst1 (adK : Nat → Nat) (d : Nat) (Y : MN) (P : Nat → MN) (a : G0) (b : G1) (c : G3) (e : G4) (f : G5) (g : G6) (h : G7) (hS : shOk Y.2.2.1 Y.2.2.2.1) (hc2 : 2 ≤ c.2) (hc5 : c.2 ≤ 5) : pnCt mX7_isFirst adK d 0 0 [.ref 0] (hM1 Y P a b c e f g h) (pnIs (.inl (some (.int (nB (fsB Y.2.2.1 c.1 c.2))))) (hM1 Y P a b c e f g h)) := by
  refine pnCt_of (by decide) kX7_isFirst (Nat.le_of_ble_eq_true rfl) rfl hM1_cl (pnCS_b rfl) ?_
  have hs3 : Y.2.2.1 ≤ 3 := by unfold shOk at hS; omega
  by_cases h2 : Y.2.2.1 = 2
  · have e0 : fsB Y.2.2.1 c.1 c.2 = decide (2 < c.2 ∨ c.1 0 < c.1 1) := if_pos h2
    rw [e0]
    refine pn_aload_n (q := 1) dX7_isFirst_0 rfl rfl rfl ?_
    refine pn_get (q := 4) fX7_20 dX7_isFirst_1 rfl rfl rfl ?_
    refine pn_iconst (q := 5) (v := nI 1) dX7_isFirst_4 rfl (by decide) ?_
    (first | refine pn_lald1 (q := 6) dX7_isFirst_5 rfl rfl rfl (by omega) (by first | decide | omega) ?_ | refine pn_lald5 (q := 6) dX7_isFirst_5 rfl rfl rfl (by omega) (by first | decide | omega) ?_); refine pn_eq (h' := _) (st' := .long (lN Y.2.2.1) :: _) rfl rfl ?_
    refine pn_lstore_n (q := 7) dX7_isFirst_6 rfl (by decide) ?_
    refine pn_lload_n (q := 8) dX7_isFirst_7 rfl rfl ?_
    refine pn_ldc2 (q := 11) pw_1258 dX7_isFirst_8 rfl ?_; refine pn_eq (h' := _) (st' := .long (lN 2) :: _) rfl rfl ?_
    refine pn_lne (q1 := 12) (q := 15) (tgt := 44) dX7_isFirst_11 rfl dX7_isFirst_12 (by decide) rfl (fun hc11 => ?_) (fun hc11 => ?_)
    · (rw [lN_eqI (by omega) (by omega)] at hc11; exact (hc11 h2).elim)
    · refine pn_aload_n (q := 16) dX7_isFirst_15 rfl rfl rfl ?_
      refine pn_get (q := 19) fX7_85 dX7_isFirst_16 rfl rfl rfl ?_
      refine pn_iconst (q := 20) (v := nI 2) dX7_isFirst_19 rfl (by decide) ?_
      first | refine pn_ngt (q := 23) (tgt := 38) dX7_isFirst_20 (by decide) rfl (by omega) (by omega) (fun hc20 => ?_) (fun hc20 => ?_) | refine pn_icmp_gt (q := 23) (tgt := 38) dX7_isFirst_20 (by decide) rfl (fun hc20 => ?_) (fun hc20 => ?_)
      · refine pn_iconst (q := 39) (v := nI 1) dX7_isFirst_38 rfl (by decide) ?_
        refine pn_goto (q := 43) dX7_isFirst_39 (by decide) ?_
        refine pn_tret (b := decide (2 < c.2 ∨ c.1 0 < c.1 1)) _ ?_ dX7_isFirst_43 rfl ?_
        · first | (rw [decide_eq_true (Or.inl hc20)]; rfl) | (rw [decide_eq_false (fun q9 => by rcases q9 with q | q; omega; exact absurd q (Int32.not_lt.mpr hc35))]; rfl) | (rw [decide_eq_true (Or.inr (Int32.not_le.mp hc35))]; rfl)
        · exact ⟨rfl, rfl⟩
      · refine pn_aload_n (q := 24) dX7_isFirst_23 rfl rfl rfl ?_
        refine pn_get (q := 27) fX7_32 dX7_isFirst_24 rfl rfl rfl ?_
        refine pn_iconst (q := 28) (v := nI 0) dX7_isFirst_27 rfl (by decide) ?_
        refine pn_iald (q := 29) dX7_isFirst_28 rfl rfl rfl (by omega) (by first | decide | omega) ?_
        refine pn_aload_n (q := 30) dX7_isFirst_29 rfl rfl rfl ?_
        refine pn_get (q := 33) fX7_32 dX7_isFirst_30 rfl rfl rfl ?_
        refine pn_iconst (q := 34) (v := nI 1) dX7_isFirst_33 rfl (by decide) ?_
        refine pn_iald (q := 35) dX7_isFirst_34 rfl rfl rfl (by omega) (by first | decide | omega) ?_
        refine pn_icmp_ge (q := 38) (tgt := 42) dX7_isFirst_35 (by decide) rfl (fun hc35 => ?_) (fun hc35 => ?_)
        · refine pn_iconst (q := 43) (v := nI 0) dX7_isFirst_42 rfl (by decide) ?_
          refine pn_tret (b := decide (2 < c.2 ∨ c.1 0 < c.1 1)) _ ?_ dX7_isFirst_43 rfl ?_
          · first | (rw [decide_eq_true (Or.inl hc20)]; rfl) | (rw [decide_eq_false (fun q9 => by rcases q9 with q | q; omega; exact absurd q (Int32.not_lt.mpr hc35))]; rfl) | (rw [decide_eq_true (Or.inr (Int32.not_le.mp hc35))]; rfl)
          · exact ⟨rfl, rfl⟩
        · refine pn_iconst (q := 39) (v := nI 1) dX7_isFirst_38 rfl (by decide) ?_
          refine pn_goto (q := 43) dX7_isFirst_39 (by decide) ?_
          refine pn_tret (b := decide (2 < c.2 ∨ c.1 0 < c.1 1)) _ ?_ dX7_isFirst_43 rfl ?_
          · first | (rw [decide_eq_true (Or.inl hc20)]; rfl) | (rw [decide_eq_false (fun q9 => by rcases q9 with q | q; omega; exact absurd q (Int32.not_lt.mpr hc35))]; rfl) | (rw [decide_eq_true (Or.inr (Int32.not_le.mp hc35))]; rfl)
          · exact ⟨rfl, rfl⟩
  · by_cases h1 : Y.2.2.1 = 1
    · have e0 : fsB Y.2.2.1 c.1 c.2 = decide (c.1 0 < c.1 (c.2 - 1)) := by unfold fsB; rw [if_neg h2, if_pos h1]
      rw [e0]
      refine pn_aload_n (q := 1) dX7_isFirst_0 rfl rfl rfl ?_
      refine pn_get (q := 4) fX7_20 dX7_isFirst_1 rfl rfl rfl ?_
      refine pn_iconst (q := 5) (v := nI 1) dX7_isFirst_4 rfl (by decide) ?_
      (first | refine pn_lald1 (q := 6) dX7_isFirst_5 rfl rfl rfl (by omega) (by first | decide | omega) ?_ | refine pn_lald5 (q := 6) dX7_isFirst_5 rfl rfl rfl (by omega) (by first | decide | omega) ?_); refine pn_eq (h' := _) (st' := .long (lN Y.2.2.1) :: _) rfl rfl ?_
      refine pn_lstore_n (q := 7) dX7_isFirst_6 rfl (by decide) ?_
      refine pn_lload_n (q := 8) dX7_isFirst_7 rfl rfl ?_
      refine pn_ldc2 (q := 11) pw_1258 dX7_isFirst_8 rfl ?_; refine pn_eq (h' := _) (st' := .long (lN 2) :: _) rfl rfl ?_
      refine pn_lne (q1 := 12) (q := 15) (tgt := 44) dX7_isFirst_11 rfl dX7_isFirst_12 (by decide) rfl (fun hc11 => ?_) (fun hc11 => ?_)
      · refine pn_lload_n (q := 45) dX7_isFirst_44 rfl rfl ?_
        refine pn_lconst (q := 46) (v := lN 1) dX7_isFirst_45 rfl (by decide) ?_
        refine pn_lne (q1 := 47) (q := 50) (tgt := 76) dX7_isFirst_46 rfl dX7_isFirst_47 (by decide) rfl (fun hc46 => ?_) (fun hc46 => ?_)
        · (rw [lN_eqI (by omega) (by omega)] at hc46; exact (hc46 h1).elim)
        · refine pn_aload_n (q := 51) dX7_isFirst_50 rfl rfl rfl ?_
          refine pn_get (q := 54) fX7_32 dX7_isFirst_51 rfl rfl rfl ?_
          refine pn_iconst (q := 55) (v := nI 0) dX7_isFirst_54 rfl (by decide) ?_
          refine pn_iald (q := 56) dX7_isFirst_55 rfl rfl rfl (by omega) (by first | decide | omega) ?_
          refine pn_aload_n (q := 57) dX7_isFirst_56 rfl rfl rfl ?_
          refine pn_get (q := 60) fX7_32 dX7_isFirst_57 rfl rfl rfl ?_
          refine pn_aload_n (q := 61) dX7_isFirst_60 rfl rfl rfl ?_
          refine pn_get (q := 64) fX7_85 dX7_isFirst_61 rfl rfl rfl ?_
          refine pn_iconst (q := 65) (v := nI 1) dX7_isFirst_64 rfl (by decide) ?_
          first | with_reducible refine pn_isubN (q := 66) dX7_isFirst_65 rfl (by omega) ?_ | refine pn_isub (q := 66) dX7_isFirst_65 rfl ?_
          refine pn_iald (q := 67) dX7_isFirst_66 rfl rfl rfl (by omega) (by first | decide | omega) ?_
          refine pn_icmp_ge (q := 70) (tgt := 74) dX7_isFirst_67 (by decide) rfl (fun hc67 => ?_) (fun hc67 => ?_)
          · refine pn_iconst (q := 75) (v := nI 0) dX7_isFirst_74 rfl (by decide) ?_
            refine pn_tret (b := decide (c.1 0 < c.1 (c.2 - 1))) _ ?_ dX7_isFirst_75 rfl ?_
            · first | (rw [decide_eq_false (Int32.not_lt.mpr hc67)]; rfl) | (rw [decide_eq_true (Int32.not_le.mp hc67)]; rfl)
            · exact ⟨rfl, rfl⟩
          · refine pn_iconst (q := 71) (v := nI 1) dX7_isFirst_70 rfl (by decide) ?_
            refine pn_goto (q := 75) dX7_isFirst_71 (by decide) ?_
            refine pn_tret (b := decide (c.1 0 < c.1 (c.2 - 1))) _ ?_ dX7_isFirst_75 rfl ?_
            · first | (rw [decide_eq_false (Int32.not_lt.mpr hc67)]; rfl) | (rw [decide_eq_true (Int32.not_le.mp hc67)]; rfl)
            · exact ⟨rfl, rfl⟩
      · (rw [lN_eqI (by omega) (by omega)] at hc11; exact (h2 hc11).elim)
    · have e0 : fsB Y.2.2.1 c.1 c.2 = decide ((∀ i, i < c.2 → ¬ c.1 i < c.1 0) ∧ c.1 1 < c.1 (c.2 - 1)) := by unfold fsB; rw [if_neg h2, if_neg h1]
      rw [e0]
      have loop : ∀ (z i : Nat), i + z = c.2 → 1 ≤ i → (∀ i', i' < i → ¬ c.1 i' < c.1 0) → pnWP mX7_isFirst adK d (pnIs (.inl (some (.int (nB (decide ((∀ i, i < c.2 → ¬ c.1 i < c.1 0) ∧ c.1 1 < c.1 (c.2 - 1))))))) (hM1 Y P a b c e f g h)) 0 0 (hM1 Y P a b c e f g h) [some (.ref 0), some (.long (lN Y.2.2.1)), none, some (.int (nI i))] [] 78 := by
        intro z
        induction z with
        | zero =>
          intro i hi hi1 H
          have hii : i = c.2 := by omega
          rw [hii] at H
          refine pn_iload_n (q := 79) dX7_isFirst_78 rfl rfl ?_
          refine pn_aload_n (q := 80) dX7_isFirst_79 rfl rfl rfl ?_
          refine pn_get (q := 83) fX7_85 dX7_isFirst_80 rfl rfl rfl ?_
          first | refine pn_nge (q := 86) (tgt := 109) dX7_isFirst_83 (by decide) rfl (by omega) (by omega) (fun hc83 => ?_) (fun hc83 => ?_) | refine pn_icmp_ge (q := 86) (tgt := 109) dX7_isFirst_83 (by decide) rfl (fun hc83 => ?_) (fun hc83 => ?_)
          · refine pn_aload_n (q := 110) dX7_isFirst_109 rfl rfl rfl ?_
            refine pn_get (q := 113) fX7_32 dX7_isFirst_110 rfl rfl rfl ?_
            refine pn_iconst (q := 114) (v := nI 1) dX7_isFirst_113 rfl (by decide) ?_
            refine pn_iald (q := 115) dX7_isFirst_114 rfl rfl rfl (by omega) (by first | decide | omega) ?_
            refine pn_aload_n (q := 116) dX7_isFirst_115 rfl rfl rfl ?_
            refine pn_get (q := 119) fX7_32 dX7_isFirst_116 rfl rfl rfl ?_
            refine pn_aload_n (q := 120) dX7_isFirst_119 rfl rfl rfl ?_
            refine pn_get (q := 123) fX7_85 dX7_isFirst_120 rfl rfl rfl ?_
            refine pn_iconst (q := 124) (v := nI 1) dX7_isFirst_123 rfl (by decide) ?_
            first | with_reducible refine pn_isubN (q := 125) dX7_isFirst_124 rfl (by omega) ?_ | refine pn_isub (q := 125) dX7_isFirst_124 rfl ?_
            refine pn_iald (q := 126) dX7_isFirst_125 rfl rfl rfl (by omega) (by first | decide | omega) ?_
            refine pn_icmp_ge (q := 129) (tgt := 133) dX7_isFirst_126 (by decide) rfl (fun hc126 => ?_) (fun hc126 => ?_)
            · refine pn_iconst (q := 134) (v := nI 0) dX7_isFirst_133 rfl (by decide) ?_
              refine pn_tret (b := decide ((∀ i, i < c.2 → ¬ c.1 i < c.1 0) ∧ c.1 1 < c.1 (c.2 - 1))) _ ?_ dX7_isFirst_134 rfl ?_
              · first | (rw [decide_eq_false (fun q => absurd q.2 (Int32.not_lt.mpr hc126))]; rfl) | (rw [decide_eq_true ⟨H, Int32.not_le.mp hc126⟩]; rfl)
              · exact ⟨rfl, rfl⟩
            · refine pn_iconst (q := 130) (v := nI 1) dX7_isFirst_129 rfl (by decide) ?_
              refine pn_goto (q := 134) dX7_isFirst_130 (by decide) ?_
              refine pn_tret (b := decide ((∀ i, i < c.2 → ¬ c.1 i < c.1 0) ∧ c.1 1 < c.1 (c.2 - 1))) _ ?_ dX7_isFirst_134 rfl ?_
              · first | (rw [decide_eq_false (fun q => absurd q.2 (Int32.not_lt.mpr hc126))]; rfl) | (rw [decide_eq_true ⟨H, Int32.not_le.mp hc126⟩]; rfl)
              · exact ⟨rfl, rfl⟩
          · omega
        | succ z ih =>
          intro i hi hi1 H
          refine pn_iload_n (q := 79) dX7_isFirst_78 rfl rfl ?_
          refine pn_aload_n (q := 80) dX7_isFirst_79 rfl rfl rfl ?_
          refine pn_get (q := 83) fX7_85 dX7_isFirst_80 rfl rfl rfl ?_
          first | refine pn_nge (q := 86) (tgt := 109) dX7_isFirst_83 (by decide) rfl (by omega) (by omega) (fun hc83 => ?_) (fun hc83 => ?_) | refine pn_icmp_ge (q := 86) (tgt := 109) dX7_isFirst_83 (by decide) rfl (fun hc83 => ?_) (fun hc83 => ?_)
          · omega
          · refine pn_aload_n (q := 87) dX7_isFirst_86 rfl rfl rfl ?_
            refine pn_get (q := 90) fX7_32 dX7_isFirst_87 rfl rfl rfl ?_
            refine pn_iload_n (q := 91) dX7_isFirst_90 rfl rfl ?_
            refine pn_iald (q := 92) dX7_isFirst_91 rfl rfl rfl (by omega) (by first | decide | omega) ?_
            refine pn_aload_n (q := 93) dX7_isFirst_92 rfl rfl rfl ?_
            refine pn_get (q := 96) fX7_32 dX7_isFirst_93 rfl rfl rfl ?_
            refine pn_iconst (q := 97) (v := nI 0) dX7_isFirst_96 rfl (by decide) ?_
            refine pn_iald (q := 98) dX7_isFirst_97 rfl rfl rfl (by omega) (by first | decide | omega) ?_
            refine pn_icmp_ge (q := 101) (tgt := 103) dX7_isFirst_98 (by decide) rfl (fun hc98 => ?_) (fun hc98 => ?_)
            · first | refine pn_iinc1 (q := 106) dX7_isFirst_103 rfl rfl (by decide) ?_ | refine pn_iinc (q := 106) (mm := 1) dX7_isFirst_103 rfl rfl (by decide) (by decide) ?_
              refine pn_goto (q := 78) dX7_isFirst_106 (by decide) ?_
              exact ih (i + 1) (by omega) (by omega) (fun i' hi' => by rcases Nat.lt_or_eq_of_le (Nat.le_of_lt_succ hi') with q | q; exact H i' q; rw [q]; exact Int32.not_lt.mpr hc98)
            · refine pn_iconst (q := 102) (v := nI 0) dX7_isFirst_101 rfl (by decide) ?_
              refine pn_tret (b := decide ((∀ i, i < c.2 → ¬ c.1 i < c.1 0) ∧ c.1 1 < c.1 (c.2 - 1))) _ ?_ dX7_isFirst_102 rfl ?_
              · rw [decide_eq_false (fun q => q.1 i (by omega) (Int32.not_le.mp hc98))]; rfl
              · exact ⟨rfl, rfl⟩
      refine pn_aload_n (q := 1) dX7_isFirst_0 rfl rfl rfl ?_
      refine pn_get (q := 4) fX7_20 dX7_isFirst_1 rfl rfl rfl ?_
      refine pn_iconst (q := 5) (v := nI 1) dX7_isFirst_4 rfl (by decide) ?_
      (first | refine pn_lald1 (q := 6) dX7_isFirst_5 rfl rfl rfl (by omega) (by first | decide | omega) ?_ | refine pn_lald5 (q := 6) dX7_isFirst_5 rfl rfl rfl (by omega) (by first | decide | omega) ?_); refine pn_eq (h' := _) (st' := .long (lN Y.2.2.1) :: _) rfl rfl ?_
      refine pn_lstore_n (q := 7) dX7_isFirst_6 rfl (by decide) ?_
      refine pn_lload_n (q := 8) dX7_isFirst_7 rfl rfl ?_
      refine pn_ldc2 (q := 11) pw_1258 dX7_isFirst_8 rfl ?_; refine pn_eq (h' := _) (st' := .long (lN 2) :: _) rfl rfl ?_
      refine pn_lne (q1 := 12) (q := 15) (tgt := 44) dX7_isFirst_11 rfl dX7_isFirst_12 (by decide) rfl (fun hc11 => ?_) (fun hc11 => ?_)
      · refine pn_lload_n (q := 45) dX7_isFirst_44 rfl rfl ?_
        refine pn_lconst (q := 46) (v := lN 1) dX7_isFirst_45 rfl (by decide) ?_
        refine pn_lne (q1 := 47) (q := 50) (tgt := 76) dX7_isFirst_46 rfl dX7_isFirst_47 (by decide) rfl (fun hc46 => ?_) (fun hc46 => ?_)
        · refine pn_iconst (q := 77) (v := nI 1) dX7_isFirst_76 rfl (by decide) ?_
          refine pn_istore_n (q := 78) dX7_isFirst_77 rfl (by decide) ?_
          exact loop (c.2 - 1) 1 (by omega) (by omega) (fun i' hi' => by rw [show i' = 0 by omega]; exact fun q => Int32.lt_irrefl q)
        · (rw [lN_eqI (by omega) (by omega)] at hc46; exact (h1 hc46).elim)
      · (rw [lN_eqI (by omega) (by omega)] at hc11; exact (h2 hc11).elim)
/-! all parts of a shape, as the reference goes through them -/
def skS9 (sh m : Nat) (E : Nat → Int32) (u v : Nat) : Bool := u.testBit v || (decide (sh = 2) && (decide (1 < m) && decide (nI v < E (m - 1))))
def skV (F : Nat → (Nat → Int32) → List Int64 × (Nat → Int32)) (sh m u : Nat) : Nat → Nat → (Nat → Int32) → List Int64 × (Nat → Int32)
  | 0, _, E => ([], E)
  | z + 1, v, E => if skS9 sh m E u v = true then skV F sh m u z (v + 1) E else ((F (u ||| 2 ^ v) (upd E m (nI v))).1 ++ (skV F sh m u z (v + 1) (F (u ||| 2 ^ v) (upd E m (nI v))).2).1, (skV F sh m u z (v + 1) (F (u ||| 2 ^ v) (upd E m (nI v))).2).2)
def skG (n sh k : Nat) : Nat → Nat → Nat → (Nat → Int32) → List Int64 × (Nat → Int32)
  | 0, m, _, E => (if fsB sh E m = true then [lpN n sh k E 0 m] else [], E)
  | r + 1, m, u, E => skV (fun u' E' => skG n sh k r (m + 1) u' E') sh m u n 0 E
/-- a list written into a row from a place on -/
def wrL (f : Nat → Int64) (p : Nat) : List Int64 → Nat → Int64
  | [] => f
  | x :: t => wrL (vp_updL f p x) (p + 1) t
theorem wrL_app : ∀ (s t : List Int64) (f : Nat → Int64) (p : Nat), wrL f p (s ++ t) = wrL (wrL f p s) (p + s.length) t
  | [], t, f, p => rfl
  | x :: s, t, f, p => by
    show wrL (vp_updL f p x) (p + 1) (s ++ t) = wrL (wrL (vp_updL f p x) (p + 1) s) (p + (s.length + 1)) t
    rw [wrL_app s t, show p + (s.length + 1) = p + 1 + s.length by omega]
/-- the row behind: written only where it is kept -/
def wrK (kp : Bool) (f : Nat → Int64) (p : Nat) (s : List Int64) : Nat → Int64 := if kp = true then wrL f p s else f
theorem wrK_app (kp : Bool) (f : Nat → Int64) (p : Nat) (s t : List Int64) : wrK kp f p (s ++ t) = wrK kp (wrK kp f p s) (p + s.length) t := by
  cases kp with
  | true => exact wrL_app s t f p
  | false => rfl
abbrev eAl (e : G4) (f : Nat → Int64) (m : Nat) : G4 := (e.1, f, e.2.2.1, e.2.2.2.1, e.2.2.2.2.1, e.2.2.2.2.2.1, e.2.2.2.2.2.2.1, e.2.2.2.2.2.2.2.1, m)
set_option maxRecDepth 100000 in
theorem m_seeks1 (adK : Nat → Nat) (d : Nat) : ∀ (r : Nat) (Y : MN) (P : Nat → MN) (a : G0) (b : G1) (c : G3) (e : G4) (f : G5) (g : G6) (h : G7) (u : Nat) (kp : Bool), shOk Y.2.2.1 Y.2.2.2.1 → c.2 + r = plN Y.2.2.1 Y.2.2.2.1 → Y.1 ≤ 11 → 1 ≤ Y.1 → u < 2048 → e.2.2.2.2.2.2.2.2 + (skG Y.1 Y.2.2.1 Y.2.2.2.1 r c.2 u c.1).1.length ≤ 1000000 → (kp = true → e.2.2.2.2.2.2.2.2 + (skG Y.1 Y.2.2.1 Y.2.2.2.1 r c.2 u c.1).1.length ≤ e.1) → e.1 ≤ 1000000 → pnCt mX7_seeks adK (d + 3 + r) 0 0 [.ref 0, .int (nI u), .int (nB kp)] (hM1 Y P a b c e f g h) (pnIs (.inl none) (hM1 Y P a b ((skG Y.1 Y.2.2.1 Y.2.2.2.1 r c.2 u c.1).2, c.2) (eAl e (wrK kp e.2.1 e.2.2.2.2.2.2.2.2 (skG Y.1 Y.2.2.1 Y.2.2.2.1 r c.2 u c.1).1) (e.2.2.2.2.2.2.2.2 + (skG Y.1 Y.2.2.1 Y.2.2.2.1 r c.2 u c.1).1.length)) f g h)) := by
  intro r
  induction r with
  | zero =>
    intro Y P a b c e f g h u kp hS hr hn hn1 hu hA hK he
    refine pnCt_of (by decide) kX7_seeks (Nat.le_of_ble_eq_true rfl) rfl hM1_cl (pnCS_b rfl) ?_
    obtain ⟨b1, b2, b3, b4, b5, b6⟩ := shOk_b hS
    have CE := m_endsOf adK d Y.2.2.1 Y.2.2.2.1 b1 (by omega)
    have CI := m_isFirst1 adK (d + 2) Y P a b c e f g h hS (by omega) (by omega)
    have CP := m_partOf1 adK d Y P a b c e f g h Y.1 Y.2.2.1 Y.2.2.2.1 rfl rfl rfl hS hn hn1 (by omega)
    have eG : skG Y.1 Y.2.2.1 Y.2.2.2.1 0 c.2 u c.1 = (if fsB Y.2.2.1 c.1 c.2 = true then [lpN Y.1 Y.2.2.1 Y.2.2.2.1 c.1 0 c.2] else [], c.1) := rfl
    rw [eG] at hA hK ⊢
    cases hf : fsB Y.2.2.1 c.1 c.2 with
    | false =>
      rw [hf] at CI hA hK
      rw [if_neg Bool.false_ne_true] at hA hK ⊢
      have ew : wrK kp e.2.1 e.2.2.2.2.2.2.2.2 ([] : List Int64) = e.2.1 := by cases kp <;> rfl
      refine pn_aload_n (q := 1) dX7_seeks_0 rfl rfl rfl ?_
      refine pn_get (q := 4) fX7_85 dX7_seeks_1 rfl rfl rfl ?_
      refine pn_aload_n (q := 5) dX7_seeks_4 rfl rfl rfl ?_
      refine pn_get (q := 8) fX7_20 dX7_seeks_5 rfl rfl rfl ?_
      refine pn_iconst (q := 9) (v := nI 1) dX7_seeks_8 rfl (by decide) ?_
      (first | refine pn_lald1 (q := 10) dX7_seeks_9 rfl rfl rfl (by omega) (by first | decide | omega) ?_ | refine pn_lald5 (q := 10) dX7_seeks_9 rfl rfl rfl (by omega) (by first | decide | omega) ?_); refine pn_eq (h' := _) (st' := .long (lN Y.2.2.1) :: _) rfl rfl ?_
      refine pn_aload_n (q := 11) dX7_seeks_10 rfl rfl rfl ?_
      refine pn_get (q := 14) fX7_20 dX7_seeks_11 rfl rfl rfl ?_
      refine pn_iconst (q := 15) (v := nI 2) dX7_seeks_14 rfl (by decide) ?_
      (first | refine pn_lald1 (q := 16) dX7_seeks_15 rfl rfl rfl (by omega) (by first | decide | omega) ?_ | refine pn_lald5 (q := 16) dX7_seeks_15 rfl rfl rfl (by omega) (by first | decide | omega) ?_); refine pn_eq (h' := _) (st' := .long (lN Y.2.2.2.1) :: _) rfl rfl ?_
      refine pn_roS1 (q := 19) (CE) lkX7_88 dX7_seeks_16 rfl rfl (pnSel_of (I := []) rfl rfl) (pnFree_none rfl) rfl (by omega) (Nat.le_of_ble_eq_true rfl) rfl ?_
      first | refine pn_nne (q := 22) (tgt := 62) dX7_seeks_19 (by decide) rfl (by omega) (by omega) (fun hc19 => ?_) (fun hc19 => ?_) | refine pn_icmp_ne (q := 22) (tgt := 62) dX7_seeks_19 (by decide) rfl (fun hc19 => ?_) (fun hc19 => ?_)
      · omega
      · refine pn_aload_n (q := 23) dX7_seeks_22 rfl rfl rfl ?_
        refine pn_idV (q := 26) (bc9 := 0) (bs9 := 0) (CI) lkX7_238 dX7_seeks_23 rfl rfl (hM1_cl) (hM1_cl) (Nat.le_of_ble_eq_true rfl) rfl rfl rfl rfl rfl rfl (by omega) (by omega) (by omega) (Nat.le_of_ble_eq_true rfl) ?_
        refine pn_bne (q := 29) (tgt := 30) dX7_seeks_26 (by decide) rfl (fun hc26 => ?_) (fun hc26 => ?_)
        · cases hc26
        · refine pn_vret dX7_seeks_29 rfl ?_
          exact ⟨rfl, by rw [ew]; rfl⟩
    | true =>
      rw [hf] at CI hA hK
      rw [if_pos rfl] at hA hK ⊢
      have hA : e.2.2.2.2.2.2.2.2 + 1 ≤ 1000000 := hA
      have hK : kp = true → e.2.2.2.2.2.2.2.2 + 1 ≤ e.1 := hK
      cases kp with
      | false =>
        refine pn_aload_n (q := 1) dX7_seeks_0 rfl rfl rfl ?_
        refine pn_get (q := 4) fX7_85 dX7_seeks_1 rfl rfl rfl ?_
        refine pn_aload_n (q := 5) dX7_seeks_4 rfl rfl rfl ?_
        refine pn_get (q := 8) fX7_20 dX7_seeks_5 rfl rfl rfl ?_
        refine pn_iconst (q := 9) (v := nI 1) dX7_seeks_8 rfl (by decide) ?_
        (first | refine pn_lald1 (q := 10) dX7_seeks_9 rfl rfl rfl (by omega) (by first | decide | omega) ?_ | refine pn_lald5 (q := 10) dX7_seeks_9 rfl rfl rfl (by omega) (by first | decide | omega) ?_); refine pn_eq (h' := _) (st' := .long (lN Y.2.2.1) :: _) rfl rfl ?_
        refine pn_aload_n (q := 11) dX7_seeks_10 rfl rfl rfl ?_
        refine pn_get (q := 14) fX7_20 dX7_seeks_11 rfl rfl rfl ?_
        refine pn_iconst (q := 15) (v := nI 2) dX7_seeks_14 rfl (by decide) ?_
        (first | refine pn_lald1 (q := 16) dX7_seeks_15 rfl rfl rfl (by omega) (by first | decide | omega) ?_ | refine pn_lald5 (q := 16) dX7_seeks_15 rfl rfl rfl (by omega) (by first | decide | omega) ?_); refine pn_eq (h' := _) (st' := .long (lN Y.2.2.2.1) :: _) rfl rfl ?_
        refine pn_roS1 (q := 19) (CE) lkX7_88 dX7_seeks_16 rfl rfl (pnSel_of (I := []) rfl rfl) (pnFree_none rfl) rfl (by omega) (Nat.le_of_ble_eq_true rfl) rfl ?_
        first | refine pn_nne (q := 22) (tgt := 62) dX7_seeks_19 (by decide) rfl (by omega) (by omega) (fun hc19 => ?_) (fun hc19 => ?_) | refine pn_icmp_ne (q := 22) (tgt := 62) dX7_seeks_19 (by decide) rfl (fun hc19 => ?_) (fun hc19 => ?_)
        · omega
        · refine pn_aload_n (q := 23) dX7_seeks_22 rfl rfl rfl ?_
          refine pn_idV (q := 26) (bc9 := 0) (bs9 := 0) (CI) lkX7_238 dX7_seeks_23 rfl rfl (hM1_cl) (hM1_cl) (Nat.le_of_ble_eq_true rfl) rfl rfl rfl rfl rfl rfl (by omega) (by omega) (by omega) (Nat.le_of_ble_eq_true rfl) ?_
          refine pn_bne (q := 29) (tgt := 30) dX7_seeks_26 (by decide) rfl (fun hc26 => ?_) (fun hc26 => ?_)
          · refine pn_iload_n (q := 31) dX7_seeks_30 rfl rfl ?_
            refine pn_beq (q := 34) (tgt := 51) dX7_seeks_31 (by decide) rfl (fun hc31 => ?_) (fun hc31 => ?_)
            · refine pn_aload_n (q := 52) dX7_seeks_51 rfl rfl rfl ?_
              refine pn_dup (q := 53) dX7_seeks_52 rfl rfl ?_
              refine pn_get (q := 56) fX7_241 dX7_seeks_53 rfl rfl rfl ?_
              refine pn_iconst (q := 57) (v := nI 1) dX7_seeks_56 rfl (by decide) ?_
              first | with_reducible refine pn_iaddN (q := 58) dX7_seeks_57 rfl ?_ | refine pn_iadd (q := 58) dX7_seeks_57 rfl ?_
              refine pn_put (q := 61) fX7_241 dX7_seeks_58 rfl rfl (Nat.le_of_ble_eq_true rfl) (pnF_int _) ?_
              refine pn_vret dX7_seeks_61 rfl ?_
              exact ⟨rfl, rfl⟩
            · cases hc31
          · cases hc26
      | true =>
        have hK := hK rfl
        refine pn_aload_n (q := 1) dX7_seeks_0 rfl rfl rfl ?_
        refine pn_get (q := 4) fX7_85 dX7_seeks_1 rfl rfl rfl ?_
        refine pn_aload_n (q := 5) dX7_seeks_4 rfl rfl rfl ?_
        refine pn_get (q := 8) fX7_20 dX7_seeks_5 rfl rfl rfl ?_
        refine pn_iconst (q := 9) (v := nI 1) dX7_seeks_8 rfl (by decide) ?_
        (first | refine pn_lald1 (q := 10) dX7_seeks_9 rfl rfl rfl (by omega) (by first | decide | omega) ?_ | refine pn_lald5 (q := 10) dX7_seeks_9 rfl rfl rfl (by omega) (by first | decide | omega) ?_); refine pn_eq (h' := _) (st' := .long (lN Y.2.2.1) :: _) rfl rfl ?_
        refine pn_aload_n (q := 11) dX7_seeks_10 rfl rfl rfl ?_
        refine pn_get (q := 14) fX7_20 dX7_seeks_11 rfl rfl rfl ?_
        refine pn_iconst (q := 15) (v := nI 2) dX7_seeks_14 rfl (by decide) ?_
        (first | refine pn_lald1 (q := 16) dX7_seeks_15 rfl rfl rfl (by omega) (by first | decide | omega) ?_ | refine pn_lald5 (q := 16) dX7_seeks_15 rfl rfl rfl (by omega) (by first | decide | omega) ?_); refine pn_eq (h' := _) (st' := .long (lN Y.2.2.2.1) :: _) rfl rfl ?_
        refine pn_roS1 (q := 19) (CE) lkX7_88 dX7_seeks_16 rfl rfl (pnSel_of (I := []) rfl rfl) (pnFree_none rfl) rfl (by omega) (Nat.le_of_ble_eq_true rfl) rfl ?_
        first | refine pn_nne (q := 22) (tgt := 62) dX7_seeks_19 (by decide) rfl (by omega) (by omega) (fun hc19 => ?_) (fun hc19 => ?_) | refine pn_icmp_ne (q := 22) (tgt := 62) dX7_seeks_19 (by decide) rfl (fun hc19 => ?_) (fun hc19 => ?_)
        · omega
        · refine pn_aload_n (q := 23) dX7_seeks_22 rfl rfl rfl ?_
          refine pn_idV (q := 26) (bc9 := 0) (bs9 := 0) (CI) lkX7_238 dX7_seeks_23 rfl rfl (hM1_cl) (hM1_cl) (Nat.le_of_ble_eq_true rfl) rfl rfl rfl rfl rfl rfl (by omega) (by omega) (by omega) (Nat.le_of_ble_eq_true rfl) ?_
          refine pn_bne (q := 29) (tgt := 30) dX7_seeks_26 (by decide) rfl (fun hc26 => ?_) (fun hc26 => ?_)
          · refine pn_iload_n (q := 31) dX7_seeks_30 rfl rfl ?_
            refine pn_beq (q := 34) (tgt := 51) dX7_seeks_31 (by decide) rfl (fun hc31 => ?_) (fun hc31 => ?_)
            · cases hc31
            · refine pn_aload_n (q := 35) dX7_seeks_34 rfl rfl rfl ?_
              refine pn_get (q := 38) fX7_41 dX7_seeks_35 rfl rfl rfl ?_
              refine pn_aload_n (q := 39) dX7_seeks_38 rfl rfl rfl ?_
              refine pn_get (q := 42) fX7_241 dX7_seeks_39 rfl rfl rfl ?_
              refine pn_aload_n (q := 43) dX7_seeks_42 rfl rfl rfl ?_
              refine pn_aload_n (q := 44) dX7_seeks_43 rfl rfl rfl ?_
              refine pn_get (q := 47) fX7_20 dX7_seeks_44 rfl rfl rfl ?_
              refine pn_idV (q := 50) (bc9 := 0) (bs9 := 0) (CP) lkX7_202 dX7_seeks_47 rfl rfl (hM1_cl) (hM1_cl) (Nat.le_of_ble_eq_true rfl) rfl rfl rfl rfl rfl rfl (by omega) (by omega) (by omega) (Nat.le_of_ble_eq_true rfl) ?_
              refine pn_last1 (q := 51) dX7_seeks_50 rfl rfl rfl (by omega) (by omega) ?_
              refine pn_aload_n (q := 52) dX7_seeks_51 rfl rfl rfl ?_
              refine pn_dup (q := 53) dX7_seeks_52 rfl rfl ?_
              refine pn_get (q := 56) fX7_241 dX7_seeks_53 rfl rfl rfl ?_
              refine pn_iconst (q := 57) (v := nI 1) dX7_seeks_56 rfl (by decide) ?_
              first | with_reducible refine pn_iaddN (q := 58) dX7_seeks_57 rfl ?_ | refine pn_iadd (q := 58) dX7_seeks_57 rfl ?_
              refine pn_put (q := 61) fX7_241 dX7_seeks_58 rfl rfl (Nat.le_of_ble_eq_true rfl) (pnF_int _) ?_
              refine pn_vret dX7_seeks_61 rfl ?_
              exact ⟨rfl, rfl⟩
          · cases hc26
  | succ r ih =>
    intro Y P a b c e f g h u kp hS hr hn hn1 hu hA hK he
    refine pnCt_of (by decide) kX7_seeks (Nat.le_of_ble_eq_true rfl) rfl hM1_cl (pnCS_b rfl) ?_
    obtain ⟨b1, b2, b3, b4, b5, b6⟩ := shOk_b hS
    have CE := m_endsOf adK d Y.2.2.1 Y.2.2.2.1 b1 (by omega)
    have eG : skG Y.1 Y.2.2.1 Y.2.2.2.1 (r + 1) c.2 u c.1 = skV (fun u' E' => skG Y.1 Y.2.2.1 Y.2.2.2.1 r (c.2 + 1) u' E') Y.2.2.1 c.2 u Y.1 0 c.1 := rfl
    rw [eG] at hA hK ⊢
    generalize hR : skV (fun u' E' => skG Y.1 Y.2.2.1 Y.2.2.2.1 r (c.2 + 1) u' E') Y.2.2.1 c.2 u Y.1 0 c.1 = R at hA hK ⊢
    have loop : ∀ (z v : Nat) (E : Nat → Int32) (pre : List Int64), v + z = Y.1 → (pre ++ (skV (fun u' E' => skG Y.1 Y.2.2.1 Y.2.2.2.1 r (c.2 + 1) u' E') Y.2.2.1 c.2 u z v E).1, (skV (fun u' E' => skG Y.1 Y.2.2.1 Y.2.2.2.1 r (c.2 + 1) u' E') Y.2.2.1 c.2 u z v E).2) = R → pnWP mX7_seeks adK (d + 3 + (r + 1)) (pnIs (.inl none) (hM1 Y P a b (R.2, c.2) (eAl e (wrK kp e.2.1 e.2.2.2.2.2.2.2.2 R.1) (e.2.2.2.2.2.2.2.2 + R.1.length)) f g h)) 0 0 (hM1 Y P a b (E, c.2) (eAl e (wrK kp e.2.1 e.2.2.2.2.2.2.2.2 pre) (e.2.2.2.2.2.2.2.2 + pre.length)) f g h) [some (.ref 0), some (.int (nI u)), some (.int (nB kp)), some (.int (nI v))] [] 64 := by
      intro z
      induction z with
      | zero =>
        intro v E pre hv e9
        have e8 : R = (pre, E) := by rw [← e9]; show (pre ++ [], E) = (pre, E); rw [List.append_nil]
        rw [e8]
        refine pn_iload_n (q := 65) dX7_seeks_64 rfl rfl ?_
        first | with_reducible refine pn_i2lN (q := 66) dX7_seeks_65 rfl (by omega) ?_ | refine pn_i2l (q := 66) dX7_seeks_65 rfl ?_
        refine pn_aload_n (q := 67) dX7_seeks_66 rfl rfl rfl ?_
        refine pn_get (q := 70) fX7_20 dX7_seeks_67 rfl rfl rfl ?_
        refine pn_iconst (q := 71) (v := nI 0) dX7_seeks_70 rfl (by decide) ?_
        (first | refine pn_lald1 (q := 72) dX7_seeks_71 rfl rfl rfl (by omega) (by first | decide | omega) ?_ | refine pn_lald5 (q := 72) dX7_seeks_71 rfl rfl rfl (by omega) (by first | decide | omega) ?_); refine pn_eq (h' := _) (st' := .long (lN Y.1) :: _) rfl rfl ?_
        refine pn_lge (q1 := 73) (q := 76) (tgt := 170) dX7_seeks_72 rfl dX7_seeks_73 (by decide) rfl (fun hc72 => ?_) (fun hc72 => ?_)
        · refine pn_vret dX7_seeks_170 rfl ?_
          exact ⟨rfl, rfl⟩
        · exact (hc72 ((lN_leI (by omega) (by omega)).mpr (by omega))).elim
      | succ z ih2 =>
        intro v E pre hv e9
        have e7 : skV (fun u' E' => skG Y.1 Y.2.2.1 Y.2.2.2.1 r (c.2 + 1) u' E') Y.2.2.1 c.2 u (z + 1) v E = if skS9 Y.2.2.1 c.2 E u v = true then skV (fun u' E' => skG Y.1 Y.2.2.1 Y.2.2.2.1 r (c.2 + 1) u' E') Y.2.2.1 c.2 u z (v + 1) E else ((skG Y.1 Y.2.2.1 Y.2.2.2.1 r (c.2 + 1) (u ||| 2 ^ v) (upd E c.2 (nI v))).1 ++ (skV (fun u' E' => skG Y.1 Y.2.2.1 Y.2.2.2.1 r (c.2 + 1) u' E') Y.2.2.1 c.2 u z (v + 1) (skG Y.1 Y.2.2.1 Y.2.2.2.1 r (c.2 + 1) (u ||| 2 ^ v) (upd E c.2 (nI v))).2).1, (skV (fun u' E' => skG Y.1 Y.2.2.1 Y.2.2.2.1 r (c.2 + 1) u' E') Y.2.2.1 c.2 u z (v + 1) (skG Y.1 Y.2.2.1 Y.2.2.2.1 r (c.2 + 1) (u ||| 2 ^ v) (upd E c.2 (nI v))).2).2) := rfl
        have hbit := bit_nI u hu v (by omega)
        have skip : skS9 Y.2.2.1 c.2 E u v = true → pnWP mX7_seeks adK (d + 3 + (r + 1)) (pnIs (.inl none) (hM1 Y P a b (R.2, c.2) (eAl e (wrK kp e.2.1 e.2.2.2.2.2.2.2.2 R.1) (e.2.2.2.2.2.2.2.2 + R.1.length)) f g h)) 0 0 (hM1 Y P a b (E, c.2) (eAl e (wrK kp e.2.1 e.2.2.2.2.2.2.2.2 pre) (e.2.2.2.2.2.2.2.2 + pre.length)) f g h) [some (.ref 0), some (.int (nI u)), some (.int (nB kp)), some (.int (nI v))] [] 164 := by
          intro hs
          rw [e7, if_pos hs] at e9
          first | refine pn_iinc1 (q := 167) dX7_seeks_164 rfl rfl (by decide) ?_ | refine pn_iinc (q := 167) (mm := 1) dX7_seeks_164 rfl rfl (by decide) (by decide) ?_
          refine pn_goto (q := 64) dX7_seeks_167 (by decide) ?_
          exact ih2 (v + 1) E pre (by omega) e9
        have go : skS9 Y.2.2.1 c.2 E u v = false → pnWP mX7_seeks adK (d + 3 + (r + 1)) (pnIs (.inl none) (hM1 Y P a b (R.2, c.2) (eAl e (wrK kp e.2.1 e.2.2.2.2.2.2.2.2 R.1) (e.2.2.2.2.2.2.2.2 + R.1.length)) f g h)) 0 0 (hM1 Y P a b (E, c.2) (eAl e (wrK kp e.2.1 e.2.2.2.2.2.2.2.2 pre) (e.2.2.2.2.2.2.2.2 + pre.length)) f g h) [some (.ref 0), some (.int (nI u)), some (.int (nB kp)), some (.int (nI v))] [] 124 := by
          intro hs
          rw [e7, if_neg (by rw [hs]; exact Bool.false_ne_true)] at e9
          have hu2 : u ||| 2 ^ v < 2048 := Nat.or_lt_two_pow (n := 11) hu (Nat.pow_lt_pow_right (by omega) (by omega))
          have CS := ih Y P a b (upd E c.2 (nI v), c.2 + 1) (eAl e (wrK kp e.2.1 e.2.2.2.2.2.2.2.2 pre) (e.2.2.2.2.2.2.2.2 + pre.length)) f g h (u ||| 2 ^ v) kp hS (by show c.2 + 1 + r = _; omega) hn hn1 hu2
          have hq1 : (skG Y.1 Y.2.2.1 Y.2.2.2.1 r (c.2 + 1) (u ||| 2 ^ v) (upd E c.2 (nI v))).1.length + pre.length ≤ R.1.length := by
            rw [← e9]
            simp only [List.length_append]
            omega
          have k9 := ih2 (v + 1) (skG Y.1 Y.2.2.1 Y.2.2.2.1 r (c.2 + 1) (u ||| 2 ^ v) (upd E c.2 (nI v))).2 (pre ++ (skG Y.1 Y.2.2.1 Y.2.2.2.1 r (c.2 + 1) (u ||| 2 ^ v) (upd E c.2 (nI v))).1) (by omega) (by rw [List.append_assoc]; exact e9)
          have CS2 := CS (by show e.2.2.2.2.2.2.2.2 + pre.length + (skG Y.1 Y.2.2.1 Y.2.2.2.1 r (c.2 + 1) (u ||| 2 ^ v) (upd E c.2 (nI v))).1.length ≤ 1000000; omega) (fun q => by have := hK q; show e.2.2.2.2.2.2.2.2 + pre.length + (skG Y.1 Y.2.2.1 Y.2.2.2.1 r (c.2 + 1) (u ||| 2 ^ v) (upd E c.2 (nI v))).1.length ≤ e.1; omega) he
          dsimp only at CS2
          generalize skG Y.1 Y.2.2.1 Y.2.2.2.1 r (c.2 + 1) (u ||| 2 ^ v) (upd E c.2 (nI v)) = q at *
          rw [wrK_app, List.length_append, ← Nat.add_assoc e.2.2.2.2.2.2.2.2 pre.length q.1.length] at k9
          refine pn_aload_n (q := 125) dX7_seeks_124 rfl rfl rfl ?_
          refine pn_get (q := 128) fX7_32 dX7_seeks_125 rfl rfl rfl ?_
          refine pn_aload_n (q := 129) dX7_seeks_128 rfl rfl rfl ?_
          (refine pn_get (q := 132) fX7_85 dX7_seeks_129 rfl rfl rfl ?_)
          refine pn_eq (h' := _) (st' := .int (nI c.2) :: _) rfl rfl ?_
          refine pn_iload_n (q := 133) dX7_seeks_132 rfl rfl ?_
          refine pn_iast (q := 134) dX7_seeks_133 rfl rfl rfl (by omega) (by first | decide | omega) ?_
          refine pn_aload_n (q := 135) dX7_seeks_134 rfl rfl rfl ?_
          refine pn_dup (q := 136) dX7_seeks_135 rfl rfl ?_
          (refine pn_get (q := 139) fX7_85 dX7_seeks_136 rfl rfl rfl ?_)
          refine pn_eq (h' := _) (st' := .int (nI c.2) :: _) rfl rfl ?_
          refine pn_iconst (q := 140) (v := nI 1) dX7_seeks_139 rfl (by decide) ?_
          first | with_reducible refine pn_iaddN (q := 141) dX7_seeks_140 rfl ?_ | refine pn_iadd (q := 141) dX7_seeks_140 rfl ?_
          (refine pn_put (q := 144) fX7_85 dX7_seeks_141 rfl rfl (Nat.le_of_ble_eq_true rfl) (pnF_int _) ?_)
          refine pn_eq (h' := (hM1 Y P a b (upd E c.2 (nI v), c.2 + 1) (eAl e (wrK kp e.2.1 e.2.2.2.2.2.2.2.2 pre) (e.2.2.2.2.2.2.2.2 + pre.length)) f g h)) (st' := _) rfl rfl ?_
          refine pn_aload_n (q := 145) dX7_seeks_144 rfl rfl rfl ?_
          refine pn_iload_n (q := 146) dX7_seeks_145 rfl rfl ?_
          refine pn_iconst (q := 147) (v := nI 1) dX7_seeks_146 rfl (by decide) ?_
          refine pn_iload_n (q := 148) dX7_seeks_147 rfl rfl ?_
          refine pn_ishl (q := 149) dX7_seeks_148 rfl ?_; rw [shl_nI v (by omega)]
          refine pn_ior (q := 150) dX7_seeks_149 rfl ?_; rw [nI_or]
          refine pn_iload_n (q := 151) dX7_seeks_150 rfl rfl ?_
          refine pn_idV (q := 154) (bc9 := 0) (bs9 := 0) (CS2) lkX7_244 dX7_seeks_151 rfl rfl (hM1_cl) (hM1_cl) (Nat.le_of_ble_eq_true rfl) rfl rfl rfl rfl rfl rfl (by omega) (by omega) (by omega) (Nat.le_of_ble_eq_true rfl) ?_
          refine pn_aload_n (q := 155) dX7_seeks_154 rfl rfl rfl ?_
          refine pn_dup (q := 156) dX7_seeks_155 rfl rfl ?_
          (refine pn_get (q := 159) fX7_85 dX7_seeks_156 rfl rfl rfl ?_)
          refine pn_eq (h' := _) (st' := .int (nI (c.2 + 1)) :: _) rfl rfl ?_
          refine pn_iconst (q := 160) (v := nI 1) dX7_seeks_159 rfl (by decide) ?_
          first | with_reducible refine pn_isubN (q := 161) dX7_seeks_160 rfl (by omega) ?_ | refine pn_isub (q := 161) dX7_seeks_160 rfl ?_
          (refine pn_put (q := 164) fX7_85 dX7_seeks_161 rfl rfl (Nat.le_of_ble_eq_true rfl) (pnF_int _) ?_)
          refine pn_eq (h' := (hM1 Y P a b (q.2, c.2) (eAl e (wrK kp (wrK kp e.2.1 e.2.2.2.2.2.2.2.2 pre) (e.2.2.2.2.2.2.2.2 + pre.length) q.1) (e.2.2.2.2.2.2.2.2 + pre.length + q.1.length)) f g h)) (st' := _) rfl rfl ?_
          first | refine pn_iinc1 (q := 167) dX7_seeks_164 rfl rfl (by decide) ?_ | refine pn_iinc (q := 167) (mm := 1) dX7_seeks_164 rfl rfl (by decide) (by decide) ?_
          refine pn_goto (q := 64) dX7_seeks_167 (by decide) ?_
          exact k9
        cases ht : u.testBit v with
        | true =>
          rw [ht] at hbit
          have hs : skS9 Y.2.2.1 c.2 E u v = true := by unfold skS9; rw [ht]; rfl
          have k9 := skip hs
          refine pn_iload_n (q := 65) dX7_seeks_64 rfl rfl ?_
          first | with_reducible refine pn_i2lN (q := 66) dX7_seeks_65 rfl (by omega) ?_ | refine pn_i2l (q := 66) dX7_seeks_65 rfl ?_
          refine pn_aload_n (q := 67) dX7_seeks_66 rfl rfl rfl ?_
          refine pn_get (q := 70) fX7_20 dX7_seeks_67 rfl rfl rfl ?_
          refine pn_iconst (q := 71) (v := nI 0) dX7_seeks_70 rfl (by decide) ?_
          (first | refine pn_lald1 (q := 72) dX7_seeks_71 rfl rfl rfl (by omega) (by first | decide | omega) ?_ | refine pn_lald5 (q := 72) dX7_seeks_71 rfl rfl rfl (by omega) (by first | decide | omega) ?_); refine pn_eq (h' := _) (st' := .long (lN Y.1) :: _) rfl rfl ?_
          refine pn_lge (q1 := 73) (q := 76) (tgt := 170) dX7_seeks_72 rfl dX7_seeks_73 (by decide) rfl (fun hc72 => ?_) (fun hc72 => ?_)
          · (rw [lN_leI (by omega) (by omega)] at hc72; omega)
          · refine pn_iload_n (q := 77) dX7_seeks_76 rfl rfl ?_
            refine pn_iload_n (q := 78) dX7_seeks_77 rfl rfl ?_
            refine pn_ishr (q := 79) dX7_seeks_78 rfl ?_
            refine pn_iconst (q := 80) (v := nI 1) dX7_seeks_79 rfl (by decide) ?_
            refine pn_iand (q := 81) dX7_seeks_80 rfl ?_; rw [hbit]
            refine pn_iconst (q := 82) (v := nI 1) dX7_seeks_81 rfl (by decide) ?_
            first | refine pn_neq (q := 85) (tgt := 164) dX7_seeks_82 (by decide) rfl (by omega) (by omega) (fun hc82 => ?_) (fun hc82 => ?_) | refine pn_icmp_eq (q := 85) (tgt := 164) dX7_seeks_82 (by decide) rfl (fun hc82 => ?_) (fun hc82 => ?_)
            · exact k9
            · exact (hc82 rfl).elim
        | false =>
          rw [ht] at hbit
          have es : skS9 Y.2.2.1 c.2 E u v = (decide (Y.2.2.1 = 2) && (decide (1 < c.2) && decide (nI v < E (c.2 - 1)))) := by unfold skS9; rw [ht, Bool.false_or]
          refine pn_iload_n (q := 65) dX7_seeks_64 rfl rfl ?_
          first | with_reducible refine pn_i2lN (q := 66) dX7_seeks_65 rfl (by omega) ?_ | refine pn_i2l (q := 66) dX7_seeks_65 rfl ?_
          refine pn_aload_n (q := 67) dX7_seeks_66 rfl rfl rfl ?_
          refine pn_get (q := 70) fX7_20 dX7_seeks_67 rfl rfl rfl ?_
          refine pn_iconst (q := 71) (v := nI 0) dX7_seeks_70 rfl (by decide) ?_
          (first | refine pn_lald1 (q := 72) dX7_seeks_71 rfl rfl rfl (by omega) (by first | decide | omega) ?_ | refine pn_lald5 (q := 72) dX7_seeks_71 rfl rfl rfl (by omega) (by first | decide | omega) ?_); refine pn_eq (h' := _) (st' := .long (lN Y.1) :: _) rfl rfl ?_
          refine pn_lge (q1 := 73) (q := 76) (tgt := 170) dX7_seeks_72 rfl dX7_seeks_73 (by decide) rfl (fun hc72 => ?_) (fun hc72 => ?_)
          · (rw [lN_leI (by omega) (by omega)] at hc72; omega)
          · refine pn_iload_n (q := 77) dX7_seeks_76 rfl rfl ?_
            refine pn_iload_n (q := 78) dX7_seeks_77 rfl rfl ?_
            refine pn_ishr (q := 79) dX7_seeks_78 rfl ?_
            refine pn_iconst (q := 80) (v := nI 1) dX7_seeks_79 rfl (by decide) ?_
            refine pn_iand (q := 81) dX7_seeks_80 rfl ?_; rw [hbit]
            refine pn_iconst (q := 82) (v := nI 1) dX7_seeks_81 rfl (by decide) ?_
            first | refine pn_neq (q := 85) (tgt := 164) dX7_seeks_82 (by decide) rfl (by omega) (by omega) (fun hc82 => ?_) (fun hc82 => ?_) | refine pn_icmp_eq (q := 85) (tgt := 164) dX7_seeks_82 (by decide) rfl (fun hc82 => ?_) (fun hc82 => ?_)
            · exact absurd hc82 (by decide)
            · refine pn_aload_n (q := 86) dX7_seeks_85 rfl rfl rfl ?_
              refine pn_get (q := 89) fX7_20 dX7_seeks_86 rfl rfl rfl ?_
              refine pn_iconst (q := 90) (v := nI 1) dX7_seeks_89 rfl (by decide) ?_
              (first | refine pn_lald1 (q := 91) dX7_seeks_90 rfl rfl rfl (by omega) (by first | decide | omega) ?_ | refine pn_lald5 (q := 91) dX7_seeks_90 rfl rfl rfl (by omega) (by first | decide | omega) ?_); refine pn_eq (h' := _) (st' := .long (lN Y.2.2.1) :: _) rfl rfl ?_
              refine pn_ldc2 (q := 94) pw_1258 dX7_seeks_91 rfl ?_; refine pn_eq (h' := _) (st' := .long (lN 2) :: _) rfl rfl ?_
              refine pn_lne (q1 := 95) (q := 98) (tgt := 124) dX7_seeks_94 rfl dX7_seeks_95 (by decide) rfl (fun hc94 => ?_) (fun hc94 => ?_)
              · exact go (by rw [es]; first | (rw [lN_eqI (by omega) (by omega)] at hc94; rw [decide_eq_false hc94]; rfl) | (rw [decide_eq_false (show ¬ 1 < c.2 by omega), Bool.false_and, Bool.and_false]) | (rw [decide_eq_false (Int32.not_lt.mpr hc118), Bool.and_false, Bool.and_false]))
              · refine pn_aload_n (q := 99) dX7_seeks_98 rfl rfl rfl ?_
                (refine pn_get (q := 102) fX7_85 dX7_seeks_99 rfl rfl rfl ?_)
                refine pn_eq (h' := _) (st' := .int (nI c.2) :: _) rfl rfl ?_
                refine pn_iconst (q := 103) (v := nI 1) dX7_seeks_102 rfl (by decide) ?_
                first | refine pn_nle (q := 106) (tgt := 124) dX7_seeks_103 (by decide) rfl (by omega) (by omega) (fun hc103 => ?_) (fun hc103 => ?_) | refine pn_icmp_le (q := 106) (tgt := 124) dX7_seeks_103 (by decide) rfl (fun hc103 => ?_) (fun hc103 => ?_)
                · exact go (by rw [es]; first | (rw [lN_eqI (by omega) (by omega)] at hc94; rw [decide_eq_false hc94]; rfl) | (rw [decide_eq_false (show ¬ 1 < c.2 by omega), Bool.false_and, Bool.and_false]) | (rw [decide_eq_false (Int32.not_lt.mpr hc118), Bool.and_false, Bool.and_false]))
                · refine pn_iload_n (q := 107) dX7_seeks_106 rfl rfl ?_
                  refine pn_aload_n (q := 108) dX7_seeks_107 rfl rfl rfl ?_
                  refine pn_get (q := 111) fX7_32 dX7_seeks_108 rfl rfl rfl ?_
                  refine pn_aload_n (q := 112) dX7_seeks_111 rfl rfl rfl ?_
                  (refine pn_get (q := 115) fX7_85 dX7_seeks_112 rfl rfl rfl ?_)
                  refine pn_eq (h' := _) (st' := .int (nI c.2) :: _) rfl rfl ?_
                  refine pn_iconst (q := 116) (v := nI 1) dX7_seeks_115 rfl (by decide) ?_
                  first | with_reducible refine pn_isubN (q := 117) dX7_seeks_116 rfl (by omega) ?_ | refine pn_isub (q := 117) dX7_seeks_116 rfl ?_
                  refine pn_iald (q := 118) dX7_seeks_117 rfl rfl rfl (by omega) (by first | decide | omega) ?_
                  refine pn_icmp_ge (q := 121) (tgt := 124) dX7_seeks_118 (by decide) rfl (fun hc118 => ?_) (fun hc118 => ?_)
                  · exact go (by rw [es]; first | (rw [lN_eqI (by omega) (by omega)] at hc94; rw [decide_eq_false hc94]; rfl) | (rw [decide_eq_false (show ¬ 1 < c.2 by omega), Bool.false_and, Bool.and_false]) | (rw [decide_eq_false (Int32.not_lt.mpr hc118), Bool.and_false, Bool.and_false]))
                  · refine pn_goto (q := 164) dX7_seeks_121 (by decide) ?_
                    exact skip (by rw [es]; rw [lN_eqI (by omega) (by omega)] at hc94; rw [decide_eq_true hc94, decide_eq_true (show 1 < c.2 by omega), decide_eq_true (Int32.not_le.mp hc118)]; rfl)
    have k0 := loop Y.1 0 c.1 [] (by omega) hR
    rw [show wrK kp e.2.1 e.2.2.2.2.2.2.2.2 ([] : List Int64) = e.2.1 by cases kp <;> rfl] at k0
    refine pn_aload_n (q := 1) dX7_seeks_0 rfl rfl rfl ?_
    refine pn_get (q := 4) fX7_85 dX7_seeks_1 rfl rfl rfl ?_
    refine pn_aload_n (q := 5) dX7_seeks_4 rfl rfl rfl ?_
    refine pn_get (q := 8) fX7_20 dX7_seeks_5 rfl rfl rfl ?_
    refine pn_iconst (q := 9) (v := nI 1) dX7_seeks_8 rfl (by decide) ?_
    (first | refine pn_lald1 (q := 10) dX7_seeks_9 rfl rfl rfl (by omega) (by first | decide | omega) ?_ | refine pn_lald5 (q := 10) dX7_seeks_9 rfl rfl rfl (by omega) (by first | decide | omega) ?_); refine pn_eq (h' := _) (st' := .long (lN Y.2.2.1) :: _) rfl rfl ?_
    refine pn_aload_n (q := 11) dX7_seeks_10 rfl rfl rfl ?_
    refine pn_get (q := 14) fX7_20 dX7_seeks_11 rfl rfl rfl ?_
    refine pn_iconst (q := 15) (v := nI 2) dX7_seeks_14 rfl (by decide) ?_
    (first | refine pn_lald1 (q := 16) dX7_seeks_15 rfl rfl rfl (by omega) (by first | decide | omega) ?_ | refine pn_lald5 (q := 16) dX7_seeks_15 rfl rfl rfl (by omega) (by first | decide | omega) ?_); refine pn_eq (h' := _) (st' := .long (lN Y.2.2.2.1) :: _) rfl rfl ?_
    refine pn_roS1 (q := 19) (CE) lkX7_88 dX7_seeks_16 rfl rfl (pnSel_of (I := []) rfl rfl) (pnFree_none rfl) rfl (by omega) (Nat.le_of_ble_eq_true rfl) rfl ?_
    first | refine pn_nne (q := 22) (tgt := 62) dX7_seeks_19 (by decide) rfl (by omega) (by omega) (fun hc19 => ?_) (fun hc19 => ?_) | refine pn_icmp_ne (q := 22) (tgt := 62) dX7_seeks_19 (by decide) rfl (fun hc19 => ?_) (fun hc19 => ?_)
    · refine pn_iconst (q := 63) (v := nI 0) dX7_seeks_62 rfl (by decide) ?_
      refine pn_istore_n (q := 64) dX7_seeks_63 rfl (by decide) ?_
      exact k0
    · omega
