/-! ===== the reference's world with its two long rows as rows that stay ===== -/
def hM1 (Y : MN) (P : Nat → MN) (a : G0) (b : G1) (c : G3) (e : G4) (f : G5) (g : G6) (h : G7) : List pnE :=
  [.inr (7, [.int (nI a.1), .ref 1, .int (nI a.2.2.1), .int (nI b.1), .int (nI b.2.1), .int a.2.2.2.1, .int (nI b.2.2.1), .int b.2.2.2.1, .ref 2, .ref 3, .ref 4, .ref 5, .int (nI a.2.2.2.2), .ref 14, .int (nI c.2), .ref 15, .ref 16, .int (nI b.2.2.2.2.2.2.2.2.1), .int (nB b.2.2.2.2.2.2.2.2.2), .ref 17, .ref 18, .ref 19, .long e.2.2.2.2.2.1, .long e.2.2.2.2.2.2.1, .long e.2.2.2.2.2.2.2.1, .int (nI e.2.2.2.2.2.2.2.2), .long f.1, .long f.2, .ref 20, .ref 21, .int (nI g.2.2.1), .int (nI g.2.2.2.1), .int (nI g.2.2.2.2.1), .int (nB g.2.2.2.2.2), .ref 22, .int (nI h.2)]),
   .inl (0, 3, .inl (fun j => nI (a.2.1 j))), .inl (0, 300, .inl b.2.2.2.2.1), .inl (1, 90, .inr (.inl (nowF Y))), .inl (1, 90, .inr (.inl b.2.2.2.2.2.1)), .inl (4, 8, .inr (.inr (.inr (.inr ptF)))),
   .inl (1, 90, .inr (.inl (nowF (P 0)))), .inl (1, 90, .inr (.inl (nowF (P 1)))), .inl (1, 90, .inr (.inl (nowF (P 2)))), .inl (1, 90, .inr (.inl (nowF (P 3)))), .inl (1, 90, .inr (.inl (nowF (P 4)))), .inl (1, 90, .inr (.inl (nowF (P 5)))), .inl (1, 90, .inr (.inl (nowF (P 6)))), .inl (1, 90, .inr (.inl (nowF (P 7)))),
   .inl (0, 5, .inl c.1), .inl (0, 1500, .inl b.2.2.2.2.2.2.1), .inl (0, 300, .inl (fun j => nI (b.2.2.2.2.2.2.2.1 j))), .inl (1, e.1, .inr (.inl e.2.1)), .inl (1, e.2.2.1, .inr (.inl e.2.2.2.1)), .inl (0, 57, .inl (fun j => nI (e.2.2.2.2.1 j))), .inl (1, 55, .inr (.inl g.1)), .inl (1, 55, .inr (.inl g.2.1)), .inl (0, 15, .inl h.1)]
theorem hM1_cl {Y : MN} {P : Nat → MN} {a : G0} {b : G1} {c : G3} {e : G4} {f : G5} {g : G6} {h : G7} : pnCH (hM1 Y P a b c e f g h) := pnCH_q rfl (fun q hq j x e => by
  have hq : q ∈ [ptF] := hq
  rw [List.mem_singleton] at hq
  subst hq
  exact Nat.lt_of_lt_of_le (ptF_lt e).2 (Nat.le_of_ble_eq_true rfl))
/-! the part that nodes in hand tell -/
set_option maxRecDepth 100000 in
theorem m_partOf1 (adK : Nat → Nat) (d : Nat) (Y : MN) (P : Nat → MN) (a : G0) (b : G1) (c : G3) (e : G4) (f : G5) (g : G6) (h : G7) (n sh k : Nat) (h0 : (nowF Y) 0 = lN n) (h1 : (nowF Y) 1 = lN sh) (h2 : (nowF Y) 2 = lN k) (hS : shOk sh k) (hn : n ≤ 11) (hn1 : 1 ≤ n) (hc5 : c.2 ≤ 5) : pnCt mX7_partOf adK (d + 2) 0 0 [.ref 0, .ref 3] (hM1 Y P a b c e f g h) (pnIs (.inl (some (.long (lpN n sh k c.1 0 c.2)))) (hM1 Y P a b c e f g h)) := by
  refine pnCt_of (by decide) kX7_partOf (Nat.le_of_ble_eq_true rfl) rfl hM1_cl (pnCS_b rfl) ?_
  obtain ⟨b1, b2, b3, b4, b5, b6⟩ := shOk_b hS
  have CE := m_endsOf adK d sh k b1 (by omega)
  by_cases hc : c.2 = plN sh k
  case neg =>
    have e0 : lpN n sh k c.1 0 c.2 = lN 0 := by
      unfold lpN
      rw [decide_eq_false hc]
      rfl
    rw [e0]
    refine pn_aload_n (q := 1) dX7_partOf_0 rfl rfl rfl ?_
    refine pn_iconst (q := 2) (v := nI 0) dX7_partOf_1 rfl (by decide) ?_
    refine pn_lald1 (q := 3) dX7_partOf_2 rfl rfl rfl (by omega) (by decide) ?_; rw [h0]
    first | with_reducible refine pn_l2iN (q := 4) dX7_partOf_3 rfl ?_ | refine pn_l2i (q := 4) dX7_partOf_3 rfl ?_
    refine pn_istore_n (q := 5) dX7_partOf_4 rfl (by decide) ?_
    refine pn_aload_n (q := 6) dX7_partOf_5 rfl rfl rfl ?_
    refine pn_get (q := 9) fX7_85 dX7_partOf_6 rfl rfl rfl ?_
    refine pn_aload_n (q := 10) dX7_partOf_9 rfl rfl rfl ?_
    refine pn_iconst (q := 11) (v := nI 1) dX7_partOf_10 rfl (by decide) ?_
    refine pn_lald1 (q := 12) dX7_partOf_11 rfl rfl rfl (by omega) (by decide) ?_; rw [h1]
    refine pn_aload_n (q := 13) dX7_partOf_12 rfl rfl rfl ?_
    refine pn_iconst (q := 14) (v := nI 2) dX7_partOf_13 rfl (by decide) ?_
    refine pn_lald1 (q := 15) dX7_partOf_14 rfl rfl rfl (by omega) (by decide) ?_; rw [h2]
    refine pn_roS1 (q := 18) (CE) lkX7_88 dX7_partOf_15 rfl rfl (pnSel_of (I := []) rfl rfl) (pnFree_none rfl) rfl (by omega) (Nat.le_of_ble_eq_true rfl) rfl ?_
    first | refine pn_neq (q := 21) (tgt := 23) dX7_partOf_18 (by decide) rfl (by omega) (by omega) (fun hc18 => ?_) (fun hc18 => ?_) | refine pn_icmp_eq (q := 21) (tgt := 23) dX7_partOf_18 (by decide) rfl (fun hc18 => ?_) (fun hc18 => ?_)
    · exact (hc hc18).elim
    · refine pn_lconst (q := 22) (v := lN 0) dX7_partOf_21 rfl (by decide) ?_
      refine pn_lret dX7_partOf_22 rfl ?_
      exact ⟨rfl, rfl⟩
  have bad0 : telN c.1 0 c.2 (n - 1) = false → lpN n sh k c.1 0 c.2 = lN 0 := fun q => by
    unfold lpN
    rw [q, Bool.and_false]
    rfl
  have loop2 : telN c.1 0 c.2 (n - 1) = true → ∀ (z j : Nat), j + 1 + z = c.2 → pnWP mX7_partOf adK (d + 2) (pnIs (.inl (some (.long (lpN n sh k c.1 0 c.2)))) (hM1 Y P a b c e f g h)) 0 0 (hM1 Y P a b c e f g h) [some (.ref 0), some (.ref 3), some (.int (nI n)), some (.long (lopN n sh k (ndN c.1 0) j)), none, some (.int (nI (j + 1)))] [] 97 := by
    intro ht z
    have e0 : lpN n sh k c.1 0 c.2 = lopN n sh k (ndN c.1 0) k := by unfold lpN; rw [ht, decide_eq_true hc]; rfl
    obtain ⟨t1, t2⟩ := telN_nd ht (by omega)
    rw [e0]
    induction z with
    | zero =>
      intro j hj
      by_cases hcl : clN sh = true
      · have hpl : plN sh k = k := if_pos hcl
        have hsh : sh = 0 ∨ sh = 3 := by
          unfold clN at hcl
          simp at hcl
          exact hcl
        have ek : k = j + 1 := by omega
        have r1 := t1 0 (by omega)
        have r2 := t1 j (by omega)
        have r3 := t2 0 j (by omega) (by omega) (by omega)
        have CL := m_lineOf adK d n (ndN c.1 0 0) (ndN c.1 0 j) hn (by omega) (by omega) r3
        have e2 : lopN n sh k (ndN c.1 0) k = lopN n sh k (ndN c.1 0) j ||| bL (lnN n (ndN c.1 0 0) (ndN c.1 0 j)) := by
          rw [show lopN n sh k (ndN c.1 0) k = lopN n sh k (ndN c.1 0) (j + 1) by rw [← ek]]
          show lopN n sh k (ndN c.1 0) j ||| bL (lnN n (ndN c.1 0 (lsN sh j)) (ndN c.1 0 (leN sh k j))) = _
          rw [show lsN sh j = j from if_neg (by omega), show leN sh k j = 0 from if_pos ⟨hcl, ek.symm⟩, lnN_sym]
        refine pn_iload (q := 99) dX7_partOf_97 rfl rfl ?_
        refine pn_aload_n (q := 100) dX7_partOf_99 rfl rfl rfl ?_
        refine pn_get (q := 103) fX7_85 dX7_partOf_100 rfl rfl rfl ?_
        first | refine pn_nge (q := 106) (tgt := 151) dX7_partOf_103 (by decide) rfl (by omega) (by omega) (fun hc103 => ?_) (fun hc103 => ?_) | refine pn_icmp_ge (q := 106) (tgt := 151) dX7_partOf_103 (by decide) rfl (fun hc103 => ?_) (fun hc103 => ?_)
        · refine pn_aload_n (q := 152) dX7_partOf_151 rfl rfl rfl ?_
          refine pn_iconst (q := 153) (v := nI 1) dX7_partOf_152 rfl (by decide) ?_
          refine pn_lald1 (q := 154) dX7_partOf_153 rfl rfl rfl (by omega) (by decide) ?_; rw [h1]
          refine pn_lconst (q := 155) (v := lN 0) dX7_partOf_154 rfl (by decide) ?_
          refine pn_leq (q1 := 156) (q := 159) (tgt := 169) dX7_partOf_155 rfl dX7_partOf_156 (by decide) rfl (fun hc155 => ?_) (fun hc155 => ?_)
          · refine pn_lload_n (q := 170) dX7_partOf_169 rfl rfl ?_
            refine pn_lconst (q := 171) (v := lN 1) dX7_partOf_170 rfl (by decide) ?_
            refine pn_iload_n (q := 172) dX7_partOf_171 rfl rfl ?_
            refine pn_aload_n (q := 173) dX7_partOf_172 rfl rfl rfl ?_
            refine pn_get (q := 176) fX7_32 dX7_partOf_173 rfl rfl rfl ?_
            refine pn_iconst (q := 177) (v := nI 0) dX7_partOf_176 rfl (by decide) ?_
            refine pn_iald (q := 178) dX7_partOf_177 rfl rfl rfl (by omega) (by first | decide | omega) ?_; rw [show c.1 0 = nI (ndN c.1 0 0) from r1.1]
            refine pn_aload_n (q := 179) dX7_partOf_178 rfl rfl rfl ?_
            refine pn_get (q := 182) fX7_32 dX7_partOf_179 rfl rfl rfl ?_
            refine pn_aload_n (q := 183) dX7_partOf_182 rfl rfl rfl ?_
            refine pn_get (q := 186) fX7_85 dX7_partOf_183 rfl rfl rfl ?_
            refine pn_iconst (q := 187) (v := nI 1) dX7_partOf_186 rfl (by decide) ?_
            refine pn_isubN (q := 188) dX7_partOf_187 rfl (by omega) ?_; rw [show c.2 - 1 = j by omega]
            refine pn_iald (q := 189) dX7_partOf_188 rfl rfl rfl (by omega) (by first | decide | omega) ?_; rw [show c.1 j = nI (ndN c.1 0 j) by have := r2.1; rw [Nat.zero_add] at this; exact this]
            refine pn_roS1 (q := 192) (CL) lkX7_96 dX7_partOf_189 rfl rfl (pnSel_of (I := []) rfl rfl) (pnFree_none rfl) rfl (by omega) (Nat.le_of_ble_eq_true rfl) rfl ?_
            refine pn_lshl (q := 193) dX7_partOf_192 rfl ?_
            refine pn_lor (q := 194) dX7_partOf_193 rfl ?_
            refine pn_goto (q := 198) dX7_partOf_194 (by decide) ?_
            refine pn_lret dX7_partOf_198 rfl ?_
            exact ⟨by rw [e2]; rfl, rfl⟩
          · refine pn_aload_n (q := 160) dX7_partOf_159 rfl rfl rfl ?_
            refine pn_iconst (q := 161) (v := nI 1) dX7_partOf_160 rfl (by decide) ?_
            refine pn_lald1 (q := 162) dX7_partOf_161 rfl rfl rfl (by omega) (by decide) ?_; rw [h1]
            refine pn_ldc2 (q := 165) pw_1077 dX7_partOf_162 rfl ?_; refine pn_eq (h' := _) (st' := .long (lN 3) :: _) rfl rfl ?_
            refine pn_lne (q1 := 166) (q := 169) (tgt := 197) dX7_partOf_165 rfl dX7_partOf_166 (by decide) rfl (fun hc165 => ?_) (fun hc165 => ?_)
            · (rw [lN_eqI (by omega) (by omega)] at hc155 hc165; omega)
            · refine pn_lload_n (q := 170) dX7_partOf_169 rfl rfl ?_
              refine pn_lconst (q := 171) (v := lN 1) dX7_partOf_170 rfl (by decide) ?_
              refine pn_iload_n (q := 172) dX7_partOf_171 rfl rfl ?_
              refine pn_aload_n (q := 173) dX7_partOf_172 rfl rfl rfl ?_
              refine pn_get (q := 176) fX7_32 dX7_partOf_173 rfl rfl rfl ?_
              refine pn_iconst (q := 177) (v := nI 0) dX7_partOf_176 rfl (by decide) ?_
              refine pn_iald (q := 178) dX7_partOf_177 rfl rfl rfl (by omega) (by first | decide | omega) ?_; rw [show c.1 0 = nI (ndN c.1 0 0) from r1.1]
              refine pn_aload_n (q := 179) dX7_partOf_178 rfl rfl rfl ?_
              refine pn_get (q := 182) fX7_32 dX7_partOf_179 rfl rfl rfl ?_
              refine pn_aload_n (q := 183) dX7_partOf_182 rfl rfl rfl ?_
              refine pn_get (q := 186) fX7_85 dX7_partOf_183 rfl rfl rfl ?_
              refine pn_iconst (q := 187) (v := nI 1) dX7_partOf_186 rfl (by decide) ?_
              refine pn_isubN (q := 188) dX7_partOf_187 rfl (by omega) ?_; rw [show c.2 - 1 = j by omega]
              refine pn_iald (q := 189) dX7_partOf_188 rfl rfl rfl (by omega) (by first | decide | omega) ?_; rw [show c.1 j = nI (ndN c.1 0 j) by have := r2.1; rw [Nat.zero_add] at this; exact this]
              refine pn_roS1 (q := 192) (CL) lkX7_96 dX7_partOf_189 rfl rfl (pnSel_of (I := []) rfl rfl) (pnFree_none rfl) rfl (by omega) (Nat.le_of_ble_eq_true rfl) rfl ?_
              refine pn_lshl (q := 193) dX7_partOf_192 rfl ?_
              refine pn_lor (q := 194) dX7_partOf_193 rfl ?_
              refine pn_goto (q := 198) dX7_partOf_194 (by decide) ?_
              refine pn_lret dX7_partOf_198 rfl ?_
              exact ⟨by rw [e2]; rfl, rfl⟩
        · omega
      · have hpl : plN sh k = k + 1 := if_neg hcl
        have hsh : sh ≠ 0 ∧ sh ≠ 3 := by
          unfold clN at hcl
          simp at hcl
          exact hcl
        refine pn_iload (q := 99) dX7_partOf_97 rfl rfl ?_
        refine pn_aload_n (q := 100) dX7_partOf_99 rfl rfl rfl ?_
        refine pn_get (q := 103) fX7_85 dX7_partOf_100 rfl rfl rfl ?_
        first | refine pn_nge (q := 106) (tgt := 151) dX7_partOf_103 (by decide) rfl (by omega) (by omega) (fun hc103 => ?_) (fun hc103 => ?_) | refine pn_icmp_ge (q := 106) (tgt := 151) dX7_partOf_103 (by decide) rfl (fun hc103 => ?_) (fun hc103 => ?_)
        · refine pn_aload_n (q := 152) dX7_partOf_151 rfl rfl rfl ?_
          refine pn_iconst (q := 153) (v := nI 1) dX7_partOf_152 rfl (by decide) ?_
          refine pn_lald1 (q := 154) dX7_partOf_153 rfl rfl rfl (by omega) (by decide) ?_; rw [h1]
          refine pn_lconst (q := 155) (v := lN 0) dX7_partOf_154 rfl (by decide) ?_
          refine pn_leq (q1 := 156) (q := 159) (tgt := 169) dX7_partOf_155 rfl dX7_partOf_156 (by decide) rfl (fun hc155 => ?_) (fun hc155 => ?_)
          · (rw [lN_eqI (by omega) (by omega)] at hc155; omega)
          · refine pn_aload_n (q := 160) dX7_partOf_159 rfl rfl rfl ?_
            refine pn_iconst (q := 161) (v := nI 1) dX7_partOf_160 rfl (by decide) ?_
            refine pn_lald1 (q := 162) dX7_partOf_161 rfl rfl rfl (by omega) (by decide) ?_; rw [h1]
            refine pn_ldc2 (q := 165) pw_1077 dX7_partOf_162 rfl ?_; refine pn_eq (h' := _) (st' := .long (lN 3) :: _) rfl rfl ?_
            refine pn_lne (q1 := 166) (q := 169) (tgt := 197) dX7_partOf_165 rfl dX7_partOf_166 (by decide) rfl (fun hc165 => ?_) (fun hc165 => ?_)
            · refine pn_lload_n (q := 198) dX7_partOf_197 rfl rfl ?_
              refine pn_lret dX7_partOf_198 rfl ?_
              exact ⟨by rw [show k = j by omega], rfl⟩
            · (rw [lN_eqI (by omega) (by omega)] at hc165; omega)
        · omega
    | succ z ih =>
      intro j hj
      have hjk : j < k := by
        unfold plN at hc
        split at hc <;> omega
      have hle2 : leN sh k j = j + 1 := if_neg (by
        rintro ⟨p1, p2⟩
        rw [show plN sh k = k from if_pos p1] at hc
        omega)
      have k9 := ih (j + 1) (by omega)
      have r2 := t1 (j + 1) (by omega)
      by_cases hs2 : sh = 2
      · have r1 := t1 0 (by omega)
        have r3 := t2 0 (j + 1) (by omega) (by omega) (by omega)
        have CL := m_lineOf adK d n (ndN c.1 0 0) (ndN c.1 0 (j + 1)) hn (by omega) (by omega) r3
        have e2 : lopN n sh k (ndN c.1 0) (j + 1) = lopN n sh k (ndN c.1 0) j ||| bL (lnN n (ndN c.1 0 0) (ndN c.1 0 (j + 1))) := by
          show lopN n sh k (ndN c.1 0) j ||| bL (lnN n (ndN c.1 0 (lsN sh j)) (ndN c.1 0 (leN sh k j))) = _
          rw [show lsN sh j = 0 from if_pos hs2, hle2]
        rw [e2] at k9
        refine pn_iload (q := 99) dX7_partOf_97 rfl rfl ?_
        refine pn_aload_n (q := 100) dX7_partOf_99 rfl rfl rfl ?_
        refine pn_get (q := 103) fX7_85 dX7_partOf_100 rfl rfl rfl ?_
        first | refine pn_nge (q := 106) (tgt := 151) dX7_partOf_103 (by decide) rfl (by omega) (by omega) (fun hc103 => ?_) (fun hc103 => ?_) | refine pn_icmp_ge (q := 106) (tgt := 151) dX7_partOf_103 (by decide) rfl (fun hc103 => ?_) (fun hc103 => ?_)
        · omega
        · refine pn_lload_n (q := 107) dX7_partOf_106 rfl rfl ?_
          refine pn_lconst (q := 108) (v := lN 1) dX7_partOf_107 rfl (by decide) ?_
          refine pn_iload_n (q := 109) dX7_partOf_108 rfl rfl ?_
          refine pn_aload_n (q := 110) dX7_partOf_109 rfl rfl rfl ?_
          refine pn_get (q := 113) fX7_32 dX7_partOf_110 rfl rfl rfl ?_
          refine pn_aload_n (q := 114) dX7_partOf_113 rfl rfl rfl ?_
          refine pn_iconst (q := 115) (v := nI 1) dX7_partOf_114 rfl (by decide) ?_
          refine pn_lald1 (q := 116) dX7_partOf_115 rfl rfl rfl (by omega) (by decide) ?_; rw [h1]
          refine pn_ldc2 (q := 119) pw_1258 dX7_partOf_116 rfl ?_; refine pn_eq (h' := _) (st' := .long (lN 2) :: _) rfl rfl ?_
          refine pn_lne (q1 := 120) (q := 123) (tgt := 127) dX7_partOf_119 rfl dX7_partOf_120 (by decide) rfl (fun hc119 => ?_) (fun hc119 => ?_)
          · (rw [lN_eqI (by omega) (by omega)] at hc119; omega)
          · refine pn_iconst (q := 124) (v := nI 0) dX7_partOf_123 rfl (by decide) ?_
            refine pn_goto (q := 131) dX7_partOf_124 (by decide) ?_
            refine pn_iald (q := 132) dX7_partOf_131 rfl rfl rfl (by omega) (by first | decide | omega) ?_; rw [show c.1 0 = nI (ndN c.1 0 0) from r1.1]
            refine pn_aload_n (q := 133) dX7_partOf_132 rfl rfl rfl ?_
            refine pn_get (q := 136) fX7_32 dX7_partOf_133 rfl rfl rfl ?_
            refine pn_iload (q := 138) dX7_partOf_136 rfl rfl ?_
            refine pn_iald (q := 139) dX7_partOf_138 rfl rfl rfl (by omega) (by first | decide | omega) ?_; rw [show c.1 (j + 1) = nI (ndN c.1 0 (j + 1)) by have := r2.1; rw [Nat.zero_add] at this; exact this]
            refine pn_roS1 (q := 142) (CL) lkX7_96 dX7_partOf_139 rfl rfl (pnSel_of (I := []) rfl rfl) (pnFree_none rfl) rfl (by omega) (Nat.le_of_ble_eq_true rfl) rfl ?_
            refine pn_lshl (q := 143) dX7_partOf_142 rfl ?_
            refine pn_lor (q := 144) dX7_partOf_143 rfl ?_
            refine pn_lstore_n (q := 145) dX7_partOf_144 rfl (by decide) ?_
            first | refine pn_iinc1 (q := 148) dX7_partOf_145 rfl rfl (by decide) ?_ | refine pn_iinc (q := 148) (mm := 1) dX7_partOf_145 rfl rfl (by decide) (by decide) ?_
            refine pn_goto (q := 97) dX7_partOf_148 (by decide) ?_
            exact k9
      · have r1 := t1 j (by omega)
        have r3 := t2 j (j + 1) (by omega) (by omega) (by omega)
        have CL := m_lineOf adK d n (ndN c.1 0 j) (ndN c.1 0 (j + 1)) hn (by omega) (by omega) r3
        have e2 : lopN n sh k (ndN c.1 0) (j + 1) = lopN n sh k (ndN c.1 0) j ||| bL (lnN n (ndN c.1 0 j) (ndN c.1 0 (j + 1))) := by
          show lopN n sh k (ndN c.1 0) j ||| bL (lnN n (ndN c.1 0 (lsN sh j)) (ndN c.1 0 (leN sh k j))) = _
          rw [show lsN sh j = j from if_neg hs2, hle2]
        rw [e2] at k9
        refine pn_iload (q := 99) dX7_partOf_97 rfl rfl ?_
        refine pn_aload_n (q := 100) dX7_partOf_99 rfl rfl rfl ?_
        refine pn_get (q := 103) fX7_85 dX7_partOf_100 rfl rfl rfl ?_
        first | refine pn_nge (q := 106) (tgt := 151) dX7_partOf_103 (by decide) rfl (by omega) (by omega) (fun hc103 => ?_) (fun hc103 => ?_) | refine pn_icmp_ge (q := 106) (tgt := 151) dX7_partOf_103 (by decide) rfl (fun hc103 => ?_) (fun hc103 => ?_)
        · omega
        · refine pn_lload_n (q := 107) dX7_partOf_106 rfl rfl ?_
          refine pn_lconst (q := 108) (v := lN 1) dX7_partOf_107 rfl (by decide) ?_
          refine pn_iload_n (q := 109) dX7_partOf_108 rfl rfl ?_
          refine pn_aload_n (q := 110) dX7_partOf_109 rfl rfl rfl ?_
          refine pn_get (q := 113) fX7_32 dX7_partOf_110 rfl rfl rfl ?_
          refine pn_aload_n (q := 114) dX7_partOf_113 rfl rfl rfl ?_
          refine pn_iconst (q := 115) (v := nI 1) dX7_partOf_114 rfl (by decide) ?_
          refine pn_lald1 (q := 116) dX7_partOf_115 rfl rfl rfl (by omega) (by decide) ?_; rw [h1]
          refine pn_ldc2 (q := 119) pw_1258 dX7_partOf_116 rfl ?_; refine pn_eq (h' := _) (st' := .long (lN 2) :: _) rfl rfl ?_
          refine pn_lne (q1 := 120) (q := 123) (tgt := 127) dX7_partOf_119 rfl dX7_partOf_120 (by decide) rfl (fun hc119 => ?_) (fun hc119 => ?_)
          · refine pn_iload (q := 129) dX7_partOf_127 rfl rfl ?_
            refine pn_iconst (q := 130) (v := nI 1) dX7_partOf_129 rfl (by decide) ?_
            refine pn_isubN (q := 131) dX7_partOf_130 rfl (by omega) ?_; rw [show j + 1 - 1 = j by omega]
            refine pn_iald (q := 132) dX7_partOf_131 rfl rfl rfl (by omega) (by first | decide | omega) ?_; rw [show c.1 j = nI (ndN c.1 0 j) by have := r1.1; rw [Nat.zero_add] at this; exact this]
            refine pn_aload_n (q := 133) dX7_partOf_132 rfl rfl rfl ?_
            refine pn_get (q := 136) fX7_32 dX7_partOf_133 rfl rfl rfl ?_
            refine pn_iload (q := 138) dX7_partOf_136 rfl rfl ?_
            refine pn_iald (q := 139) dX7_partOf_138 rfl rfl rfl (by omega) (by first | decide | omega) ?_; rw [show c.1 (j + 1) = nI (ndN c.1 0 (j + 1)) by have := r2.1; rw [Nat.zero_add] at this; exact this]
            refine pn_roS1 (q := 142) (CL) lkX7_96 dX7_partOf_139 rfl rfl (pnSel_of (I := []) rfl rfl) (pnFree_none rfl) rfl (by omega) (Nat.le_of_ble_eq_true rfl) rfl ?_
            refine pn_lshl (q := 143) dX7_partOf_142 rfl ?_
            refine pn_lor (q := 144) dX7_partOf_143 rfl ?_
            refine pn_lstore_n (q := 145) dX7_partOf_144 rfl (by decide) ?_
            first | refine pn_iinc1 (q := 148) dX7_partOf_145 rfl rfl (by decide) ?_ | refine pn_iinc (q := 148) (mm := 1) dX7_partOf_145 rfl rfl (by decide) (by decide) ?_
            refine pn_goto (q := 97) dX7_partOf_148 (by decide) ?_
            exact k9
          · (rw [lN_eqI (by omega) (by omega)] at hc119; omega)
  have lpJ : ∀ i, i < c.2 → ((∀ j, j < i → c.1 j ≠ c.1 i) → pnWP mX7_partOf adK (d + 2) (pnIs (.inl (some (.long (lpN n sh k c.1 0 c.2)))) (hM1 Y P a b c e f g h)) 0 0 (hM1 Y P a b c e f g h) [some (.ref 0), some (.ref 3), some (.int (nI n)), some (.int (nI i))] [] 86) → ∀ (z j : Nat), j + z = i → (∀ j', j' < j → c.1 j' ≠ c.1 i) → pnWP mX7_partOf adK (d + 2) (pnIs (.inl (some (.long (lpN n sh k c.1 0 c.2)))) (hM1 Y P a b c e f g h)) 0 0 (hM1 Y P a b c e f g h) [some (.ref 0), some (.ref 3), some (.int (nI n)), some (.int (nI i)), some (.int (nI j))] [] 56 := by
    intro i hi kk z
    induction z with
    | zero =>
      intro j hj H
      have hji : j = i := by omega
      subst hji
      refine pn_iload (q := 58) dX7_partOf_56 rfl rfl ?_
      refine pn_iload_n (q := 59) dX7_partOf_58 rfl rfl ?_
      first | refine pn_nge (q := 62) (tgt := 86) dX7_partOf_59 (by decide) rfl (by omega) (by omega) (fun hc59 => ?_) (fun hc59 => ?_) | refine pn_icmp_ge (q := 62) (tgt := 86) dX7_partOf_59 (by decide) rfl (fun hc59 => ?_) (fun hc59 => ?_)
      · exact pn_take 4 (kk H)
      · omega
    | succ z ih =>
      intro j hj H
      refine pn_iload (q := 58) dX7_partOf_56 rfl rfl ?_
      refine pn_iload_n (q := 59) dX7_partOf_58 rfl rfl ?_
      first | refine pn_nge (q := 62) (tgt := 86) dX7_partOf_59 (by decide) rfl (by omega) (by omega) (fun hc59 => ?_) (fun hc59 => ?_) | refine pn_icmp_ge (q := 62) (tgt := 86) dX7_partOf_59 (by decide) rfl (fun hc59 => ?_) (fun hc59 => ?_)
      · omega
      · refine pn_aload_n (q := 63) dX7_partOf_62 rfl rfl rfl ?_
        refine pn_get (q := 66) fX7_32 dX7_partOf_63 rfl rfl rfl ?_
        refine pn_iload_n (q := 67) dX7_partOf_66 rfl rfl ?_
        refine pn_iald (q := 68) dX7_partOf_67 rfl rfl rfl (by omega) (by first | decide | omega) ?_
        refine pn_aload_n (q := 69) dX7_partOf_68 rfl rfl rfl ?_
        refine pn_get (q := 72) fX7_32 dX7_partOf_69 rfl rfl rfl ?_
        refine pn_iload (q := 74) dX7_partOf_72 rfl rfl ?_
        refine pn_iald (q := 75) dX7_partOf_74 rfl rfl rfl (by omega) (by first | decide | omega) ?_
        refine pn_icmp_ne (q := 78) (tgt := 80) dX7_partOf_75 (by decide) rfl (fun hc75 => ?_) (fun hc75 => ?_)
        · first | refine pn_iinc1 (q := 83) dX7_partOf_80 rfl rfl (by decide) ?_ | refine pn_iinc (q := 83) (mm := 1) dX7_partOf_80 rfl rfl (by decide) (by decide) ?_
          refine pn_goto (q := 56) dX7_partOf_83 (by decide) ?_
          exact ih (j + 1) (by omega) (fun j' hj' => by rcases Nat.lt_or_eq_of_le (Nat.le_of_lt_succ hj') with q | q; exact H j' q; rw [q]; exact fun q => hc75 q.symm)
        · refine pn_lconst (q := 79) (v := lN 0) dX7_partOf_78 rfl (by decide) ?_
          refine pn_lret dX7_partOf_79 rfl ?_
          exact ⟨by rw [bad0 (decide_eq_false (fun hh => (hh i hi).2 j (by omega) (by rw [Nat.zero_add, Nat.zero_add]; exact hc75.symm)))], rfl⟩
  have lpI : ∀ (z i : Nat), i + z = c.2 → (∀ i', i' < i → hasN n (c.1 i') = true ∧ ∀ j, j < i' → c.1 j ≠ c.1 i') → pnWP mX7_partOf adK (d + 2) (pnIs (.inl (some (.long (lpN n sh k c.1 0 c.2)))) (hM1 Y P a b c e f g h)) 0 0 (hM1 Y P a b c e f g h) [some (.ref 0), some (.ref 3), some (.int (nI n)), some (.int (nI i))] [] 25 := by
    intro z
    induction z with
    | zero =>
      intro i hi H
      have hii : i = c.2 := by omega
      rw [hii] at H
      have ht : telN c.1 0 c.2 (n - 1) = true := decide_eq_true (fun i hi => by
        rw [show n - 1 + 1 = n by omega, Nat.zero_add]
        exact ⟨(H i hi).1, fun j hj => by rw [Nat.zero_add]; exact (H i hi).2 j hj⟩)
      refine pn_iload_n (q := 26) dX7_partOf_25 rfl rfl ?_
      refine pn_aload_n (q := 27) dX7_partOf_26 rfl rfl rfl ?_
      refine pn_get (q := 30) fX7_85 dX7_partOf_27 rfl rfl rfl ?_
      first | refine pn_nge (q := 33) (tgt := 92) dX7_partOf_30 (by decide) rfl (by omega) (by omega) (fun hc30 => ?_) (fun hc30 => ?_) | refine pn_icmp_ge (q := 33) (tgt := 92) dX7_partOf_30 (by decide) rfl (fun hc30 => ?_) (fun hc30 => ?_)
      · refine pn_lconst (q := 93) (v := lN 0) dX7_partOf_92 rfl (by decide) ?_
        refine pn_lstore_n (q := 94) dX7_partOf_93 rfl (by decide) ?_
        refine pn_iconst (q := 95) (v := nI 1) dX7_partOf_94 rfl (by decide) ?_
        refine pn_istore (q := 97) dX7_partOf_95 rfl (by decide) ?_
        exact pn_take 6 (loop2 ht (c.2 - 1) 0 (by omega))
      · omega
    | succ z ih =>
      intro i hi H
      have C0 := m_in adK d (c.1 i).toInt64 (lN 0) ((nI n - nI 1).toInt64)
      rw [inL_sub (by omega)] at C0
      cases hx : hasN n (c.1 i) with
      | false =>
        rw [hx] at C0
        have e9 := bad0 (decide_eq_false (fun hh => by
          have := (hh i (by omega)).1
          rw [show n - 1 + 1 = n by omega, Nat.zero_add, hx] at this
          cases this))
        refine pn_iload_n (q := 26) dX7_partOf_25 rfl rfl ?_
        refine pn_aload_n (q := 27) dX7_partOf_26 rfl rfl rfl ?_
        refine pn_get (q := 30) fX7_85 dX7_partOf_27 rfl rfl rfl ?_
        first | refine pn_nge (q := 33) (tgt := 92) dX7_partOf_30 (by decide) rfl (by omega) (by omega) (fun hc30 => ?_) (fun hc30 => ?_) | refine pn_icmp_ge (q := 33) (tgt := 92) dX7_partOf_30 (by decide) rfl (fun hc30 => ?_) (fun hc30 => ?_)
        · omega
        · refine pn_aload_n (q := 34) dX7_partOf_33 rfl rfl rfl ?_
          refine pn_get (q := 37) fX7_32 dX7_partOf_34 rfl rfl rfl ?_
          refine pn_iload_n (q := 38) dX7_partOf_37 rfl rfl ?_
          refine pn_iald (q := 39) dX7_partOf_38 rfl rfl rfl (by omega) (by first | decide | omega) ?_
          refine pn_i2l (q := 40) dX7_partOf_39 rfl ?_
          refine pn_lconst (q := 41) (v := lN 0) dX7_partOf_40 rfl (by decide) ?_
          refine pn_iload_n (q := 42) dX7_partOf_41 rfl rfl ?_
          refine pn_iconst (q := 43) (v := nI 1) dX7_partOf_42 rfl (by decide) ?_
          refine pn_isub (q := 44) dX7_partOf_43 rfl ?_
          refine pn_i2l (q := 45) dX7_partOf_44 rfl ?_
          refine pn_roS1 (q := 48) (C0) lkX7_92 dX7_partOf_45 rfl rfl (pnSel_of (I := []) rfl rfl) (pnFree_none rfl) rfl (by omega) (Nat.le_of_ble_eq_true rfl) rfl ?_
          refine pn_bne (q := 51) (tgt := 53) dX7_partOf_48 (by decide) rfl (fun hc48 => ?_) (fun hc48 => ?_)
          · cases hc48
          · refine pn_lconst (q := 52) (v := lN 0) dX7_partOf_51 rfl (by decide) ?_
            refine pn_lret dX7_partOf_52 rfl ?_
            exact ⟨by rw [e9], rfl⟩
      | true =>
        rw [hx] at C0
        have k86 : (∀ j, j < i → c.1 j ≠ c.1 i) → pnWP mX7_partOf adK (d + 2) (pnIs (.inl (some (.long (lpN n sh k c.1 0 c.2)))) (hM1 Y P a b c e f g h)) 0 0 (hM1 Y P a b c e f g h) [some (.ref 0), some (.ref 3), some (.int (nI n)), some (.int (nI i))] [] 86 := by
          intro H2
          first | refine pn_iinc1 (q := 89) dX7_partOf_86 rfl rfl (by decide) ?_ | refine pn_iinc (q := 89) (mm := 1) dX7_partOf_86 rfl rfl (by decide) (by decide) ?_
          refine pn_goto (q := 25) dX7_partOf_89 (by decide) ?_
          exact ih (i + 1) (by omega) (fun i' hi' => by rcases Nat.lt_or_eq_of_le (Nat.le_of_lt_succ hi') with q | q; exact H i' q; rw [q]; exact ⟨hx, H2⟩)
        refine pn_iload_n (q := 26) dX7_partOf_25 rfl rfl ?_
        refine pn_aload_n (q := 27) dX7_partOf_26 rfl rfl rfl ?_
        refine pn_get (q := 30) fX7_85 dX7_partOf_27 rfl rfl rfl ?_
        first | refine pn_nge (q := 33) (tgt := 92) dX7_partOf_30 (by decide) rfl (by omega) (by omega) (fun hc30 => ?_) (fun hc30 => ?_) | refine pn_icmp_ge (q := 33) (tgt := 92) dX7_partOf_30 (by decide) rfl (fun hc30 => ?_) (fun hc30 => ?_)
        · omega
        · refine pn_aload_n (q := 34) dX7_partOf_33 rfl rfl rfl ?_
          refine pn_get (q := 37) fX7_32 dX7_partOf_34 rfl rfl rfl ?_
          refine pn_iload_n (q := 38) dX7_partOf_37 rfl rfl ?_
          refine pn_iald (q := 39) dX7_partOf_38 rfl rfl rfl (by omega) (by first | decide | omega) ?_
          refine pn_i2l (q := 40) dX7_partOf_39 rfl ?_
          refine pn_lconst (q := 41) (v := lN 0) dX7_partOf_40 rfl (by decide) ?_
          refine pn_iload_n (q := 42) dX7_partOf_41 rfl rfl ?_
          refine pn_iconst (q := 43) (v := nI 1) dX7_partOf_42 rfl (by decide) ?_
          refine pn_isub (q := 44) dX7_partOf_43 rfl ?_
          refine pn_i2l (q := 45) dX7_partOf_44 rfl ?_
          refine pn_roS1 (q := 48) (C0) lkX7_92 dX7_partOf_45 rfl rfl (pnSel_of (I := []) rfl rfl) (pnFree_none rfl) rfl (by omega) (Nat.le_of_ble_eq_true rfl) rfl ?_
          refine pn_bne (q := 51) (tgt := 53) dX7_partOf_48 (by decide) rfl (fun hc48 => ?_) (fun hc48 => ?_)
          · refine pn_iconst (q := 54) (v := nI 0) dX7_partOf_53 rfl (by decide) ?_
            refine pn_istore (q := 56) dX7_partOf_54 rfl (by decide) ?_
            exact lpJ i (by omega) k86 i 0 (by omega) (fun j' hj' => absurd hj' (Nat.not_lt_zero _))
          · cases hc48
  refine pn_aload_n (q := 1) dX7_partOf_0 rfl rfl rfl ?_
  refine pn_iconst (q := 2) (v := nI 0) dX7_partOf_1 rfl (by decide) ?_
  refine pn_lald1 (q := 3) dX7_partOf_2 rfl rfl rfl (by omega) (by decide) ?_; rw [h0]
  first | with_reducible refine pn_l2iN (q := 4) dX7_partOf_3 rfl ?_ | refine pn_l2i (q := 4) dX7_partOf_3 rfl ?_
  refine pn_istore_n (q := 5) dX7_partOf_4 rfl (by decide) ?_
  refine pn_aload_n (q := 6) dX7_partOf_5 rfl rfl rfl ?_
  refine pn_get (q := 9) fX7_85 dX7_partOf_6 rfl rfl rfl ?_
  refine pn_aload_n (q := 10) dX7_partOf_9 rfl rfl rfl ?_
  refine pn_iconst (q := 11) (v := nI 1) dX7_partOf_10 rfl (by decide) ?_
  refine pn_lald1 (q := 12) dX7_partOf_11 rfl rfl rfl (by omega) (by decide) ?_; rw [h1]
  refine pn_aload_n (q := 13) dX7_partOf_12 rfl rfl rfl ?_
  refine pn_iconst (q := 14) (v := nI 2) dX7_partOf_13 rfl (by decide) ?_
  refine pn_lald1 (q := 15) dX7_partOf_14 rfl rfl rfl (by omega) (by decide) ?_; rw [h2]
  refine pn_roS1 (q := 18) (CE) lkX7_88 dX7_partOf_15 rfl rfl (pnSel_of (I := []) rfl rfl) (pnFree_none rfl) rfl (by omega) (Nat.le_of_ble_eq_true rfl) rfl ?_
  first | refine pn_neq (q := 21) (tgt := 23) dX7_partOf_18 (by decide) rfl (by omega) (by omega) (fun hc18 => ?_) (fun hc18 => ?_) | refine pn_icmp_eq (q := 21) (tgt := 23) dX7_partOf_18 (by decide) rfl (fun hc18 => ?_) (fun hc18 => ?_)
  · refine pn_iconst (q := 24) (v := nI 0) dX7_partOf_23 rfl (by decide) ?_
    refine pn_istore_n (q := 25) dX7_partOf_24 rfl (by decide) ?_
    exact lpI c.2 0 (by omega) (fun j' hj' => absurd hj' (Nat.not_lt_zero _))
  · omega
