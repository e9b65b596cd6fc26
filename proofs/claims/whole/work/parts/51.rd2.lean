set_option maxRecDepth 100000 in
theorem c_advance (adK : Nat → Nat) (d : Nat) (fp : Int32) (flt len st en kd vl : Nat) (shd : Bool) (pct bct : Nat) (D : NS) (pn pl bl : Nat → Int32) (b : Nat → Int32) (hl : len ≤ 300) (he : en ≤ len) (hv : vl ≤ 1000) : pnCt mX3_advance adK (d + 1) 0 0 [.ref 0] (hRd fp flt len st en kd vl shd pct bct D pn pl bl b) (pnIs (.inl none) (hRd fp flt len (tkS len b en) (tkE len b en) (tkK len b en) (tkV len b en vl) shd pct bct D pn pl bl b)) := by
  refine pnCt_of (by decide) kX3_advance (Nat.le_of_ble_eq_true rfl) rfl (hRd_cl _ _ _ _ _ _ _ _ _ _ _ _ _ _ _) (pnCS_b rfl) ?_
  have CB : ∀ (s e k v p : Nat), p < len → pnCt mX3_byteAt adK d 0 0 [.ref 0, .int (nI p)] (hRd fp flt len s e k v shd pct bct D pn pl bl b) (pnIs (.inl (some (.int (b p)))) (hRd fp flt len s e k v shd pct bct D pn pl bl b)) := fun s e k v p hp => by
    have := c_byteAt adK d fp flt len s e k v shd pct bct D pn pl bl b p hl (by omega)
    rw [show byN len b p = b p from if_pos hp] at this
    exact this
  have letl : ∀ (s v z p : Nat), p + z = len → pnWP mX3_advance adK (d + 1) (pnIs (.inl none) (hRd fp flt len s (leE b z p) 1 v shd pct bct D pn pl bl b)) 0 0 (hRd fp flt len s p 1 v shd pct bct D pn pl bl b) [some (.ref 0)] [] 91 := by
    intro s v z
    induction z with
    | zero =>
      intro p hp
      refine pn_aload_n (q := 92) dX3_advance_91 rfl rfl rfl ?_
      refine pn_get (q := 95) fX3_35 dX3_advance_92 rfl rfl rfl ?_
      refine pn_aload_n (q := 96) dX3_advance_95 rfl rfl rfl ?_
      refine pn_get (q := 99) fX3_29 dX3_advance_96 rfl rfl rfl ?_
      first | refine pn_nge (q := 102) (tgt := 252) dX3_advance_99 (by decide) rfl (by omega) (by omega) (fun hc99 => ?_) (fun hc99 => ?_) | refine pn_icmp_ge (q := 102) (tgt := 252) dX3_advance_99 (by decide) rfl (fun hc99 => ?_) (fun hc99 => ?_)
      · refine pn_vret dX3_advance_252 rfl ?_
        exact ⟨rfl, rfl⟩
      · omega
    | succ z ih =>
      intro p hp
      have e2 : leE b (z + 1) p = if ltB (b p) = true then leE b z (p + 1) else p := rfl
      rw [e2]
      have k9 := ih (p + 1) (by omega)
      refine pn_aload_n (q := 92) dX3_advance_91 rfl rfl rfl ?_
      refine pn_get (q := 95) fX3_35 dX3_advance_92 rfl rfl rfl ?_
      refine pn_aload_n (q := 96) dX3_advance_95 rfl rfl rfl ?_
      refine pn_get (q := 99) fX3_29 dX3_advance_96 rfl rfl rfl ?_
      first | refine pn_nge (q := 102) (tgt := 252) dX3_advance_99 (by decide) rfl (by omega) (by omega) (fun hc99 => ?_) (fun hc99 => ?_) | refine pn_icmp_ge (q := 102) (tgt := 252) dX3_advance_99 (by decide) rfl (fun hc99 => ?_) (fun hc99 => ?_)
      · omega
      · refine pn_aload_n (q := 103) dX3_advance_102 rfl rfl rfl ?_
        refine pn_aload_n (q := 104) dX3_advance_103 rfl rfl rfl ?_
        refine pn_get (q := 107) fX3_35 dX3_advance_104 rfl rfl rfl ?_
        refine pn_roV1 (q := 110) (CB s p 1 v p (by omega)) lkX3_186 dX3_advance_107 rfl rfl (pnSel_of (I := [0, 1, 2, 3, 4, 5, 6, 7, 8]) rfl rfl) (pnFree_none rfl) rfl rfl rfl (by omega) (Nat.le_of_ble_eq_true rfl) rfl ?_
        refine pn_roS1 (q := 113) (c_isLetter adK d (b p)) lkX3_194 dX3_advance_110 rfl rfl (pnSel_of (I := []) rfl rfl) (pnFree_none rfl) rfl (by omega) (Nat.le_of_ble_eq_true rfl) rfl ?_
        refine pn_beq (q := 116) (tgt := 252) dX3_advance_113 (by decide) rfl (fun hc113 => ?_) (fun hc113 => ?_)
        · refine pn_vret dX3_advance_252 rfl ?_
          rw [if_neg (by rw [hc113]; exact Bool.false_ne_true)]; exact ⟨rfl, rfl⟩
        · refine pn_aload_n (q := 117) dX3_advance_116 rfl rfl rfl ?_
          refine pn_dup (q := 118) dX3_advance_117 rfl rfl ?_
          refine pn_get (q := 121) fX3_35 dX3_advance_118 rfl rfl rfl ?_
          refine pn_iconst (q := 122) (v := nI 1) dX3_advance_121 rfl (by decide) ?_
          first | with_reducible refine pn_iaddN (q := 123) dX3_advance_122 rfl ?_ | refine pn_iadd (q := 123) dX3_advance_122 rfl ?_
          refine pn_put (q := 126) fX3_35 dX3_advance_123 rfl rfl (Nat.le_of_ble_eq_true rfl) (pnF_int _) ?_
          refine pn_goto (q := 91) dX3_advance_126 (by decide) ?_
          rw [if_pos hc113]; exact k9
  have digl : ∀ (s z p v : Nat), p + z = len → v ≤ 1000 → pnWP mX3_advance adK (d + 1) (pnIs (.inl none) (hRd fp flt len s (dgE b z p) 2 (dgV b z p v) shd pct bct D pn pl bl b)) 0 0 (hRd fp flt len s p 2 v shd pct bct D pn pl bl b) [some (.ref 0)] [] 153 := by
    intro s z
    induction z with
    | zero =>
      intro p v hp hv9
      refine pn_aload_n (q := 154) dX3_advance_153 rfl rfl rfl ?_
      refine pn_get (q := 157) fX3_35 dX3_advance_154 rfl rfl rfl ?_
      refine pn_aload_n (q := 158) dX3_advance_157 rfl rfl rfl ?_
      refine pn_get (q := 161) fX3_29 dX3_advance_158 rfl rfl rfl ?_
      first | refine pn_nge (q := 164) (tgt := 252) dX3_advance_161 (by decide) rfl (by omega) (by omega) (fun hc161 => ?_) (fun hc161 => ?_) | refine pn_icmp_ge (q := 164) (tgt := 252) dX3_advance_161 (by decide) rfl (fun hc161 => ?_) (fun hc161 => ?_)
      · refine pn_vret dX3_advance_252 rfl ?_
        exact ⟨rfl, rfl⟩
      · omega
    | succ z ih =>
      intro p v hp hv9
      have e2 : dgE b (z + 1) p = if dgB (b p) = true then dgE b z (p + 1) else p := rfl
      have e3 : dgV b (z + 1) p v = if dgB (b p) = true then dgV b z (p + 1) (min 1000 (v * 10 + dgN (b p))) else v := rfl
      by_cases hd9 : dgB (b p) = true
      · obtain ⟨j, hj, ej⟩ := dgB_nat hd9
        have C9 := CB s p 2 v p (by omega)
        rw [ej] at C9
        have ed : dgN (b p) = j := by
          unfold dgN
          rw [ej, nI_clamp (by omega)]
          omega
        rw [e2, e3, if_pos hd9, if_pos hd9, ed]
        have k9 := ih (p + 1) (min 1000 (v * 10 + j)) (by omega) (Nat.min_le_left _ _)
        rw [ej] at hd9
        refine pn_aload_n (q := 154) dX3_advance_153 rfl rfl rfl ?_
        refine pn_get (q := 157) fX3_35 dX3_advance_154 rfl rfl rfl ?_
        refine pn_aload_n (q := 158) dX3_advance_157 rfl rfl rfl ?_
        refine pn_get (q := 161) fX3_29 dX3_advance_158 rfl rfl rfl ?_
        first | refine pn_nge (q := 164) (tgt := 252) dX3_advance_161 (by decide) rfl (by omega) (by omega) (fun hc161 => ?_) (fun hc161 => ?_) | refine pn_icmp_ge (q := 164) (tgt := 252) dX3_advance_161 (by decide) rfl (fun hc161 => ?_) (fun hc161 => ?_)
        · omega
        · refine pn_aload_n (q := 165) dX3_advance_164 rfl rfl rfl ?_
          refine pn_aload_n (q := 166) dX3_advance_165 rfl rfl rfl ?_
          refine pn_get (q := 169) fX3_35 dX3_advance_166 rfl rfl rfl ?_
          refine pn_roV1 (q := 172) (C9) lkX3_186 dX3_advance_169 rfl rfl (pnSel_of (I := [0, 1, 2, 3, 4, 5, 6, 7, 8]) rfl rfl) (pnFree_none rfl) rfl rfl rfl (by omega) (Nat.le_of_ble_eq_true rfl) rfl ?_
          refine pn_roS1 (q := 175) (c_isDigit adK d (nI (48 + j))) lkX3_197 dX3_advance_172 rfl rfl (pnSel_of (I := []) rfl rfl) (pnFree_none rfl) rfl (by omega) (Nat.le_of_ble_eq_true rfl) rfl ?_
          refine pn_beq (q := 178) (tgt := 252) dX3_advance_175 (by decide) rfl (fun hc175 => ?_) (fun hc175 => ?_)
          · rw [hd9] at hc175; cases hc175
          · refine pn_aload_n (q := 179) dX3_advance_178 rfl rfl rfl ?_
            refine pn_sipush (q := 182) (v := nI 1000) dX3_advance_179 rfl (by decide) ?_
            refine pn_aload_n (q := 183) dX3_advance_182 rfl rfl rfl ?_
            refine pn_get (q := 186) fX3_41 dX3_advance_183 rfl rfl rfl ?_
            refine pn_bipush (q := 188) (v := nI 10) dX3_advance_186 rfl (by decide) ?_
            first | with_reducible refine pn_imulN (q := 189) dX3_advance_188 rfl ?_ | refine pn_imul (q := 189) dX3_advance_188 rfl ?_
            refine pn_aload_n (q := 190) dX3_advance_189 rfl rfl rfl ?_
            refine pn_aload_n (q := 191) dX3_advance_190 rfl rfl rfl ?_
            refine pn_get (q := 194) fX3_35 dX3_advance_191 rfl rfl rfl ?_
            refine pn_roV1 (q := 197) (C9) lkX3_186 dX3_advance_194 rfl rfl (pnSel_of (I := [0, 1, 2, 3, 4, 5, 6, 7, 8]) rfl rfl) (pnFree_none rfl) rfl rfl rfl (by omega) (Nat.le_of_ble_eq_true rfl) rfl ?_
            first | with_reducible refine pn_iaddN (q := 198) dX3_advance_197 rfl ?_ | refine pn_iadd (q := 198) dX3_advance_197 rfl ?_
            refine pn_bipush (q := 200) (v := nI 48) dX3_advance_198 rfl (by decide) ?_
            first | with_reducible refine pn_isubN (q := 201) dX3_advance_200 rfl (by omega) ?_ | refine pn_isub (q := 201) dX3_advance_200 rfl ?_
            refine pn_roS1 (q := 204) (c_min adK d 1000 (v * 10 + (48 + j) - 48) (by omega) (by omega)) lkX3_64 dX3_advance_201 rfl rfl (pnSel_of (I := []) rfl rfl) (pnFree_none rfl) rfl (by omega) (Nat.le_of_ble_eq_true rfl) rfl ?_
            refine pn_put (q := 207) fX3_41 dX3_advance_204 rfl rfl (Nat.le_of_ble_eq_true rfl) (pnF_int _) ?_
            refine pn_aload_n (q := 208) dX3_advance_207 rfl rfl rfl ?_
            refine pn_dup (q := 209) dX3_advance_208 rfl rfl ?_
            refine pn_get (q := 212) fX3_35 dX3_advance_209 rfl rfl rfl ?_
            refine pn_iconst (q := 213) (v := nI 1) dX3_advance_212 rfl (by decide) ?_
            first | with_reducible refine pn_iaddN (q := 214) dX3_advance_213 rfl ?_ | refine pn_iadd (q := 214) dX3_advance_213 rfl ?_
            refine pn_put (q := 217) fX3_35 dX3_advance_214 rfl rfl (Nat.le_of_ble_eq_true rfl) (pnF_int _) ?_
            refine pn_goto (q := 153) dX3_advance_217 (by decide) ?_
            rw [show v * 10 + (48 + j) - 48 = v * 10 + j by omega]; exact k9
      · have C9 := CB s p 2 v p (by omega)
        rw [e2, e3, if_neg hd9, if_neg hd9]
        refine pn_aload_n (q := 154) dX3_advance_153 rfl rfl rfl ?_
        refine pn_get (q := 157) fX3_35 dX3_advance_154 rfl rfl rfl ?_
        refine pn_aload_n (q := 158) dX3_advance_157 rfl rfl rfl ?_
        refine pn_get (q := 161) fX3_29 dX3_advance_158 rfl rfl rfl ?_
        first | refine pn_nge (q := 164) (tgt := 252) dX3_advance_161 (by decide) rfl (by omega) (by omega) (fun hc161 => ?_) (fun hc161 => ?_) | refine pn_icmp_ge (q := 164) (tgt := 252) dX3_advance_161 (by decide) rfl (fun hc161 => ?_) (fun hc161 => ?_)
        · omega
        · refine pn_aload_n (q := 165) dX3_advance_164 rfl rfl rfl ?_
          refine pn_aload_n (q := 166) dX3_advance_165 rfl rfl rfl ?_
          refine pn_get (q := 169) fX3_35 dX3_advance_166 rfl rfl rfl ?_
          refine pn_roV1 (q := 172) (C9) lkX3_186 dX3_advance_169 rfl rfl (pnSel_of (I := [0, 1, 2, 3, 4, 5, 6, 7, 8]) rfl rfl) (pnFree_none rfl) rfl rfl rfl (by omega) (Nat.le_of_ble_eq_true rfl) rfl ?_
          refine pn_roS1 (q := 175) (c_isDigit adK d (b p)) lkX3_197 dX3_advance_172 rfl rfl (pnSel_of (I := []) rfl rfl) (pnFree_none rfl) rfl (by omega) (Nat.le_of_ble_eq_true rfl) rfl ?_
          refine pn_beq (q := 178) (tgt := 252) dX3_advance_175 (by decide) rfl (fun hc175 => ?_) (fun hc175 => ?_)
          · refine pn_vret dX3_advance_252 rfl ?_
            exact ⟨rfl, rfl⟩
          · exact (hd9 hc175).elim
  have tail : ∀ s, s ≤ len → s = tkS len b en → pnWP mX3_advance adK (d + 1) (pnIs (.inl none) (hRd fp flt len (tkS len b en) (tkE len b en) (tkK len b en) (tkV len b en vl) shd pct bct D pn pl bl b)) 0 0 (hRd fp flt len s en kd vl shd pct bct D pn pl bl b) [some (.ref 0)] [] 45 := by
    intro s hs es
    unfold tkE tkK tkV
    rw [← es]
    by_cases h1 : len ≤ s
    · rw [if_pos h1, if_pos h1, if_pos h1]
      refine pn_aload_n (q := 46) dX3_advance_45 rfl rfl rfl ?_
      refine pn_aload_n (q := 47) dX3_advance_46 rfl rfl rfl ?_
      refine pn_get (q := 50) fX3_32 dX3_advance_47 rfl rfl rfl ?_
      refine pn_put (q := 53) fX3_35 dX3_advance_50 rfl rfl (Nat.le_of_ble_eq_true rfl) (pnF_int _) ?_
      refine pn_aload_n (q := 54) dX3_advance_53 rfl rfl rfl ?_
      refine pn_get (q := 57) fX3_32 dX3_advance_54 rfl rfl rfl ?_
      refine pn_aload_n (q := 58) dX3_advance_57 rfl rfl rfl ?_
      refine pn_get (q := 61) fX3_29 dX3_advance_58 rfl rfl rfl ?_
      first | refine pn_nlt (q := 64) (tgt := 72) dX3_advance_61 (by decide) rfl (by omega) (by omega) (fun hc61 => ?_) (fun hc61 => ?_) | refine pn_icmp_lt (q := 64) (tgt := 72) dX3_advance_61 (by decide) rfl (fun hc61 => ?_) (fun hc61 => ?_)
      · omega
      · refine pn_aload_n (q := 65) dX3_advance_64 rfl rfl rfl ?_
        refine pn_iconst (q := 66) (v := nI 0) dX3_advance_65 rfl (by decide) ?_
        refine pn_put (q := 69) fX3_38 dX3_advance_66 rfl rfl (Nat.le_of_ble_eq_true rfl) (pnF_int _) ?_
        refine pn_goto (q := 252) dX3_advance_69 (by decide) ?_
        refine pn_vret dX3_advance_252 rfl ?_
        exact ⟨rfl, rfl⟩
    · rw [if_neg h1, if_neg h1, if_neg h1]
      by_cases h2 : ltB (b s) = true
      · rw [if_pos h2, if_pos h2, if_pos h2]
        refine pn_aload_n (q := 46) dX3_advance_45 rfl rfl rfl ?_
        refine pn_aload_n (q := 47) dX3_advance_46 rfl rfl rfl ?_
        refine pn_get (q := 50) fX3_32 dX3_advance_47 rfl rfl rfl ?_
        refine pn_put (q := 53) fX3_35 dX3_advance_50 rfl rfl (Nat.le_of_ble_eq_true rfl) (pnF_int _) ?_
        refine pn_aload_n (q := 54) dX3_advance_53 rfl rfl rfl ?_
        refine pn_get (q := 57) fX3_32 dX3_advance_54 rfl rfl rfl ?_
        refine pn_aload_n (q := 58) dX3_advance_57 rfl rfl rfl ?_
        refine pn_get (q := 61) fX3_29 dX3_advance_58 rfl rfl rfl ?_
        first | refine pn_nlt (q := 64) (tgt := 72) dX3_advance_61 (by decide) rfl (by omega) (by omega) (fun hc61 => ?_) (fun hc61 => ?_) | refine pn_icmp_lt (q := 64) (tgt := 72) dX3_advance_61 (by decide) rfl (fun hc61 => ?_) (fun hc61 => ?_)
        · refine pn_aload_n (q := 73) dX3_advance_72 rfl rfl rfl ?_
          refine pn_aload_n (q := 74) dX3_advance_73 rfl rfl rfl ?_
          refine pn_get (q := 77) fX3_32 dX3_advance_74 rfl rfl rfl ?_
          refine pn_roV1 (q := 80) (CB s s kd vl s (by omega)) lkX3_186 dX3_advance_77 rfl rfl (pnSel_of (I := [0, 1, 2, 3, 4, 5, 6, 7, 8]) rfl rfl) (pnFree_none rfl) rfl rfl rfl (by omega) (Nat.le_of_ble_eq_true rfl) rfl ?_
          refine pn_roS1 (q := 83) (c_isLetter adK d (b s)) lkX3_194 dX3_advance_80 rfl rfl (pnSel_of (I := []) rfl rfl) (pnFree_none rfl) rfl (by omega) (Nat.le_of_ble_eq_true rfl) rfl ?_
          refine pn_beq (q := 86) (tgt := 129) dX3_advance_83 (by decide) rfl (fun hc83 => ?_) (fun hc83 => ?_)
          · rw [h2] at hc83; cases hc83
          · refine pn_aload_n (q := 87) dX3_advance_86 rfl rfl rfl ?_
            refine pn_iconst (q := 88) (v := nI 1) dX3_advance_87 rfl (by decide) ?_
            refine pn_put (q := 91) fX3_38 dX3_advance_88 rfl rfl (Nat.le_of_ble_eq_true rfl) (pnF_int _) ?_
            exact letl s vl (len - s) s (by omega)
        · omega
      · rw [if_neg h2, if_neg h2, if_neg h2]
        by_cases h3 : dgB (b s) = true
        · rw [if_pos h3, if_pos h3, if_pos h3]
          refine pn_aload_n (q := 46) dX3_advance_45 rfl rfl rfl ?_
          refine pn_aload_n (q := 47) dX3_advance_46 rfl rfl rfl ?_
          refine pn_get (q := 50) fX3_32 dX3_advance_47 rfl rfl rfl ?_
          refine pn_put (q := 53) fX3_35 dX3_advance_50 rfl rfl (Nat.le_of_ble_eq_true rfl) (pnF_int _) ?_
          refine pn_aload_n (q := 54) dX3_advance_53 rfl rfl rfl ?_
          refine pn_get (q := 57) fX3_32 dX3_advance_54 rfl rfl rfl ?_
          refine pn_aload_n (q := 58) dX3_advance_57 rfl rfl rfl ?_
          refine pn_get (q := 61) fX3_29 dX3_advance_58 rfl rfl rfl ?_
          first | refine pn_nlt (q := 64) (tgt := 72) dX3_advance_61 (by decide) rfl (by omega) (by omega) (fun hc61 => ?_) (fun hc61 => ?_) | refine pn_icmp_lt (q := 64) (tgt := 72) dX3_advance_61 (by decide) rfl (fun hc61 => ?_) (fun hc61 => ?_)
          · refine pn_aload_n (q := 73) dX3_advance_72 rfl rfl rfl ?_
            refine pn_aload_n (q := 74) dX3_advance_73 rfl rfl rfl ?_
            refine pn_get (q := 77) fX3_32 dX3_advance_74 rfl rfl rfl ?_
            refine pn_roV1 (q := 80) (CB s s kd vl s (by omega)) lkX3_186 dX3_advance_77 rfl rfl (pnSel_of (I := [0, 1, 2, 3, 4, 5, 6, 7, 8]) rfl rfl) (pnFree_none rfl) rfl rfl rfl (by omega) (Nat.le_of_ble_eq_true rfl) rfl ?_
            refine pn_roS1 (q := 83) (c_isLetter adK d (b s)) lkX3_194 dX3_advance_80 rfl rfl (pnSel_of (I := []) rfl rfl) (pnFree_none rfl) rfl (by omega) (Nat.le_of_ble_eq_true rfl) rfl ?_
            refine pn_beq (q := 86) (tgt := 129) dX3_advance_83 (by decide) rfl (fun hc83 => ?_) (fun hc83 => ?_)
            · refine pn_aload_n (q := 130) dX3_advance_129 rfl rfl rfl ?_
              refine pn_aload_n (q := 131) dX3_advance_130 rfl rfl rfl ?_
              refine pn_get (q := 134) fX3_32 dX3_advance_131 rfl rfl rfl ?_
              refine pn_roV1 (q := 137) (CB s s kd vl s (by omega)) lkX3_186 dX3_advance_134 rfl rfl (pnSel_of (I := [0, 1, 2, 3, 4, 5, 6, 7, 8]) rfl rfl) (pnFree_none rfl) rfl rfl rfl (by omega) (Nat.le_of_ble_eq_true rfl) rfl ?_
              refine pn_roS1 (q := 140) (c_isDigit adK d (b s)) lkX3_197 dX3_advance_137 rfl rfl (pnSel_of (I := []) rfl rfl) (pnFree_none rfl) rfl (by omega) (Nat.le_of_ble_eq_true rfl) rfl ?_
              refine pn_beq (q := 143) (tgt := 220) dX3_advance_140 (by decide) rfl (fun hc140 => ?_) (fun hc140 => ?_)
              · rw [h3] at hc140; cases hc140
              · refine pn_aload_n (q := 144) dX3_advance_143 rfl rfl rfl ?_
                refine pn_iconst (q := 145) (v := nI 2) dX3_advance_144 rfl (by decide) ?_
                refine pn_put (q := 148) fX3_38 dX3_advance_145 rfl rfl (Nat.le_of_ble_eq_true rfl) (pnF_int _) ?_
                refine pn_aload_n (q := 149) dX3_advance_148 rfl rfl rfl ?_
                refine pn_iconst (q := 150) (v := nI 0) dX3_advance_149 rfl (by decide) ?_
                refine pn_put (q := 153) fX3_41 dX3_advance_150 rfl rfl (Nat.le_of_ble_eq_true rfl) (pnF_int _) ?_
                exact digl s (len - s) s 0 (by omega) (by omega)
            · exact (h2 hc83).elim
          · omega
        · rw [if_neg h3, if_neg h3, if_neg h3]
          refine pn_aload_n (q := 46) dX3_advance_45 rfl rfl rfl ?_
          refine pn_aload_n (q := 47) dX3_advance_46 rfl rfl rfl ?_
          refine pn_get (q := 50) fX3_32 dX3_advance_47 rfl rfl rfl ?_
          refine pn_put (q := 53) fX3_35 dX3_advance_50 rfl rfl (Nat.le_of_ble_eq_true rfl) (pnF_int _) ?_
          refine pn_aload_n (q := 54) dX3_advance_53 rfl rfl rfl ?_
          refine pn_get (q := 57) fX3_32 dX3_advance_54 rfl rfl rfl ?_
          refine pn_aload_n (q := 58) dX3_advance_57 rfl rfl rfl ?_
          refine pn_get (q := 61) fX3_29 dX3_advance_58 rfl rfl rfl ?_
          first | refine pn_nlt (q := 64) (tgt := 72) dX3_advance_61 (by decide) rfl (by omega) (by omega) (fun hc61 => ?_) (fun hc61 => ?_) | refine pn_icmp_lt (q := 64) (tgt := 72) dX3_advance_61 (by decide) rfl (fun hc61 => ?_) (fun hc61 => ?_)
          · refine pn_aload_n (q := 73) dX3_advance_72 rfl rfl rfl ?_
            refine pn_aload_n (q := 74) dX3_advance_73 rfl rfl rfl ?_
            refine pn_get (q := 77) fX3_32 dX3_advance_74 rfl rfl rfl ?_
            refine pn_roV1 (q := 80) (CB s s kd vl s (by omega)) lkX3_186 dX3_advance_77 rfl rfl (pnSel_of (I := [0, 1, 2, 3, 4, 5, 6, 7, 8]) rfl rfl) (pnFree_none rfl) rfl rfl rfl (by omega) (Nat.le_of_ble_eq_true rfl) rfl ?_
            refine pn_roS1 (q := 83) (c_isLetter adK d (b s)) lkX3_194 dX3_advance_80 rfl rfl (pnSel_of (I := []) rfl rfl) (pnFree_none rfl) rfl (by omega) (Nat.le_of_ble_eq_true rfl) rfl ?_
            refine pn_beq (q := 86) (tgt := 129) dX3_advance_83 (by decide) rfl (fun hc83 => ?_) (fun hc83 => ?_)
            · refine pn_aload_n (q := 130) dX3_advance_129 rfl rfl rfl ?_
              refine pn_aload_n (q := 131) dX3_advance_130 rfl rfl rfl ?_
              refine pn_get (q := 134) fX3_32 dX3_advance_131 rfl rfl rfl ?_
              refine pn_roV1 (q := 137) (CB s s kd vl s (by omega)) lkX3_186 dX3_advance_134 rfl rfl (pnSel_of (I := [0, 1, 2, 3, 4, 5, 6, 7, 8]) rfl rfl) (pnFree_none rfl) rfl rfl rfl (by omega) (Nat.le_of_ble_eq_true rfl) rfl ?_
              refine pn_roS1 (q := 140) (c_isDigit adK d (b s)) lkX3_197 dX3_advance_137 rfl rfl (pnSel_of (I := []) rfl rfl) (pnFree_none rfl) rfl (by omega) (Nat.le_of_ble_eq_true rfl) rfl ?_
              refine pn_beq (q := 143) (tgt := 220) dX3_advance_140 (by decide) rfl (fun hc140 => ?_) (fun hc140 => ?_)
              · refine pn_aload_n (q := 221) dX3_advance_220 rfl rfl rfl ?_
                refine pn_aload_n (q := 222) dX3_advance_221 rfl rfl rfl ?_
                refine pn_aload_n (q := 223) dX3_advance_222 rfl rfl rfl ?_
                refine pn_get (q := 226) fX3_32 dX3_advance_223 rfl rfl rfl ?_
                refine pn_roV1 (q := 229) (CB s s kd vl s (by omega)) lkX3_186 dX3_advance_226 rfl rfl (pnSel_of (I := [0, 1, 2, 3, 4, 5, 6, 7, 8]) rfl rfl) (pnFree_none rfl) rfl rfl rfl (by omega) (Nat.le_of_ble_eq_true rfl) rfl ?_
                refine pn_bipush (q := 231) (v := nI 59) dX3_advance_229 rfl (by decide) ?_
                refine pn_icmp_ne (q := 234) (tgt := 238) dX3_advance_231 (by decide) rfl (fun hc231 => ?_) (fun hc231 => ?_)
                · refine pn_iconst (q := 239) (v := nI 4) dX3_advance_238 rfl (by decide) ?_
                  refine pn_put (q := 242) fX3_38 dX3_advance_239 rfl rfl (Nat.le_of_ble_eq_true rfl) (pnF_int _) ?_
                  refine pn_aload_n (q := 243) dX3_advance_242 rfl rfl rfl ?_
                  refine pn_dup (q := 244) dX3_advance_243 rfl rfl ?_
                  refine pn_get (q := 247) fX3_35 dX3_advance_244 rfl rfl rfl ?_
                  refine pn_iconst (q := 248) (v := nI 1) dX3_advance_247 rfl (by decide) ?_
                  first | with_reducible refine pn_iaddN (q := 249) dX3_advance_248 rfl ?_ | refine pn_iadd (q := 249) dX3_advance_248 rfl ?_
                  refine pn_put (q := 252) fX3_35 dX3_advance_249 rfl rfl (Nat.le_of_ble_eq_true rfl) (pnF_int _) ?_
                  refine pn_vret dX3_advance_252 rfl ?_
                  first | (rw [if_pos hc231]; exact ⟨rfl, rfl⟩) | (rw [if_neg hc231]; exact ⟨rfl, rfl⟩)
                · refine pn_iconst (q := 235) (v := nI 3) dX3_advance_234 rfl (by decide) ?_
                  refine pn_goto (q := 239) dX3_advance_235 (by decide) ?_
                  refine pn_put (q := 242) fX3_38 dX3_advance_239 rfl rfl (Nat.le_of_ble_eq_true rfl) (pnF_int _) ?_
                  refine pn_aload_n (q := 243) dX3_advance_242 rfl rfl rfl ?_
                  refine pn_dup (q := 244) dX3_advance_243 rfl rfl ?_
                  refine pn_get (q := 247) fX3_35 dX3_advance_244 rfl rfl rfl ?_
                  refine pn_iconst (q := 248) (v := nI 1) dX3_advance_247 rfl (by decide) ?_
                  first | with_reducible refine pn_iaddN (q := 249) dX3_advance_248 rfl ?_ | refine pn_iadd (q := 249) dX3_advance_248 rfl ?_
                  refine pn_put (q := 252) fX3_35 dX3_advance_249 rfl rfl (Nat.le_of_ble_eq_true rfl) (pnF_int _) ?_
                  refine pn_vret dX3_advance_252 rfl ?_
                  first | (rw [if_pos hc231]; exact ⟨rfl, rfl⟩) | (rw [if_neg hc231]; exact ⟨rfl, rfl⟩)
              · exact (h3 hc140).elim
            · exact (h2 hc83).elim
          · omega
  have skip : ∀ (z p : Nat), p + z = len → skS b z p = tkS len b en → pnWP mX3_advance adK (d + 1) (pnIs (.inl none) (hRd fp flt len (tkS len b en) (tkE len b en) (tkK len b en) (tkV len b en vl) shd pct bct D pn pl bl b)) 0 0 (hRd fp flt len p en kd vl shd pct bct D pn pl bl b) [some (.ref 0)] [] 8 := by
    intro z
    induction z with
    | zero =>
      intro p hp e
      refine pn_aload_n (q := 9) dX3_advance_8 rfl rfl rfl ?_
      refine pn_get (q := 12) fX3_32 dX3_advance_9 rfl rfl rfl ?_
      refine pn_aload_n (q := 13) dX3_advance_12 rfl rfl rfl ?_
      refine pn_get (q := 16) fX3_29 dX3_advance_13 rfl rfl rfl ?_
      first | refine pn_nge (q := 19) (tgt := 45) dX3_advance_16 (by decide) rfl (by omega) (by omega) (fun hc16 => ?_) (fun hc16 => ?_) | refine pn_icmp_ge (q := 19) (tgt := 45) dX3_advance_16 (by decide) rfl (fun hc16 => ?_) (fun hc16 => ?_)
      · exact tail p (by omega) e
      · omega
    | succ z ih =>
      intro p hp e
      have e2 : skS b (z + 1) p = if b p = nI 32 then skS b z (p + 1) else p := rfl
      rw [e2] at e
      refine pn_aload_n (q := 9) dX3_advance_8 rfl rfl rfl ?_
      refine pn_get (q := 12) fX3_32 dX3_advance_9 rfl rfl rfl ?_
      refine pn_aload_n (q := 13) dX3_advance_12 rfl rfl rfl ?_
      refine pn_get (q := 16) fX3_29 dX3_advance_13 rfl rfl rfl ?_
      first | refine pn_nge (q := 19) (tgt := 45) dX3_advance_16 (by decide) rfl (by omega) (by omega) (fun hc16 => ?_) (fun hc16 => ?_) | refine pn_icmp_ge (q := 19) (tgt := 45) dX3_advance_16 (by decide) rfl (fun hc16 => ?_) (fun hc16 => ?_)
      · omega
      · refine pn_aload_n (q := 20) dX3_advance_19 rfl rfl rfl ?_
        refine pn_aload_n (q := 21) dX3_advance_20 rfl rfl rfl ?_
        refine pn_get (q := 24) fX3_32 dX3_advance_21 rfl rfl rfl ?_
        refine pn_roV1 (q := 27) (CB p en kd vl p (by omega)) lkX3_186 dX3_advance_24 rfl rfl (pnSel_of (I := [0, 1, 2, 3, 4, 5, 6, 7, 8]) rfl rfl) (pnFree_none rfl) rfl rfl rfl (by omega) (Nat.le_of_ble_eq_true rfl) rfl ?_
        refine pn_bipush (q := 29) (v := nI 32) dX3_advance_27 rfl (by decide) ?_
        refine pn_icmp_ne (q := 32) (tgt := 45) dX3_advance_29 (by decide) rfl (fun hc29 => ?_) (fun hc29 => ?_)
        · exact tail p (by omega) (by rw [if_neg hc29] at e; exact e)
        · refine pn_aload_n (q := 33) dX3_advance_32 rfl rfl rfl ?_
          refine pn_dup (q := 34) dX3_advance_33 rfl rfl ?_
          refine pn_get (q := 37) fX3_32 dX3_advance_34 rfl rfl rfl ?_
          refine pn_iconst (q := 38) (v := nI 1) dX3_advance_37 rfl (by decide) ?_
          first | with_reducible refine pn_iaddN (q := 39) dX3_advance_38 rfl ?_ | refine pn_iadd (q := 39) dX3_advance_38 rfl ?_
          refine pn_put (q := 42) fX3_32 dX3_advance_39 rfl rfl (Nat.le_of_ble_eq_true rfl) (pnF_int _) ?_
          refine pn_goto (q := 8) dX3_advance_42 (by decide) ?_
          exact ih (p + 1) (by omega) (by rw [if_pos hc29] at e; exact e)
  refine pn_aload_n (q := 1) dX3_advance_0 rfl rfl rfl ?_
  refine pn_aload_n (q := 2) dX3_advance_1 rfl rfl rfl ?_
  refine pn_get (q := 5) fX3_35 dX3_advance_2 rfl rfl rfl ?_
  refine pn_put (q := 8) fX3_32 dX3_advance_5 rfl rfl (Nat.le_of_ble_eq_true rfl) (pnF_int _) ?_
  exact skip (len - en) en (by omega) rfl
theorem tk_le {len : Nat} {b : Nat → Int32} {e v : Nat} (he : e ≤ len) (hv : v ≤ 1000) : e ≤ tkS len b e ∧ tkS len b e ≤ len ∧ tkS len b e ≤ tkE len b e ∧ tkE len b e ≤ len ∧ tkK len b e ≤ 4 ∧ tkV len b e v ≤ 1000 ∧ (tkK len b e ≠ 0 → tkS len b e < tkE len b e) := by
  have h1 := skS_le b (len - e) e
  have h2 : tkS len b e = skS b (len - e) e := rfl
  have h3 := leE_le b (len - tkS len b e) (tkS len b e)
  have h4 := dgE_le b (len - tkS len b e) (tkS len b e)
  have h5 := dgV_le b (len - tkS len b e) (tkS len b e) 0 (by omega)
  have h6 : ¬ len ≤ tkS len b e → ltB (b (tkS len b e)) = true → tkS len b e < leE b (len - tkS len b e) (tkS len b e) := fun q1 q2 => by
    rw [show len - tkS len b e = (len - tkS len b e - 1) + 1 by omega]
    have := leE_le b (len - tkS len b e - 1) (tkS len b e + 1)
    unfold leE
    rw [if_pos q2]
    omega
  have h7 : ¬ len ≤ tkS len b e → dgB (b (tkS len b e)) = true → tkS len b e < dgE b (len - tkS len b e) (tkS len b e) := fun q1 q2 => by
    rw [show len - tkS len b e = (len - tkS len b e - 1) + 1 by omega]
    have := dgE_le b (len - tkS len b e - 1) (tkS len b e + 1)
    unfold dgE
    rw [if_pos q2]
    omega
  refine ⟨by omega, by omega, ?_, ?_, ?_, ?_, ?_⟩
  · unfold tkE; repeat' split
    all_goals omega
  · unfold tkE; repeat' split
    all_goals omega
  · unfold tkK; repeat' split
    all_goals omega
  · unfold tkV; repeat' split
    all_goals omega
  · unfold tkE tkK
    by_cases q1 : len ≤ tkS len b e
    · rw [if_pos q1]; intro q; omega
    · rw [if_neg q1, if_neg q1]
      by_cases q2 : ltB (b (tkS len b e)) = true
      · rw [if_pos q2, if_pos q2]; intro _; exact h6 q1 q2
      · rw [if_neg q2, if_neg q2]
        by_cases q3 : dgB (b (tkS len b e)) = true
        · rw [if_pos q3, if_pos q3]; intro _; exact h7 q1 q3
        · rw [if_neg q3, if_neg q3]; intro _; omega
