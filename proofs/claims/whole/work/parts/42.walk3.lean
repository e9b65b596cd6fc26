theorem wkS_n {f : Nat → Int64} {R : Nat} {sN : Nat → Nat} {c : Nat} {once : Bool} {z : Nat} {rest : Int64} {dp fr : Nat} {tk : Nat → Nat} {ways steps wl : Nat} {way : Nat → Int64} (h : nrN f sN rest fr = none) : wkS f R sN c once (z + 1) rest dp fr tk ways steps wl way = if 0 < dp then wkS f R sN c once z (rest ||| (if tk (dp - 1) < R then f (tk (dp - 1)) else 0)) (dp - 1) (tk (dp - 1) + 1) tk ways steps wl way else (ways, steps, false, wl, way, tk) := by
  conv => lhs; unfold wkS
  rw [h]
theorem wkS_o {f : Nat → Int64} {R : Nat} {sN : Nat → Nat} {c : Nat} {once : Bool} {z : Nat} {rest : Int64} {dp fr : Nat} {tk : Nat → Nat} {ways steps wl : Nat} {way : Nat → Int64} {row : Nat} (h : nrN f sN rest fr = some row) : wkS f R sN c once (z + 1) rest dp fr tk ways steps wl way = (if steps = 20000 then (ways, steps, true, wl, way, tk) else
      if dp < 55 then
        if rest &&& (f row ^^^ (-1)) = 0 then
          if once = true then (ways + 1, steps + 1, false, (if ways = 0 then dp + 1 else wl), (if ways = 0 then waF f R (updN tk dp row) way (dp + 1) else way), updN tk dp row)
          else wkS f R sN c once z (rest &&& (f row ^^^ (-1))) (dp + 1) (frN sN c (rest &&& (f row ^^^ (-1)))) (updN tk dp row) (ways + 1) (steps + 1) (if ways = 0 then dp + 1 else wl) (if ways = 0 then waF f R (updN tk dp row) way (dp + 1) else way)
        else if once = true ∧ 0 < ways then (ways, steps + 1, false, wl, way, updN tk dp row)
        else wkS f R sN c once z (rest &&& (f row ^^^ (-1))) (dp + 1) (frN sN c (rest &&& (f row ^^^ (-1)))) (updN tk dp row) ways (steps + 1) wl way
      else wkS f R sN c once z (rest ||| (if tk (dp - 1) < R then f (tk (dp - 1)) else 0)) (dp - 1) (tk (dp - 1) + 1) tk ways steps wl way) := by
  conv => lhs; unfold wkS
  rw [h]
theorem nI_dn (e : Nat) : nI (e + 1) + (-1) = nI e := by rw [dnI_i, dnI_s]
theorem nI_m1 {i : Nat} (h : i ≤ 100000) : ¬ nI i = -1 := by
  intro e
  have e2 := congrArg Int32.toInt e
  rw [nI_toInt (by omega)] at e2
  have : ((-1 : Int32)).toInt = -1 := by decide
  omega
set_option maxRecDepth 100000 in
theorem c_step (adK : Nat → Nat) (d : Nat) (c R : Nat) (f : Nat → Int64) (sN : Nat → Nat) (fd : Int64) (n sh k : Nat) (g : Int64) (pl : Nat) (ch : Nat → Int32) (wl0 : Nat) (way0 : Nat → Int64) (tk0 : Nat → Nat) (whole : Bool) (left : Int64) (n1 sh1 k1 : Nat) (once : Bool) (hs : ∀ j, sN j ≤ c) (hc : c ≤ R) (hR : R ≤ 60000) (htk0 : ∀ j, tk0 j ≤ 60000) (hwl0 : wl0 ≤ 55) : pnCt mX5_step adK (d + 3) 0 0 [.ref 0, .ref 3, .int (nB once)] (hWalk 0 0 false wl0 way0 tk0 whole left n1 sh1 k1 ++ (hCatO 3 c R f (fun j => nI (sN j)) fd n sh k g pl ch)) (pnIs (.inl none) (hWR (wkS f R sN c once 60000 left 0 (frN sN c left) tk0 0 0 wl0 way0) whole left n1 sh1 k1 ++ (hCatO 3 c R f (fun j => nI (sN j)) fd n sh k g pl ch))) := by
  obtain ⟨RES, hRES⟩ : ∃ r, r = wkS f R sN c once 60000 left 0 (frN sN c left) tk0 0 0 wl0 way0 := ⟨_, rfl⟩
  rw [← hRES]
  have hfr : ∀ x, frN sN c x ≤ 60000 := fun x => by
    have := hs (llN x)
    unfold frN
    split <;> omega
  refine pnCt_of (by decide) kX5_step (Nat.le_of_ble_eq_true rfl) rfl (pnCH_b rfl) (pnCS_b rfl) ?_
  have loop : ∀ (z t : Nat) (rest : Int64) (dp fr : Nat) (tk : Nat → Nat) (ways steps wl : Nat) (way : Nat → Int64), t + z = 60000 → fr ≤ 60001 → dp ≤ 55 → (∀ j, tk j ≤ 60000) → ways ≤ steps → steps ≤ 20000 → wkS f R sN c once z rest dp fr tk ways steps wl way = RES → pnWP mX5_step adK (d + 3) (pnIs (.inl none) (hWR RES whole left n1 sh1 k1 ++ (hCatO 3 c R f (fun j => nI (sN j)) fd n sh k g pl ch))) 0 0 (hWalk ways steps false wl way tk whole left n1 sh1 k1 ++ (hCatO 3 c R f (fun j => nI (sN j)) fd n sh k g pl ch)) [some (.ref 0), some (.ref 3), some (.int (nB once)), some (.long rest), none, some (.int (nI dp)), some (.int (nI fr)), some (.int (nI t))] [] 18 := by
    intro z
    induction z with
    | zero =>
      intro t rest dp fr tk ways steps wl way ht h1 h2 h3 h4 h5 e
      refine pn_iload (q := 20) dX5_step_18 rfl rfl ?_
      refine pn_ldc (q := 22) pw_495 dX5_step_20 rfl ?_; refine pn_eq (h' := _) (st' := .int (nI 60000) :: _) rfl rfl ?_
      first | refine pn_nge (q := 25) (tgt := 208) dX5_step_22 (by decide) rfl (by omega) (by omega) (fun hc22 => ?_) (fun hc22 => ?_) | refine pn_icmp_ge (q := 25) (tgt := 208) dX5_step_22 (by decide) rfl (fun hc22 => ?_) (fun hc22 => ?_)
      · refine pn_vret dX5_step_208 rfl ?_
        exact ⟨rfl, by rw [← e]; rfl⟩
      · omega
    | succ z ih =>
      intro t rest dp fr tk ways steps wl way ht h1 h2 h3 h4 h5 e
      have back : ∀ e1, dp = e1 + 1 → wkS f R sN c once z (rest ||| (if tk e1 < R then f (tk e1) else 0)) e1 (tk e1 + 1) tk ways steps wl way = RES → pnWP mX5_step adK (d + 3) (pnIs (.inl none) (hWR RES whole left n1 sh1 k1 ++ (hCatO 3 c R f (fun j => nI (sN j)) fd n sh k g pl ch))) 0 0 (hWalk ways steps false wl way tk whole left n1 sh1 k1 ++ (hCatO 3 c R f (fun j => nI (sN j)) fd n sh k g pl ch)) [some (.ref 0), some (.ref 3), some (.int (nB once)), some (.long rest), none, some (.int (nI dp)), some (.int (nI fr)), some (.int (nI t))] [] 155 := by
        intro e1 hd1 e9
        subst hd1
        have ht1 := h3 e1
        refine pn_iinc (q := 158) (mm := -1) dX5_step_155 rfl rfl (by decide) (by decide) ?_; rw [nI_dn]
        refine pn_aload_n (q := 159) dX5_step_158 rfl rfl rfl ?_
        refine pn_get (q := 162) fX5_29 dX5_step_159 rfl rfl rfl ?_
        refine pn_iload (q := 164) dX5_step_162 rfl rfl ?_
        refine pn_iald (q := 165) dX5_step_164 rfl rfl rfl (by omega) (by first | decide | omega) ?_
        refine pn_istore (q := 167) dX5_step_165 rfl (by decide) ?_
        refine pn_iload (q := 169) dX5_step_167 rfl rfl ?_
        first | refine pn_zlt (q := 172) (tgt := 192) dX5_step_169 (by decide) rfl (by omega) (fun hc169 => ?_) (fun hc169 => ?_) | refine pn_if_lt (q := 172) (tgt := 192) dX5_step_169 (by decide) rfl (fun hc169 => ?_) (fun hc169 => ?_)
        · exact hc169.elim
        · refine pn_iload (q := 174) dX5_step_172 rfl rfl ?_
          refine pn_aload_n (q := 175) dX5_step_174 rfl rfl rfl ?_
          refine pn_get (q := 178) fX5_67 dX5_step_175 rfl rfl rfl ?_
          refine pn_alen (q := 179) dX5_step_178 rfl rfl (by decide) ?_
          first | refine pn_nge (q := 182) (tgt := 192) dX5_step_179 (by decide) rfl (by omega) (by omega) (fun hc179 => ?_) (fun hc179 => ?_) | refine pn_icmp_ge (q := 182) (tgt := 192) dX5_step_179 (by decide) rfl (fun hc179 => ?_) (fun hc179 => ?_)
          · refine pn_iload (q := 194) dX5_step_192 rfl rfl ?_
            refine pn_iconst (q := 195) (v := nI 1) dX5_step_194 rfl (by decide) ?_
            first | with_reducible refine pn_iaddN (q := 196) dX5_step_195 rfl ?_ | refine pn_iadd (q := 196) dX5_step_195 rfl ?_
            refine pn_istore (q := 198) dX5_step_196 rfl (by decide) ?_
            refine pn_goto (q := 202) dX5_step_198 (by decide) ?_
            first | refine pn_iinc1 (q := 205) dX5_step_202 rfl rfl (by decide) ?_ | refine pn_iinc (q := 205) (mm := 1) dX5_step_202 rfl rfl (by decide) (by decide) ?_
            refine pn_goto (q := 18) dX5_step_205 (by decide) ?_
            first | exact pn_take 8 (ih (t + 1) _ e1 (tk e1 + 1) tk ways steps wl way (by omega) (by omega) (by omega) h3 h4 h5 (by rw [if_pos (by omega)] at e9; exact e9)) | exact pn_take 8 (ih (t + 1) _ e1 (tk e1 + 1) tk ways steps wl way (by omega) (by omega) (by omega) h3 h4 h5 (by rw [if_neg (by omega), Int64.or_zero] at e9; exact e9))
          · refine pn_lload_n (q := 183) dX5_step_182 rfl rfl ?_
            refine pn_aload_n (q := 184) dX5_step_183 rfl rfl rfl ?_
            refine pn_get (q := 187) fX5_67 dX5_step_184 rfl rfl rfl ?_
            refine pn_iload (q := 189) dX5_step_187 rfl rfl ?_
            first | refine pn_lald5 (q := 190) dX5_step_189 rfl rfl rfl (by omega) (by first | decide | omega) ?_ | refine pn_lald1 (q := 190) dX5_step_189 rfl rfl rfl (by omega) (by first | decide | omega) ?_
            refine pn_lor (q := 191) dX5_step_190 rfl ?_
            refine pn_lstore_n (q := 192) dX5_step_191 rfl (by decide) ?_
            refine pn_iload (q := 194) dX5_step_192 rfl rfl ?_
            refine pn_iconst (q := 195) (v := nI 1) dX5_step_194 rfl (by decide) ?_
            first | with_reducible refine pn_iaddN (q := 196) dX5_step_195 rfl ?_ | refine pn_iadd (q := 196) dX5_step_195 rfl ?_
            refine pn_istore (q := 198) dX5_step_196 rfl (by decide) ?_
            refine pn_goto (q := 202) dX5_step_198 (by decide) ?_
            first | refine pn_iinc1 (q := 205) dX5_step_202 rfl rfl (by decide) ?_ | refine pn_iinc (q := 205) (mm := 1) dX5_step_202 rfl rfl (by decide) (by decide) ?_
            refine pn_goto (q := 18) dX5_step_205 (by decide) ?_
            first | exact pn_take 8 (ih (t + 1) _ e1 (tk e1 + 1) tk ways steps wl way (by omega) (by omega) (by omega) h3 h4 h5 (by rw [if_pos (by omega)] at e9; exact e9)) | exact pn_take 8 (ih (t + 1) _ e1 (tk e1 + 1) tk ways steps wl way (by omega) (by omega) (by omega) h3 h4 h5 (by rw [if_neg (by omega), Int64.or_zero] at e9; exact e9))
      cases hn : nrN f sN rest fr with
      | none =>
        have C9 := c_nextRow adK d c R f sN fd n sh k g pl ch rest fr hs hc hR h1
        rw [hn, show oI none = -1 from rfl] at C9
        rw [wkS_n hn] at e
        refine pn_iload (q := 20) dX5_step_18 rfl rfl ?_
        refine pn_ldc (q := 22) pw_495 dX5_step_20 rfl ?_; refine pn_eq (h' := _) (st' := .int (nI 60000) :: _) rfl rfl ?_
        first | refine pn_nge (q := 25) (tgt := 208) dX5_step_22 (by decide) rfl (by omega) (by omega) (fun hc22 => ?_) (fun hc22 => ?_) | refine pn_icmp_ge (q := 25) (tgt := 208) dX5_step_22 (by decide) rfl (fun hc22 => ?_) (fun hc22 => ?_)
        · omega
        · refine pn_aload_n (q := 26) dX5_step_25 rfl rfl rfl ?_
          refine pn_lload_n (q := 27) dX5_step_26 rfl rfl ?_
          refine pn_iload (q := 29) dX5_step_27 rfl rfl ?_
          refine pn_roS1 (q := 32) (C9) lkX5_63 dX5_step_29 rfl rfl (pnSel_of (I := [3, 4, 5, 6]) rfl rfl) (pnFree_b rfl rfl) rfl (by omega) (Nat.le_of_ble_eq_true rfl) rfl ?_
          refine pn_istore (q := 34) dX5_step_32 rfl (by decide) ?_
          refine pn_iload (q := 36) dX5_step_34 rfl rfl ?_
          refine pn_iconst (q := 37) (v := (-1)) dX5_step_36 rfl (by decide) ?_
          refine pn_icmp_eq (q := 40) (tgt := 56) dX5_step_37 (by decide) rfl (fun hc37 => ?_) (fun hc37 => ?_)
          · refine pn_iload (q := 58) dX5_step_56 rfl rfl ?_
            refine pn_iconst (q := 59) (v := (-1)) dX5_step_58 rfl (by decide) ?_
            refine pn_icmp_eq (q := 62) (tgt := 140) dX5_step_59 (by decide) rfl (fun hc59 => ?_) (fun hc59 => ?_)
            · refine pn_iload (q := 142) dX5_step_140 rfl rfl ?_
              first | refine pn_zle (q := 145) (tgt := 201) dX5_step_142 (by decide) rfl (by omega) (fun hc142 => ?_) (fun hc142 => ?_) | refine pn_if_le (q := 145) (tgt := 201) dX5_step_142 (by decide) rfl (fun hc142 => ?_) (fun hc142 => ?_)
              · refine pn_vret dX5_step_201 rfl ?_
                exact ⟨rfl, by rw [← e, if_neg (by omega)]; rfl⟩
              · refine pn_iload (q := 147) dX5_step_145 rfl rfl ?_
                refine pn_aload_n (q := 148) dX5_step_147 rfl rfl rfl ?_
                refine pn_get (q := 151) fX5_29 dX5_step_148 rfl rfl rfl ?_
                refine pn_alen (q := 152) dX5_step_151 rfl rfl (by decide) ?_
                first | refine pn_ngt (q := 155) (tgt := 201) dX5_step_152 (by decide) rfl (by omega) (by omega) (fun hc152 => ?_) (fun hc152 => ?_) | refine pn_icmp_gt (q := 155) (tgt := 201) dX5_step_152 (by decide) rfl (fun hc152 => ?_) (fun hc152 => ?_)
                · omega
                · exact pn_take 8 (back (dp - 1) (by omega) (by rw [if_pos (by omega)] at e; exact e))
            · exact (hc59 rfl).elim
          · exact (hc37 rfl).elim
      | some row =>
        have C9 := c_nextRow adK d c R f sN fd n sh k g pl ch rest fr hs hc hR h1
        rw [hn, show oI (some row) = nI row from rfl] at C9
        have hrow : row < R := by
          have := (nrN_lt hn).1
          have := hs (llN rest + 1)
          omega
        rw [wkS_o hn] at e
        have u3 : ∀ j, updN tk dp row j ≤ 60000 := fun j => by unfold updN; split; omega; exact h3 j
        refine pn_iload (q := 20) dX5_step_18 rfl rfl ?_
        refine pn_ldc (q := 22) pw_495 dX5_step_20 rfl ?_; refine pn_eq (h' := _) (st' := .int (nI 60000) :: _) rfl rfl ?_
        first | refine pn_nge (q := 25) (tgt := 208) dX5_step_22 (by decide) rfl (by omega) (by omega) (fun hc22 => ?_) (fun hc22 => ?_) | refine pn_icmp_ge (q := 25) (tgt := 208) dX5_step_22 (by decide) rfl (fun hc22 => ?_) (fun hc22 => ?_)
        · omega
        · refine pn_aload_n (q := 26) dX5_step_25 rfl rfl rfl ?_
          refine pn_lload_n (q := 27) dX5_step_26 rfl rfl ?_
          refine pn_iload (q := 29) dX5_step_27 rfl rfl ?_
          refine pn_roS1 (q := 32) (C9) lkX5_63 dX5_step_29 rfl rfl (pnSel_of (I := [3, 4, 5, 6]) rfl rfl) (pnFree_b rfl rfl) rfl (by omega) (Nat.le_of_ble_eq_true rfl) rfl ?_
          refine pn_istore (q := 34) dX5_step_32 rfl (by decide) ?_
          refine pn_iload (q := 36) dX5_step_34 rfl rfl ?_
          refine pn_iconst (q := 37) (v := (-1)) dX5_step_36 rfl (by decide) ?_
          refine pn_icmp_eq (q := 40) (tgt := 56) dX5_step_37 (by decide) rfl (fun hc37 => ?_) (fun hc37 => ?_)
          · exact (nI_m1 (by omega) hc37).elim
          · refine pn_aload_n (q := 41) dX5_step_40 rfl rfl rfl ?_
            refine pn_get (q := 44) fX5_15 dX5_step_41 rfl rfl rfl ?_
            refine pn_sipush (q := 47) (v := nI 20000) dX5_step_44 rfl (by decide) ?_
            first | refine pn_nne (q := 50) (tgt := 56) dX5_step_47 (by decide) rfl (by omega) (by omega) (fun hc47 => ?_) (fun hc47 => ?_) | refine pn_icmp_ne (q := 50) (tgt := 56) dX5_step_47 (by decide) rfl (fun hc47 => ?_) (fun hc47 => ?_)
            · refine pn_iload (q := 58) dX5_step_56 rfl rfl ?_
              refine pn_iconst (q := 59) (v := (-1)) dX5_step_58 rfl (by decide) ?_
              refine pn_icmp_eq (q := 62) (tgt := 140) dX5_step_59 (by decide) rfl (fun hc59 => ?_) (fun hc59 => ?_)
              · exact (nI_m1 (by omega) hc59).elim
              · refine pn_iload (q := 64) dX5_step_62 rfl rfl ?_
                refine pn_aload_n (q := 65) dX5_step_64 rfl rfl rfl ?_
                refine pn_get (q := 68) fX5_29 dX5_step_65 rfl rfl rfl ?_
                refine pn_alen (q := 69) dX5_step_68 rfl rfl (by decide) ?_
                first | refine pn_nge (q := 72) (tgt := 140) dX5_step_69 (by decide) rfl (by omega) (by omega) (fun hc69 => ?_) (fun hc69 => ?_) | refine pn_icmp_ge (q := 72) (tgt := 140) dX5_step_69 (by decide) rfl (fun hc69 => ?_) (fun hc69 => ?_)
                · refine pn_iload (q := 142) dX5_step_140 rfl rfl ?_
                  first | refine pn_zle (q := 145) (tgt := 201) dX5_step_142 (by decide) rfl (by omega) (fun hc142 => ?_) (fun hc142 => ?_) | refine pn_if_le (q := 145) (tgt := 201) dX5_step_142 (by decide) rfl (fun hc142 => ?_) (fun hc142 => ?_)
                  · omega
                  · refine pn_iload (q := 147) dX5_step_145 rfl rfl ?_
                    refine pn_aload_n (q := 148) dX5_step_147 rfl rfl rfl ?_
                    refine pn_get (q := 151) fX5_29 dX5_step_148 rfl rfl rfl ?_
                    refine pn_alen (q := 152) dX5_step_151 rfl rfl (by decide) ?_
                    first | refine pn_ngt (q := 155) (tgt := 201) dX5_step_152 (by decide) rfl (by omega) (by omega) (fun hc152 => ?_) (fun hc152 => ?_) | refine pn_icmp_gt (q := 155) (tgt := 201) dX5_step_152 (by decide) rfl (fun hc152 => ?_) (fun hc152 => ?_)
                    · omega
                    · exact pn_take 8 (back (dp - 1) (by omega) (by rw [if_neg (by omega), if_neg (by omega)] at e; exact e))
                · refine pn_aload_n (q := 73) dX5_step_72 rfl rfl rfl ?_
                  refine pn_dup (q := 74) dX5_step_73 rfl rfl ?_
                  refine pn_get (q := 77) fX5_15 dX5_step_74 rfl rfl rfl ?_
                  refine pn_iconst (q := 78) (v := nI 1) dX5_step_77 rfl (by decide) ?_
                  first | with_reducible refine pn_iaddN (q := 79) dX5_step_78 rfl ?_ | refine pn_iadd (q := 79) dX5_step_78 rfl ?_
                  refine pn_put (q := 82) fX5_15 dX5_step_79 rfl rfl (Nat.le_of_ble_eq_true rfl) (pnF_int _) ?_
                  refine pn_aload_n (q := 83) dX5_step_82 rfl rfl rfl ?_
                  refine pn_get (q := 86) fX5_29 dX5_step_83 rfl rfl rfl ?_
                  refine pn_iload (q := 88) dX5_step_86 rfl rfl ?_
                  refine pn_iload (q := 90) dX5_step_88 rfl rfl ?_
                  refine pn_iast (q := 91) dX5_step_90 rfl rfl rfl (by omega) (by decide) ?_; refine pn_eq (h' := hWalk ways (steps + 1) false wl way (updN tk dp row) whole left n1 sh1 k1 ++ (hCatO 3 c R f (fun j => nI (sN j)) fd n sh k g pl ch)) (st' := _) (by unfold hWalk; rw [← updN_nI]; rfl) rfl ?_; rw [if_neg (by omega), if_pos (by omega)] at e
                  first | refine pn_iinc1 (q := 94) dX5_step_91 rfl rfl (by decide) ?_ | refine pn_iinc (q := 94) (mm := 1) dX5_step_91 rfl rfl (by decide) (by decide) ?_
                  refine pn_lload_n (q := 95) dX5_step_94 rfl rfl ?_
                  refine pn_aload_n (q := 96) dX5_step_95 rfl rfl rfl ?_
                  refine pn_get (q := 99) fX5_67 dX5_step_96 rfl rfl rfl ?_
                  refine pn_iload (q := 101) dX5_step_99 rfl rfl ?_
                  first | refine pn_lald5 (q := 102) dX5_step_101 rfl rfl rfl (by omega) (by first | decide | omega) ?_ | refine pn_lald1 (q := 102) dX5_step_101 rfl rfl rfl (by omega) (by first | decide | omega) ?_
                  refine pn_ldc2 (q := 105) pw_500 dX5_step_102 rfl ?_
                  refine pn_lxor (q := 106) dX5_step_105 rfl ?_
                  refine pn_land (q := 107) dX5_step_106 rfl ?_
                  refine pn_lstore_n (q := 108) dX5_step_107 rfl (by decide) ?_
                  refine pn_aload_n (q := 109) dX5_step_108 rfl rfl rfl ?_
                  refine pn_lload_n (q := 110) dX5_step_109 rfl rfl ?_
                  refine pn_roS1 (q := 113) (c_firstRow adK d c R f sN fd n sh k g pl ch (rest &&& (f row ^^^ (-1))) hs hc hR) lkX5_58 dX5_step_110 rfl rfl (pnSel_of (I := [3, 4, 5, 6]) rfl rfl) (pnFree_b rfl rfl) rfl (by omega) (Nat.le_of_ble_eq_true rfl) rfl ?_
                  refine pn_istore (q := 115) dX5_step_113 rfl (by decide) ?_
                  refine pn_lload_n (q := 116) dX5_step_115 rfl rfl ?_
                  refine pn_lconst (q := 117) (v := 0) dX5_step_116 rfl (by decide) ?_
                  refine pn_lne (q1 := 118) (q := 121) (tgt := 128) dX5_step_117 rfl dX5_step_118 (by decide) rfl (fun hc117 => ?_) (fun hc117 => ?_)
                  · refine pn_iload_n (q := 129) dX5_step_128 rfl rfl ?_
                    refine pn_beq (q := 132) (tgt := 202) dX5_step_129 (by decide) rfl (fun hc129 => ?_) (fun hc129 => ?_)
                    · first | refine pn_iinc1 (q := 205) dX5_step_202 rfl rfl (by decide) ?_ | refine pn_iinc (q := 205) (mm := 1) dX5_step_202 rfl rfl (by decide) (by decide) ?_
                      refine pn_goto (q := 18) dX5_step_205 (by decide) ?_
                      first | (rw [if_pos hc117, if_neg (by rw [hc129]; exact Bool.false_ne_true)] at e; exact pn_take 8 (ih (t + 1) _ (dp + 1) _ _ (ways + 1) (steps + 1) _ _ (by omega) (by have := hfr (rest &&& (f row ^^^ (-1))); omega) (by omega) u3 (by omega) (by omega) e)) | (rw [if_neg hc117, if_neg (fun q => Bool.false_ne_true (Eq.trans (Eq.symm hc129) q.1))] at e; exact pn_take 8 (ih (t + 1) _ (dp + 1) _ _ ways (steps + 1) _ _ (by omega) (by have := hfr (rest &&& (f row ^^^ (-1))); omega) (by omega) u3 (by omega) (by omega) e)) | (rw [if_neg hc117, if_neg (fun q => absurd q.2 (by omega))] at e; exact pn_take 8 (ih (t + 1) _ (dp + 1) _ _ ways (steps + 1) _ _ (by omega) (by have := hfr (rest &&& (f row ^^^ (-1))); omega) (by omega) u3 (by omega) (by omega) e)) | omega
                    · refine pn_aload_n (q := 133) dX5_step_132 rfl rfl rfl ?_
                      refine pn_get (q := 136) fX5_9 dX5_step_133 rfl rfl rfl ?_
                      first | refine pn_zle (q := 139) (tgt := 202) dX5_step_136 (by decide) rfl (by omega) (fun hc136 => ?_) (fun hc136 => ?_) | refine pn_if_le (q := 139) (tgt := 202) dX5_step_136 (by decide) rfl (fun hc136 => ?_) (fun hc136 => ?_)
                      · first | refine pn_iinc1 (q := 205) dX5_step_202 rfl rfl (by decide) ?_ | refine pn_iinc (q := 205) (mm := 1) dX5_step_202 rfl rfl (by decide) (by decide) ?_
                        refine pn_goto (q := 18) dX5_step_205 (by decide) ?_
                        first | (rw [if_pos hc117, if_neg (by rw [hc129]; exact Bool.false_ne_true)] at e; exact pn_take 8 (ih (t + 1) _ (dp + 1) _ _ (ways + 1) (steps + 1) _ _ (by omega) (by have := hfr (rest &&& (f row ^^^ (-1))); omega) (by omega) u3 (by omega) (by omega) e)) | (rw [if_neg hc117, if_neg (fun q => Bool.false_ne_true (Eq.trans (Eq.symm hc129) q.1))] at e; exact pn_take 8 (ih (t + 1) _ (dp + 1) _ _ ways (steps + 1) _ _ (by omega) (by have := hfr (rest &&& (f row ^^^ (-1))); omega) (by omega) u3 (by omega) (by omega) e)) | (rw [if_neg hc117, if_neg (fun q => absurd q.2 (by omega))] at e; exact pn_take 8 (ih (t + 1) _ (dp + 1) _ _ ways (steps + 1) _ _ (by omega) (by have := hfr (rest &&& (f row ^^^ (-1))); omega) (by omega) u3 (by omega) (by omega) e)) | omega
                      · refine pn_vret dX5_step_139 rfl ?_
                        first | (rw [if_pos hc117, if_pos hc129] at e; exact ⟨rfl, by rw [← e]; rfl⟩) | (rw [if_neg hc117, if_pos ⟨hc129, by omega⟩] at e; exact ⟨rfl, by rw [← e]; rfl⟩)
                  · refine pn_aload_n (q := 122) dX5_step_121 rfl rfl rfl ?_
                    refine pn_aload_n (q := 123) dX5_step_122 rfl rfl rfl ?_
                    refine pn_iload (q := 125) dX5_step_123 rfl rfl ?_
                    refine pn_upV0 (q := 128) (bc9 := 0) (bs9 := 0) (c_arrive adK d c R f sN fd n sh k g pl ch ways (steps + 1) false wl way (updN tk dp row) whole left n1 sh1 k1 (dp + 1) hR (by omega) (by omega) u3) lkX5_72 dX5_step_125 rfl rfl (pnSel_of (I := [0, 1, 2, 3, 4, 5, 6]) rfl rfl) (pnFree_b rfl rfl) rfl rfl rfl (by omega) (by omega) (by omega) (Nat.le_of_ble_eq_true rfl) ?_
                    refine pn_eq (h' := (hWalk (ways + 1) (steps + 1) false (if ways = 0 then dp + 1 else wl) (if ways = 0 then waF f R (updN tk dp row) way (dp + 1) else way) (updN tk dp row) whole left n1 sh1 k1 ++ (hCatO 3 c R f (fun j => nI (sN j)) fd n sh k g pl ch))) (st' := _) rfl rfl ?_
                    refine pn_iload_n (q := 129) dX5_step_128 rfl rfl ?_
                    refine pn_beq (q := 132) (tgt := 202) dX5_step_129 (by decide) rfl (fun hc129 => ?_) (fun hc129 => ?_)
                    · first | refine pn_iinc1 (q := 205) dX5_step_202 rfl rfl (by decide) ?_ | refine pn_iinc (q := 205) (mm := 1) dX5_step_202 rfl rfl (by decide) (by decide) ?_
                      refine pn_goto (q := 18) dX5_step_205 (by decide) ?_
                      first | (rw [if_pos hc117, if_neg (by rw [hc129]; exact Bool.false_ne_true)] at e; exact pn_take 8 (ih (t + 1) _ (dp + 1) _ _ (ways + 1) (steps + 1) _ _ (by omega) (by have := hfr (rest &&& (f row ^^^ (-1))); omega) (by omega) u3 (by omega) (by omega) e)) | (rw [if_neg hc117, if_neg (fun q => Bool.false_ne_true (Eq.trans (Eq.symm hc129) q.1))] at e; exact pn_take 8 (ih (t + 1) _ (dp + 1) _ _ ways (steps + 1) _ _ (by omega) (by have := hfr (rest &&& (f row ^^^ (-1))); omega) (by omega) u3 (by omega) (by omega) e)) | (rw [if_neg hc117, if_neg (fun q => absurd q.2 (by omega))] at e; exact pn_take 8 (ih (t + 1) _ (dp + 1) _ _ ways (steps + 1) _ _ (by omega) (by have := hfr (rest &&& (f row ^^^ (-1))); omega) (by omega) u3 (by omega) (by omega) e)) | omega
                    · refine pn_aload_n (q := 133) dX5_step_132 rfl rfl rfl ?_
                      refine pn_get (q := 136) fX5_9 dX5_step_133 rfl rfl rfl ?_
                      first | refine pn_zle (q := 139) (tgt := 202) dX5_step_136 (by decide) rfl (by omega) (fun hc136 => ?_) (fun hc136 => ?_) | refine pn_if_le (q := 139) (tgt := 202) dX5_step_136 (by decide) rfl (fun hc136 => ?_) (fun hc136 => ?_)
                      · first | refine pn_iinc1 (q := 205) dX5_step_202 rfl rfl (by decide) ?_ | refine pn_iinc (q := 205) (mm := 1) dX5_step_202 rfl rfl (by decide) (by decide) ?_
                        refine pn_goto (q := 18) dX5_step_205 (by decide) ?_
                        first | (rw [if_pos hc117, if_neg (by rw [hc129]; exact Bool.false_ne_true)] at e; exact pn_take 8 (ih (t + 1) _ (dp + 1) _ _ (ways + 1) (steps + 1) _ _ (by omega) (by have := hfr (rest &&& (f row ^^^ (-1))); omega) (by omega) u3 (by omega) (by omega) e)) | (rw [if_neg hc117, if_neg (fun q => Bool.false_ne_true (Eq.trans (Eq.symm hc129) q.1))] at e; exact pn_take 8 (ih (t + 1) _ (dp + 1) _ _ ways (steps + 1) _ _ (by omega) (by have := hfr (rest &&& (f row ^^^ (-1))); omega) (by omega) u3 (by omega) (by omega) e)) | (rw [if_neg hc117, if_neg (fun q => absurd q.2 (by omega))] at e; exact pn_take 8 (ih (t + 1) _ (dp + 1) _ _ ways (steps + 1) _ _ (by omega) (by have := hfr (rest &&& (f row ^^^ (-1))); omega) (by omega) u3 (by omega) (by omega) e)) | omega
                      · refine pn_vret dX5_step_139 rfl ?_
                        first | (rw [if_pos hc117, if_pos hc129] at e; exact ⟨rfl, by rw [← e]; rfl⟩) | (rw [if_neg hc117, if_pos ⟨hc129, by omega⟩] at e; exact ⟨rfl, by rw [← e]; rfl⟩)
            · refine pn_aload_n (q := 51) dX5_step_50 rfl rfl rfl ?_
              refine pn_iconst (q := 52) (v := nI 1) dX5_step_51 rfl (by decide) ?_
              refine pn_put (q := 55) fX5_18 dX5_step_52 rfl rfl (Nat.le_of_ble_eq_true rfl) (pnF_bool (by first | exact Or.inl rfl | exact Or.inr rfl | assumption)) ?_
              refine pn_vret dX5_step_55 rfl ?_
              exact ⟨rfl, by rw [← e, if_pos (by omega)]; rfl⟩
  refine pn_aload_n (q := 1) dX5_step_0 rfl rfl rfl ?_
  refine pn_get (q := 4) fX5_36 dX5_step_1 rfl rfl rfl ?_
  refine pn_lstore_n (q := 5) dX5_step_4 rfl (by decide) ?_
  refine pn_iconst (q := 6) (v := nI 0) dX5_step_5 rfl (by decide) ?_
  refine pn_istore (q := 8) dX5_step_6 rfl (by decide) ?_
  refine pn_aload_n (q := 9) dX5_step_8 rfl rfl rfl ?_
  refine pn_lload_n (q := 10) dX5_step_9 rfl rfl ?_
  refine pn_roS1 (q := 13) (c_firstRow adK d c R f sN fd n sh k g pl ch left hs hc hR) lkX5_58 dX5_step_10 rfl rfl (pnSel_of (I := [3, 4, 5, 6]) rfl rfl) (pnFree_b rfl rfl) rfl (by omega) (Nat.le_of_ble_eq_true rfl) rfl ?_
  refine pn_istore (q := 15) dX5_step_13 rfl (by decide) ?_
  refine pn_iconst (q := 16) (v := nI 0) dX5_step_15 rfl (by decide) ?_
  refine pn_istore (q := 18) dX5_step_16 rfl (by decide) ?_
  exact loop 60000 0 left 0 _ tk0 0 0 wl0 way0 (by omega) (by have := hfr left; omega) (by omega) htk0 (by omega) (by omega) hRES.symm
