def goR (f : Nat → Int64) (R : Nat) (sN : Nat → Nat) (c : Nat) (once : Bool) (x : Int64) (way : Nat → Int64) (tk : Nat → Nat) : Nat × Nat × Bool × Nat × (Nat → Int64) × (Nat → Nat) := if x = 0 then (1, 0, false, 0, way, tk) else wkS f R sN c once 60000 x 0 (frN sN c x) tk 0 0 0 way
set_option maxRecDepth 100000 in
theorem c_goSame (adK : Nat → Nat) (d : Nat) (c R : Nat) (f : Nat → Int64) (sN : Nat → Nat) (fd : Int64) (n sh k : Nat) (g : Int64) (pl : Nat) (ch : Nat → Int32) (ways steps : Nat) (cut : Bool) (wl : Nat) (way : Nat → Int64) (tk : Nat → Nat) (whole : Bool) (left : Int64) (n1 sh1 k1 : Nat) (x : Int64) (once : Bool) (hh : whole = true ∧ x = left ∧ n = n1 ∧ sh = sh1 ∧ k = k1) : pnCt mX5_go adK d 0 0 [.ref 0, .ref 3, .long x, .int (nB once)] ((hWalk ways steps cut wl way tk whole left n1 sh1 k1) ++ (hCatO 3 c R f (fun j => nI (sN j)) fd n sh k g pl ch)) (pnIs (.inl none) ((hWalk ways steps cut wl way tk whole left n1 sh1 k1) ++ (hCatO 3 c R f (fun j => nI (sN j)) fd n sh k g pl ch))) := by
  obtain ⟨h1, h2, h3, h4, h5⟩ := hh
  subst h1; subst h2; subst h3; subst h4; subst h5
  refine pnCt_of (by decide) kX5_go (Nat.le_of_ble_eq_true rfl) rfl (pnCH_b rfl) (pnCS_b rfl) ?_
  refine pn_lload_n (q := 1) dX5_go_0 rfl rfl ?_
  refine pn_aload_n (q := 2) dX5_go_1 rfl rfl rfl ?_
  refine pn_get (q := 5) fX5_36 dX5_go_2 rfl rfl rfl ?_
  refine pn_lne (q1 := 6) (q := 9) (tgt := 46) dX5_go_5 rfl dX5_go_6 (by decide) rfl (fun hc5 => ?_) (fun hc5 => ?_)
  · exact (hc5 rfl).elim
  · refine pn_aload_n (q := 10) dX5_go_9 rfl rfl rfl ?_
    refine pn_get (q := 13) fX5_49 dX5_go_10 rfl rfl rfl ?_
    refine pn_aload_n (q := 14) dX5_go_13 rfl rfl rfl ?_
    refine pn_get (q := 17) fX5_40 dX5_go_14 rfl rfl rfl ?_
    refine pn_icmp_ne (q := 20) (tgt := 46) dX5_go_17 (by decide) rfl (fun hc17 => ?_) (fun hc17 => ?_)
    · exact (hc17 rfl).elim
    · refine pn_aload_n (q := 21) dX5_go_20 rfl rfl rfl ?_
      refine pn_get (q := 24) fX5_52 dX5_go_21 rfl rfl rfl ?_
      refine pn_aload_n (q := 25) dX5_go_24 rfl rfl rfl ?_
      refine pn_get (q := 28) fX5_43 dX5_go_25 rfl rfl rfl ?_
      refine pn_icmp_ne (q := 31) (tgt := 46) dX5_go_28 (by decide) rfl (fun hc28 => ?_) (fun hc28 => ?_)
      · exact (hc28 rfl).elim
      · refine pn_aload_n (q := 32) dX5_go_31 rfl rfl rfl ?_
        refine pn_get (q := 35) fX5_53 dX5_go_32 rfl rfl rfl ?_
        refine pn_aload_n (q := 36) dX5_go_35 rfl rfl rfl ?_
        refine pn_get (q := 39) fX5_46 dX5_go_36 rfl rfl rfl ?_
        refine pn_icmp_ne (q := 42) (tgt := 46) dX5_go_39 (by decide) rfl (fun hc39 => ?_) (fun hc39 => ?_)
        · exact (hc39 rfl).elim
        · refine pn_iconst (q := 43) (v := nI 1) dX5_go_42 rfl (by decide) ?_
          refine pn_goto (q := 47) dX5_go_43 (by decide) ?_
          refine pn_istore (q := 49) dX5_go_47 rfl (by decide) ?_
          refine pn_aload_n (q := 50) dX5_go_49 rfl rfl rfl ?_
          refine pn_get (q := 53) fX5_33 dX5_go_50 rfl rfl rfl ?_
          refine pn_beq (q := 56) (tgt := 62) dX5_go_53 (by decide) rfl (fun hc53 => ?_) (fun hc53 => ?_)
          · cases hc53
          · refine pn_iload (q := 58) dX5_go_56 rfl rfl ?_
            first | refine pn_zeq (q := 61) (tgt := 62) dX5_go_58 (by decide) rfl (by omega) (fun hc58 => ?_) (fun hc58 => ?_) | refine pn_if_eq (q := 61) (tgt := 62) dX5_go_58 (by decide) rfl (fun hc58 => ?_) (fun hc58 => ?_)
            · omega
            · refine pn_vret dX5_go_61 rfl ?_
              exact ⟨rfl, rfl⟩
set_option maxRecDepth 100000 in
theorem c_goNew (adK : Nat → Nat) (d : Nat) (c R : Nat) (f : Nat → Int64) (sN : Nat → Nat) (fd : Int64) (n sh k : Nat) (g : Int64) (pl : Nat) (ch : Nat → Int32) (ways steps : Nat) (cut : Bool) (wl : Nat) (way : Nat → Int64) (tk : Nat → Nat) (whole : Bool) (left : Int64) (n1 sh1 k1 : Nat) (x : Int64) (once : Bool) (hs : ∀ j, sN j ≤ c) (hc : c ≤ R) (hR : R ≤ 60000) (htk : ∀ j, tk j ≤ 60000) (hb : n ≤ 11 ∧ sh ≤ 3 ∧ k ≤ 5 ∧ n1 ≤ 11 ∧ sh1 ≤ 3 ∧ k1 ≤ 5) (hh : ¬ (whole = true ∧ x = left ∧ n = n1 ∧ sh = sh1 ∧ k = k1)) : pnCt mX5_go adK (d + 4) 0 0 [.ref 0, .ref 3, .long x, .int (nB once)] ((hWalk ways steps cut wl way tk whole left n1 sh1 k1) ++ (hCatO 3 c R f (fun j => nI (sN j)) fd n sh k g pl ch)) (pnIs (.inl none) (hWR (goR f R sN c once x way tk) (!once) x n sh k ++ (hCatO 3 c R f (fun j => nI (sN j)) fd n sh k g pl ch))) := by
  refine pnCt_of (by decide) kX5_go (Nat.le_of_ble_eq_true rfl) rfl (pnCH_b rfl) (pnCS_b rfl) ?_
  have k62 : pnWP mX5_go adK (d + 4) (pnIs (.inl none) (hWR (goR f R sN c once x way tk) (!once) x n sh k ++ (hCatO 3 c R f (fun j => nI (sN j)) fd n sh k g pl ch))) 0 0 ((hWalk ways steps cut wl way tk whole left n1 sh1 k1) ++ (hCatO 3 c R f (fun j => nI (sN j)) fd n sh k g pl ch)) [some (.ref 0), some (.ref 3), some (.long x), none, some (.int (nB once))] [] 62 := by
    cases once with
    | true =>
      refine pn_aload_n (q := 63) dX5_go_62 rfl rfl rfl ?_
      refine pn_aload_n (q := 64) dX5_go_63 rfl rfl rfl ?_
      refine pn_get (q := 67) fX5_49 dX5_go_64 rfl rfl rfl ?_
      refine pn_put (q := 70) fX5_40 dX5_go_67 rfl rfl (Nat.le_of_ble_eq_true rfl) (pnF_int _) ?_
      refine pn_aload_n (q := 71) dX5_go_70 rfl rfl rfl ?_
      refine pn_aload_n (q := 72) dX5_go_71 rfl rfl rfl ?_
      refine pn_get (q := 75) fX5_52 dX5_go_72 rfl rfl rfl ?_
      refine pn_put (q := 78) fX5_43 dX5_go_75 rfl rfl (Nat.le_of_ble_eq_true rfl) (pnF_int _) ?_
      refine pn_aload_n (q := 79) dX5_go_78 rfl rfl rfl ?_
      refine pn_aload_n (q := 80) dX5_go_79 rfl rfl rfl ?_
      refine pn_get (q := 83) fX5_53 dX5_go_80 rfl rfl rfl ?_
      refine pn_put (q := 86) fX5_46 dX5_go_83 rfl rfl (Nat.le_of_ble_eq_true rfl) (pnF_int _) ?_
      refine pn_aload_n (q := 87) dX5_go_86 rfl rfl rfl ?_
      refine pn_lload_n (q := 88) dX5_go_87 rfl rfl ?_
      refine pn_put (q := 91) fX5_36 dX5_go_88 rfl rfl (Nat.le_of_ble_eq_true rfl) (pnF_long _) ?_
      refine pn_aload_n (q := 92) dX5_go_91 rfl rfl rfl ?_
      refine pn_iload (q := 94) dX5_go_92 rfl rfl ?_
      refine pn_bne (q := 97) (tgt := 101) dX5_go_94 (by decide) rfl (fun hc94 => ?_) (fun hc94 => ?_)
      · refine pn_iconst (q := 102) (v := nI 0) dX5_go_101 rfl (by decide) ?_
        refine pn_put (q := 105) fX5_33 dX5_go_102 rfl rfl (Nat.le_of_ble_eq_true rfl) (pnF_bool (by first | exact Or.inl rfl | exact Or.inr rfl | assumption)) ?_
        refine pn_aload_n (q := 106) dX5_go_105 rfl rfl rfl ?_
        refine pn_iconst (q := 107) (v := nI 0) dX5_go_106 rfl (by decide) ?_
        refine pn_put (q := 110) fX5_9 dX5_go_107 rfl rfl (Nat.le_of_ble_eq_true rfl) (pnF_int _) ?_
        refine pn_aload_n (q := 111) dX5_go_110 rfl rfl rfl ?_
        refine pn_iconst (q := 112) (v := nI 0) dX5_go_111 rfl (by decide) ?_
        refine pn_put (q := 115) fX5_15 dX5_go_112 rfl rfl (Nat.le_of_ble_eq_true rfl) (pnF_int _) ?_
        refine pn_aload_n (q := 116) dX5_go_115 rfl rfl rfl ?_
        refine pn_iconst (q := 117) (v := nI 0) dX5_go_116 rfl (by decide) ?_
        refine pn_put (q := 120) fX5_18 dX5_go_117 rfl rfl (Nat.le_of_ble_eq_true rfl) (pnF_bool (by first | exact Or.inl rfl | exact Or.inr rfl | assumption)) ?_
        refine pn_aload_n (q := 121) dX5_go_120 rfl rfl rfl ?_
        refine pn_iconst (q := 122) (v := nI 0) dX5_go_121 rfl (by decide) ?_
        refine pn_put (q := 125) fX5_22 dX5_go_122 rfl rfl (Nat.le_of_ble_eq_true rfl) (pnF_int _) ?_
        refine pn_lload_n (q := 126) dX5_go_125 rfl rfl ?_
        refine pn_lconst (q := 127) (v := 0) dX5_go_126 rfl (by decide) ?_
        refine pn_lne (q1 := 128) (q := 131) (tgt := 139) dX5_go_127 rfl dX5_go_128 (by decide) rfl (fun hc127 => ?_) (fun hc127 => ?_)
        · refine pn_aload_n (q := 140) dX5_go_139 rfl rfl rfl ?_
          refine pn_aload_n (q := 141) dX5_go_140 rfl rfl rfl ?_
          refine pn_iload (q := 143) dX5_go_141 rfl rfl ?_
          refine pn_upV0 (q := 146) (bc9 := 0) (bs9 := 0) (c_step adK d c R f sN fd n sh k g pl ch 0 way tk false x n sh k true hs hc hR htk (by omega)) lkX5_54 dX5_go_143 rfl rfl (pnSel_of (I := [0, 1, 2, 3, 4, 5, 6]) rfl rfl) (pnFree_b rfl rfl) rfl rfl rfl (by omega) (by omega) (by omega) (Nat.le_of_ble_eq_true rfl) ?_
          refine pn_eq (h' := (hWR (wkS f R sN c true 60000 x 0 (frN sN c x) tk 0 0 0 way) false x n sh k ++ (hCatO 3 c R f (fun j => nI (sN j)) fd n sh k g pl ch))) (st' := _) rfl rfl ?_
          refine pn_vret dX5_go_146 rfl ?_
          first | exact ⟨rfl, by rw [show goR f R sN c true x way tk = _ from if_pos hc127]; rfl⟩ | exact ⟨rfl, by rw [show goR f R sN c true x way tk = _ from if_neg hc127]; rfl⟩
        · refine pn_aload_n (q := 132) dX5_go_131 rfl rfl rfl ?_
          refine pn_iconst (q := 133) (v := nI 1) dX5_go_132 rfl (by decide) ?_
          refine pn_put (q := 136) fX5_9 dX5_go_133 rfl rfl (Nat.le_of_ble_eq_true rfl) (pnF_int _) ?_
          refine pn_goto (q := 146) dX5_go_136 (by decide) ?_
          refine pn_vret dX5_go_146 rfl ?_
          first | exact ⟨rfl, by rw [show goR f R sN c true x way tk = _ from if_pos hc127]; rfl⟩ | exact ⟨rfl, by rw [show goR f R sN c true x way tk = _ from if_neg hc127]; rfl⟩
      · cases hc94
    | false =>
      refine pn_aload_n (q := 63) dX5_go_62 rfl rfl rfl ?_
      refine pn_aload_n (q := 64) dX5_go_63 rfl rfl rfl ?_
      refine pn_get (q := 67) fX5_49 dX5_go_64 rfl rfl rfl ?_
      refine pn_put (q := 70) fX5_40 dX5_go_67 rfl rfl (Nat.le_of_ble_eq_true rfl) (pnF_int _) ?_
      refine pn_aload_n (q := 71) dX5_go_70 rfl rfl rfl ?_
      refine pn_aload_n (q := 72) dX5_go_71 rfl rfl rfl ?_
      refine pn_get (q := 75) fX5_52 dX5_go_72 rfl rfl rfl ?_
      refine pn_put (q := 78) fX5_43 dX5_go_75 rfl rfl (Nat.le_of_ble_eq_true rfl) (pnF_int _) ?_
      refine pn_aload_n (q := 79) dX5_go_78 rfl rfl rfl ?_
      refine pn_aload_n (q := 80) dX5_go_79 rfl rfl rfl ?_
      refine pn_get (q := 83) fX5_53 dX5_go_80 rfl rfl rfl ?_
      refine pn_put (q := 86) fX5_46 dX5_go_83 rfl rfl (Nat.le_of_ble_eq_true rfl) (pnF_int _) ?_
      refine pn_aload_n (q := 87) dX5_go_86 rfl rfl rfl ?_
      refine pn_lload_n (q := 88) dX5_go_87 rfl rfl ?_
      refine pn_put (q := 91) fX5_36 dX5_go_88 rfl rfl (Nat.le_of_ble_eq_true rfl) (pnF_long _) ?_
      refine pn_aload_n (q := 92) dX5_go_91 rfl rfl rfl ?_
      refine pn_iload (q := 94) dX5_go_92 rfl rfl ?_
      refine pn_bne (q := 97) (tgt := 101) dX5_go_94 (by decide) rfl (fun hc94 => ?_) (fun hc94 => ?_)
      · cases hc94
      · refine pn_iconst (q := 98) (v := nI 1) dX5_go_97 rfl (by decide) ?_
        refine pn_goto (q := 102) dX5_go_98 (by decide) ?_
        refine pn_put (q := 105) fX5_33 dX5_go_102 rfl rfl (Nat.le_of_ble_eq_true rfl) (pnF_bool (by first | exact Or.inl rfl | exact Or.inr rfl | assumption)) ?_
        refine pn_aload_n (q := 106) dX5_go_105 rfl rfl rfl ?_
        refine pn_iconst (q := 107) (v := nI 0) dX5_go_106 rfl (by decide) ?_
        refine pn_put (q := 110) fX5_9 dX5_go_107 rfl rfl (Nat.le_of_ble_eq_true rfl) (pnF_int _) ?_
        refine pn_aload_n (q := 111) dX5_go_110 rfl rfl rfl ?_
        refine pn_iconst (q := 112) (v := nI 0) dX5_go_111 rfl (by decide) ?_
        refine pn_put (q := 115) fX5_15 dX5_go_112 rfl rfl (Nat.le_of_ble_eq_true rfl) (pnF_int _) ?_
        refine pn_aload_n (q := 116) dX5_go_115 rfl rfl rfl ?_
        refine pn_iconst (q := 117) (v := nI 0) dX5_go_116 rfl (by decide) ?_
        refine pn_put (q := 120) fX5_18 dX5_go_117 rfl rfl (Nat.le_of_ble_eq_true rfl) (pnF_bool (by first | exact Or.inl rfl | exact Or.inr rfl | assumption)) ?_
        refine pn_aload_n (q := 121) dX5_go_120 rfl rfl rfl ?_
        refine pn_iconst (q := 122) (v := nI 0) dX5_go_121 rfl (by decide) ?_
        refine pn_put (q := 125) fX5_22 dX5_go_122 rfl rfl (Nat.le_of_ble_eq_true rfl) (pnF_int _) ?_
        refine pn_lload_n (q := 126) dX5_go_125 rfl rfl ?_
        refine pn_lconst (q := 127) (v := 0) dX5_go_126 rfl (by decide) ?_
        refine pn_lne (q1 := 128) (q := 131) (tgt := 139) dX5_go_127 rfl dX5_go_128 (by decide) rfl (fun hc127 => ?_) (fun hc127 => ?_)
        · refine pn_aload_n (q := 140) dX5_go_139 rfl rfl rfl ?_
          refine pn_aload_n (q := 141) dX5_go_140 rfl rfl rfl ?_
          refine pn_iload (q := 143) dX5_go_141 rfl rfl ?_
          refine pn_upV0 (q := 146) (bc9 := 0) (bs9 := 0) (c_step adK d c R f sN fd n sh k g pl ch 0 way tk true x n sh k false hs hc hR htk (by omega)) lkX5_54 dX5_go_143 rfl rfl (pnSel_of (I := [0, 1, 2, 3, 4, 5, 6]) rfl rfl) (pnFree_b rfl rfl) rfl rfl rfl (by omega) (by omega) (by omega) (Nat.le_of_ble_eq_true rfl) ?_
          refine pn_eq (h' := (hWR (wkS f R sN c false 60000 x 0 (frN sN c x) tk 0 0 0 way) true x n sh k ++ (hCatO 3 c R f (fun j => nI (sN j)) fd n sh k g pl ch))) (st' := _) rfl rfl ?_
          refine pn_vret dX5_go_146 rfl ?_
          first | exact ⟨rfl, by rw [show goR f R sN c false x way tk = _ from if_pos hc127]; rfl⟩ | exact ⟨rfl, by rw [show goR f R sN c false x way tk = _ from if_neg hc127]; rfl⟩
        · refine pn_aload_n (q := 132) dX5_go_131 rfl rfl rfl ?_
          refine pn_iconst (q := 133) (v := nI 1) dX5_go_132 rfl (by decide) ?_
          refine pn_put (q := 136) fX5_9 dX5_go_133 rfl rfl (Nat.le_of_ble_eq_true rfl) (pnF_int _) ?_
          refine pn_goto (q := 146) dX5_go_136 (by decide) ?_
          refine pn_vret dX5_go_146 rfl ?_
          first | exact ⟨rfl, by rw [show goR f R sN c false x way tk = _ from if_pos hc127]; rfl⟩ | exact ⟨rfl, by rw [show goR f R sN c false x way tk = _ from if_neg hc127]; rfl⟩
  refine pn_lload_n (q := 1) dX5_go_0 rfl rfl ?_
  refine pn_aload_n (q := 2) dX5_go_1 rfl rfl rfl ?_
  refine pn_get (q := 5) fX5_36 dX5_go_2 rfl rfl rfl ?_
  refine pn_lne (q1 := 6) (q := 9) (tgt := 46) dX5_go_5 rfl dX5_go_6 (by decide) rfl (fun hc5 => ?_) (fun hc5 => ?_)
  · refine pn_iconst (q := 47) (v := nI 0) dX5_go_46 rfl (by decide) ?_
    refine pn_istore (q := 49) dX5_go_47 rfl (by decide) ?_
    refine pn_aload_n (q := 50) dX5_go_49 rfl rfl rfl ?_
    refine pn_get (q := 53) fX5_33 dX5_go_50 rfl rfl rfl ?_
    refine pn_beq (q := 56) (tgt := 62) dX5_go_53 (by decide) rfl (fun hc53 => ?_) (fun hc53 => ?_)
    · exact pn_take 5 k62
    · refine pn_iload (q := 58) dX5_go_56 rfl rfl ?_
      first | refine pn_zeq (q := 61) (tgt := 62) dX5_go_58 (by decide) rfl (by omega) (fun hc58 => ?_) (fun hc58 => ?_) | refine pn_if_eq (q := 61) (tgt := 62) dX5_go_58 (by decide) rfl (fun hc58 => ?_) (fun hc58 => ?_)
      · exact pn_take 5 k62
      · first | exact (hh ⟨hc53, hc5, by omega, by omega, by omega⟩).elim | omega
  · refine pn_aload_n (q := 10) dX5_go_9 rfl rfl rfl ?_
    refine pn_get (q := 13) fX5_49 dX5_go_10 rfl rfl rfl ?_
    refine pn_aload_n (q := 14) dX5_go_13 rfl rfl rfl ?_
    refine pn_get (q := 17) fX5_40 dX5_go_14 rfl rfl rfl ?_
    first | refine pn_nne (q := 20) (tgt := 46) dX5_go_17 (by decide) rfl (by omega) (by omega) (fun hc17 => ?_) (fun hc17 => ?_) | refine pn_icmp_ne (q := 20) (tgt := 46) dX5_go_17 (by decide) rfl (fun hc17 => ?_) (fun hc17 => ?_)
    · refine pn_iconst (q := 47) (v := nI 0) dX5_go_46 rfl (by decide) ?_
      refine pn_istore (q := 49) dX5_go_47 rfl (by decide) ?_
      refine pn_aload_n (q := 50) dX5_go_49 rfl rfl rfl ?_
      refine pn_get (q := 53) fX5_33 dX5_go_50 rfl rfl rfl ?_
      refine pn_beq (q := 56) (tgt := 62) dX5_go_53 (by decide) rfl (fun hc53 => ?_) (fun hc53 => ?_)
      · exact pn_take 5 k62
      · refine pn_iload (q := 58) dX5_go_56 rfl rfl ?_
        first | refine pn_zeq (q := 61) (tgt := 62) dX5_go_58 (by decide) rfl (by omega) (fun hc58 => ?_) (fun hc58 => ?_) | refine pn_if_eq (q := 61) (tgt := 62) dX5_go_58 (by decide) rfl (fun hc58 => ?_) (fun hc58 => ?_)
        · exact pn_take 5 k62
        · first | exact (hh ⟨hc53, hc5, by omega, by omega, by omega⟩).elim | omega
    · refine pn_aload_n (q := 21) dX5_go_20 rfl rfl rfl ?_
      refine pn_get (q := 24) fX5_52 dX5_go_21 rfl rfl rfl ?_
      refine pn_aload_n (q := 25) dX5_go_24 rfl rfl rfl ?_
      refine pn_get (q := 28) fX5_43 dX5_go_25 rfl rfl rfl ?_
      first | refine pn_nne (q := 31) (tgt := 46) dX5_go_28 (by decide) rfl (by omega) (by omega) (fun hc28 => ?_) (fun hc28 => ?_) | refine pn_icmp_ne (q := 31) (tgt := 46) dX5_go_28 (by decide) rfl (fun hc28 => ?_) (fun hc28 => ?_)
      · refine pn_iconst (q := 47) (v := nI 0) dX5_go_46 rfl (by decide) ?_
        refine pn_istore (q := 49) dX5_go_47 rfl (by decide) ?_
        refine pn_aload_n (q := 50) dX5_go_49 rfl rfl rfl ?_
        refine pn_get (q := 53) fX5_33 dX5_go_50 rfl rfl rfl ?_
        refine pn_beq (q := 56) (tgt := 62) dX5_go_53 (by decide) rfl (fun hc53 => ?_) (fun hc53 => ?_)
        · exact pn_take 5 k62
        · refine pn_iload (q := 58) dX5_go_56 rfl rfl ?_
          first | refine pn_zeq (q := 61) (tgt := 62) dX5_go_58 (by decide) rfl (by omega) (fun hc58 => ?_) (fun hc58 => ?_) | refine pn_if_eq (q := 61) (tgt := 62) dX5_go_58 (by decide) rfl (fun hc58 => ?_) (fun hc58 => ?_)
          · exact pn_take 5 k62
          · first | exact (hh ⟨hc53, hc5, by omega, by omega, by omega⟩).elim | omega
      · refine pn_aload_n (q := 32) dX5_go_31 rfl rfl rfl ?_
        refine pn_get (q := 35) fX5_53 dX5_go_32 rfl rfl rfl ?_
        refine pn_aload_n (q := 36) dX5_go_35 rfl rfl rfl ?_
        refine pn_get (q := 39) fX5_46 dX5_go_36 rfl rfl rfl ?_
        first | refine pn_nne (q := 42) (tgt := 46) dX5_go_39 (by decide) rfl (by omega) (by omega) (fun hc39 => ?_) (fun hc39 => ?_) | refine pn_icmp_ne (q := 42) (tgt := 46) dX5_go_39 (by decide) rfl (fun hc39 => ?_) (fun hc39 => ?_)
        · refine pn_iconst (q := 47) (v := nI 0) dX5_go_46 rfl (by decide) ?_
          refine pn_istore (q := 49) dX5_go_47 rfl (by decide) ?_
          refine pn_aload_n (q := 50) dX5_go_49 rfl rfl rfl ?_
          refine pn_get (q := 53) fX5_33 dX5_go_50 rfl rfl rfl ?_
          refine pn_beq (q := 56) (tgt := 62) dX5_go_53 (by decide) rfl (fun hc53 => ?_) (fun hc53 => ?_)
          · exact pn_take 5 k62
          · refine pn_iload (q := 58) dX5_go_56 rfl rfl ?_
            first | refine pn_zeq (q := 61) (tgt := 62) dX5_go_58 (by decide) rfl (by omega) (fun hc58 => ?_) (fun hc58 => ?_) | refine pn_if_eq (q := 61) (tgt := 62) dX5_go_58 (by decide) rfl (fun hc58 => ?_) (fun hc58 => ?_)
            · exact pn_take 5 k62
            · first | exact (hh ⟨hc53, hc5, by omega, by omega, by omega⟩).elim | omega
        · refine pn_iconst (q := 43) (v := nI 1) dX5_go_42 rfl (by decide) ?_
          refine pn_goto (q := 47) dX5_go_43 (by decide) ?_
          refine pn_istore (q := 49) dX5_go_47 rfl (by decide) ?_
          refine pn_aload_n (q := 50) dX5_go_49 rfl rfl rfl ?_
          refine pn_get (q := 53) fX5_33 dX5_go_50 rfl rfl rfl ?_
          refine pn_beq (q := 56) (tgt := 62) dX5_go_53 (by decide) rfl (fun hc53 => ?_) (fun hc53 => ?_)
          · exact pn_take 5 k62
          · refine pn_iload (q := 58) dX5_go_56 rfl rfl ?_
            first | refine pn_zeq (q := 61) (tgt := 62) dX5_go_58 (by decide) rfl (by omega) (fun hc58 => ?_) (fun hc58 => ?_) | refine pn_if_eq (q := 61) (tgt := 62) dX5_go_58 (by decide) rfl (fun hc58 => ?_) (fun hc58 => ?_)
            · exact pn_take 5 k62
            · first | exact (hh ⟨hc53, hc5, by omega, by omega, by omega⟩).elim | omega
