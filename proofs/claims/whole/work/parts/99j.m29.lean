/-! exchanges, as the reference tells them -/
def ipK (A : Nat → Int64) (x : Int64) : Nat → Nat → Bool
  | 0, _ => false
  | z + 1, k => if A k = x then true else ipK A x z (k + 1)
def ipB (e : G4) (x : Int64) : Bool := if x = lN 0 then false else ipK e.2.1 x (e.2.2.2.2.1 (llN x + 1) - e.2.2.2.2.1 (llN x)) (e.2.2.2.2.1 (llN x))
set_option maxRecDepth 100000 in
theorem m_isPart (adK : Nat → Nat) (d : Nat) (Y : MN) (P : Nat → MN) (a : G0) (b : G1) (c : G3) (e : G4) (f : G5) (g : G6) (h : G7) (x : Int64) (hO : lyO e) (hl : ¬ x = lN 0 → llN x + 1 < 57) : pnCt mX7_isPart adK (d + 1) 0 0 [.ref 0, .long x] (hM Y P a b c e f g h) (pnIs (.inl (some (.int (nB (ipB e x))))) (hM Y P a b c e f g h)) := by
  refine pnCt_of (by decide) kX7_isPart (Nat.le_of_ble_eq_true rfl) rfl hM_cl (pnCS_b rfl) ?_
  obtain ⟨o1, o2, o3⟩ := hO
  by_cases h0 : x = lN 0
  · have e0 : ipB e x = false := if_pos h0
    rw [e0]
    refine pn_lload_n (q := 1) dX7_isPart_0 rfl rfl ?_
    refine pn_lconst (q := 2) (v := lN 0) dX7_isPart_1 rfl (by decide) ?_
    refine pn_lne (q1 := 3) (q := 6) (tgt := 8) dX7_isPart_2 rfl dX7_isPart_3 (by decide) rfl (fun hc2 => ?_) (fun hc2 => ?_)
    · exact (hc2 h0).elim
    · refine pn_iconst (q := 7) (v := nI 0) dX7_isPart_6 rfl (by decide) ?_
      refine pn_tret (b := false) _ ?_ dX7_isPart_7 rfl ?_
      · rfl
      · exact ⟨rfl, rfl⟩
  · have e0 : ipB e x = ipK e.2.1 x (e.2.2.2.2.1 (llN x + 1) - e.2.2.2.2.1 (llN x)) (e.2.2.2.2.1 (llN x)) := if_neg h0
    rw [e0]
    have hl := hl h0
    have CL := m_least adK d x h0
    have f1 := o3 (llN x) (by omega)
    have f2 := o3 (llN x + 1) (by omega)
    generalize hR : ipK e.2.1 x (e.2.2.2.2.1 (llN x + 1) - e.2.2.2.2.1 (llN x)) (e.2.2.2.2.1 (llN x)) = R
    have loop : ∀ (z k : Nat), (k + z = e.2.2.2.2.1 (llN x + 1) ∨ (z = 0 ∧ e.2.2.2.2.1 (llN x + 1) ≤ k)) → k ≤ 60000 → ipK e.2.1 x z k = R → pnWP mX7_isPart adK (d + 1) (pnIs (.inl (some (.int (nB R)))) (hM Y P a b c e f g h)) 0 0 (hM Y P a b c e f g h) [some (.ref 0), some (.long x), none, some (.int (nI (llN x))), some (.int (nI k))] [] 21 := by
      intro z
      induction z with
      | zero =>
        intro k hk hk6 e9
        have e8 : R = false := e9.symm
        subst e8
        refine pn_iload (q := 23) dX7_isPart_21 rfl rfl ?_
        refine pn_aload_n (q := 24) dX7_isPart_23 rfl rfl rfl ?_
        refine pn_get (q := 27) fX7_47 dX7_isPart_24 rfl rfl rfl ?_
        refine pn_iload_n (q := 28) dX7_isPart_27 rfl rfl ?_
        refine pn_iconst (q := 29) (v := nI 1) dX7_isPart_28 rfl (by decide) ?_
        first | with_reducible refine pn_iaddN (q := 30) dX7_isPart_29 rfl ?_ | refine pn_iadd (q := 30) dX7_isPart_29 rfl ?_
        refine pn_iald (q := 31) dX7_isPart_30 rfl rfl rfl (by omega) (by first | decide | omega) ?_
        first | refine pn_nge (q := 34) (tgt := 54) dX7_isPart_31 (by decide) rfl (by omega) (by omega) (fun hc31 => ?_) (fun hc31 => ?_) | refine pn_icmp_ge (q := 34) (tgt := 54) dX7_isPart_31 (by decide) rfl (fun hc31 => ?_) (fun hc31 => ?_)
        · refine pn_iconst (q := 55) (v := nI 0) dX7_isPart_54 rfl (by decide) ?_
          refine pn_tret (b := false) _ ?_ dX7_isPart_55 rfl ?_
          · rfl
          · exact ⟨rfl, rfl⟩
        · omega
      | succ z ih =>
        intro k hk hk6 e9
        have hk : k + (z + 1) = e.2.2.2.2.1 (llN x + 1) := by omega
        have e7 : ipK e.2.1 x (z + 1) k = if e.2.1 k = x then true else ipK e.2.1 x z (k + 1) := rfl
        rw [e9] at e7
        by_cases q : e.2.1 k = x
        · rw [if_pos q] at e7
          subst e7
          refine pn_iload (q := 23) dX7_isPart_21 rfl rfl ?_
          refine pn_aload_n (q := 24) dX7_isPart_23 rfl rfl rfl ?_
          refine pn_get (q := 27) fX7_47 dX7_isPart_24 rfl rfl rfl ?_
          refine pn_iload_n (q := 28) dX7_isPart_27 rfl rfl ?_
          refine pn_iconst (q := 29) (v := nI 1) dX7_isPart_28 rfl (by decide) ?_
          first | with_reducible refine pn_iaddN (q := 30) dX7_isPart_29 rfl ?_ | refine pn_iadd (q := 30) dX7_isPart_29 rfl ?_
          refine pn_iald (q := 31) dX7_isPart_30 rfl rfl rfl (by omega) (by first | decide | omega) ?_
          first | refine pn_nge (q := 34) (tgt := 54) dX7_isPart_31 (by decide) rfl (by omega) (by omega) (fun hc31 => ?_) (fun hc31 => ?_) | refine pn_icmp_ge (q := 34) (tgt := 54) dX7_isPart_31 (by decide) rfl (fun hc31 => ?_) (fun hc31 => ?_)
          · omega
          · refine pn_aload_n (q := 35) dX7_isPart_34 rfl rfl rfl ?_
            refine pn_get (q := 38) fX7_41 dX7_isPart_35 rfl rfl rfl ?_
            refine pn_iload (q := 40) dX7_isPart_38 rfl rfl ?_
            refine pn_lald5 (q := 41) dX7_isPart_40 rfl rfl rfl (by omega) (by omega) ?_
            refine pn_lload_n (q := 42) dX7_isPart_41 rfl rfl ?_
            refine pn_lne (q1 := 43) (q := 46) (tgt := 48) dX7_isPart_42 rfl dX7_isPart_43 (by decide) rfl (fun hc42 => ?_) (fun hc42 => ?_)
            · exact (hc42 q).elim
            · refine pn_iconst (q := 47) (v := nI 1) dX7_isPart_46 rfl (by decide) ?_
              refine pn_tret (b := true) _ ?_ dX7_isPart_47 rfl ?_
              · rfl
              · exact ⟨rfl, rfl⟩
        · rw [if_neg q] at e7
          have k9 := ih (k + 1) (by omega) (by omega) e7.symm
          refine pn_iload (q := 23) dX7_isPart_21 rfl rfl ?_
          refine pn_aload_n (q := 24) dX7_isPart_23 rfl rfl rfl ?_
          refine pn_get (q := 27) fX7_47 dX7_isPart_24 rfl rfl rfl ?_
          refine pn_iload_n (q := 28) dX7_isPart_27 rfl rfl ?_
          refine pn_iconst (q := 29) (v := nI 1) dX7_isPart_28 rfl (by decide) ?_
          first | with_reducible refine pn_iaddN (q := 30) dX7_isPart_29 rfl ?_ | refine pn_iadd (q := 30) dX7_isPart_29 rfl ?_
          refine pn_iald (q := 31) dX7_isPart_30 rfl rfl rfl (by omega) (by first | decide | omega) ?_
          first | refine pn_nge (q := 34) (tgt := 54) dX7_isPart_31 (by decide) rfl (by omega) (by omega) (fun hc31 => ?_) (fun hc31 => ?_) | refine pn_icmp_ge (q := 34) (tgt := 54) dX7_isPart_31 (by decide) rfl (fun hc31 => ?_) (fun hc31 => ?_)
          · omega
          · refine pn_aload_n (q := 35) dX7_isPart_34 rfl rfl rfl ?_
            refine pn_get (q := 38) fX7_41 dX7_isPart_35 rfl rfl rfl ?_
            refine pn_iload (q := 40) dX7_isPart_38 rfl rfl ?_
            refine pn_lald5 (q := 41) dX7_isPart_40 rfl rfl rfl (by omega) (by omega) ?_
            refine pn_lload_n (q := 42) dX7_isPart_41 rfl rfl ?_
            refine pn_lne (q1 := 43) (q := 46) (tgt := 48) dX7_isPart_42 rfl dX7_isPart_43 (by decide) rfl (fun hc42 => ?_) (fun hc42 => ?_)
            · first | refine pn_iinc1 (q := 51) dX7_isPart_48 rfl rfl (by decide) ?_ | refine pn_iinc (q := 51) (mm := 1) dX7_isPart_48 rfl rfl (by decide) (by decide) ?_
              refine pn_goto (q := 21) dX7_isPart_51 (by decide) ?_
              exact k9
            · exact (q hc42).elim
    refine pn_lload_n (q := 1) dX7_isPart_0 rfl rfl ?_
    refine pn_lconst (q := 2) (v := lN 0) dX7_isPart_1 rfl (by decide) ?_
    refine pn_lne (q1 := 3) (q := 6) (tgt := 8) dX7_isPart_2 rfl dX7_isPart_3 (by decide) rfl (fun hc2 => ?_) (fun hc2 => ?_)
    · refine pn_lload_n (q := 9) dX7_isPart_8 rfl rfl ?_
      refine pn_roS1 (q := 12) (CL) lkX7_82 dX7_isPart_9 rfl rfl (pnSel_of (I := []) rfl rfl) (pnFree_none rfl) rfl (by omega) (Nat.le_of_ble_eq_true rfl) rfl ?_
      refine pn_istore_n (q := 13) dX7_isPart_12 rfl (by decide) ?_
      refine pn_aload_n (q := 14) dX7_isPart_13 rfl rfl rfl ?_
      refine pn_get (q := 17) fX7_47 dX7_isPart_14 rfl rfl rfl ?_
      refine pn_iload_n (q := 18) dX7_isPart_17 rfl rfl ?_
      refine pn_iald (q := 19) dX7_isPart_18 rfl rfl rfl (by omega) (by first | decide | omega) ?_
      refine pn_istore (q := 21) dX7_isPart_19 rfl (by decide) ?_
      exact loop (e.2.2.2.2.1 (llN x + 1) - e.2.2.2.2.1 (llN x)) (e.2.2.2.2.1 (llN x)) (by omega) (by omega) hR
    · exact (h0 hc2).elim
def exB (e : G4) (x y v s : Int64) : Bool := decide (s &&& (v ^^^ (-1)) = lN 0) && (!decide (s = x) && (!decide (s = y) && ipB e (v &&& (s ^^^ (-1)))))
def exK (e : G4) (x y v : Int64) (w : Int32) : Nat → Nat → Nat → G5 → Nat × G5
  | 0, _, n, f => (n, f)
  | z + 1, i, n, f => if exB e x y v (e.2.1 i) = true then exK e x y v w z (i + 1) (n + 1) (if nI n = w then (e.2.1 i, v &&& (e.2.1 i ^^^ (-1))) else f) else exK e x y v w z (i + 1) n f
set_option maxRecDepth 100000 in
theorem m_exchangesOf (adK : Nat → Nat) (d : Nat) (Y : MN) (P : Nat → MN) (a : G0) (b : G1) (c : G3) (e : G4) (f : G5) (g : G6) (h : G7) (hp9 : lyP Y c e) (hO : lyO (lyG Y c e)) (p q : Nat) (w : Int32) (hp : p < 60) (hq : q < 60) (hv : ¬ (Y.2.2.2.2.2.2.1 p ||| Y.2.2.2.2.2.2.1 q) = lN 0) (hl : llN (Y.2.2.2.2.2.2.1 p ||| Y.2.2.2.2.2.2.1 q) + 1 < 57) (hl2 : ∀ s : Int64, ¬ (Y.2.2.2.2.2.2.1 p ||| Y.2.2.2.2.2.2.1 q) &&& s = lN 0 → llN ((Y.2.2.2.2.2.2.1 p ||| Y.2.2.2.2.2.2.1 q) &&& s) + 1 < 57) : pnCt mX7_exchangesOf adK (d + 21) (lyM Y c e) (lyN Y c e) [.ref 0, .int (nI p), .int (nI q), .int w] (hM Y P a b c e f g h) (pnIs (.inl (some (.int (nI (exK (lyG Y c e) (Y.2.2.2.2.2.2.1 p) (Y.2.2.2.2.2.2.1 q) (Y.2.2.2.2.2.2.1 p ||| Y.2.2.2.2.2.2.1 q) w ((lyG Y c e).2.2.2.2.1 (llN (Y.2.2.2.2.2.2.1 p ||| Y.2.2.2.2.2.2.1 q) + 1) - (lyG Y c e).2.2.2.2.1 (llN (Y.2.2.2.2.2.2.1 p ||| Y.2.2.2.2.2.2.1 q))) ((lyG Y c e).2.2.2.2.1 (llN (Y.2.2.2.2.2.2.1 p ||| Y.2.2.2.2.2.2.1 q))) 0 f).1)))) (hM Y P a b (lyC Y c e) (lyG Y c e) (exK (lyG Y c e) (Y.2.2.2.2.2.2.1 p) (Y.2.2.2.2.2.2.1 q) (Y.2.2.2.2.2.2.1 p ||| Y.2.2.2.2.2.2.1 q) w ((lyG Y c e).2.2.2.2.1 (llN (Y.2.2.2.2.2.2.1 p ||| Y.2.2.2.2.2.2.1 q) + 1) - (lyG Y c e).2.2.2.2.1 (llN (Y.2.2.2.2.2.2.1 p ||| Y.2.2.2.2.2.2.1 q))) ((lyG Y c e).2.2.2.2.1 (llN (Y.2.2.2.2.2.2.1 p ||| Y.2.2.2.2.2.2.1 q))) 0 f).2 g h)) := by
  refine pnCt_of (by decide) kX7_exchangesOf (Nat.le_of_ble_eq_true rfl) rfl hM_cl (pnCS_b rfl) ?_
  have CL := m_lays adK d Y P a b c e f g h hp9
  generalize (lyG Y c e) = e1 at *
  generalize (lyC Y c e) = c1 at *
  have hO2 := hO
  obtain ⟨o1, o2, o3⟩ := hO
  have CM := m_least adK (d + 10) (Y.2.2.2.2.2.2.1 p ||| Y.2.2.2.2.2.2.1 q) hv
  have ep : nowF Y (30 + p) = Y.2.2.2.2.2.2.1 p := nowF_p Y p
  have eq : nowF Y (30 + q) = Y.2.2.2.2.2.2.1 q := nowF_p Y q
  generalize Y.2.2.2.2.2.2.1 p = x at *
  generalize Y.2.2.2.2.2.2.1 q = y at *
  generalize hxy : x ||| y = v at *
  have f1 := o3 (llN v) (by omega)
  have f2 := o3 (llN v + 1) (by omega)
  generalize hR : exK e1 x y v w (e1.2.2.2.2.1 (llN v + 1) - e1.2.2.2.2.1 (llN v)) (e1.2.2.2.2.1 (llN v)) 0 f = R
  have loop : ∀ (z i n : Nat) (f : G5) (L9 : List (Option Value)), (i + z = e1.2.2.2.2.1 (llN v + 1) ∨ (z = 0 ∧ e1.2.2.2.2.1 (llN v + 1) ≤ i)) → i ≤ 60000 → n ≤ i → exK e1 x y v w z i n f = R → pnWP mX7_exchangesOf adK (d + 21) (pnIs (.inl (some (.int (nI R.1)))) (hM Y P a b c1 e1 R.2 g h)) 0 0 (hM Y P a b c1 e1 f g h) [some (.ref 0), some (.int (nI p)), some (.int (nI q)), some (.int w), some (.long v), none, some (.int (nI (llN v))), some (.int (nI n)), some (.int (nI i))] [] 44 := by
    intro z
    induction z with
    | zero =>
      intro i n f L9 hi hi6 hn e9
      have e8 : R = (n, f) := e9.symm
      subst e8
      refine pn_iload (q := 46) dX7_exchangesOf_44 rfl rfl ?_
      refine pn_aload_n (q := 47) dX7_exchangesOf_46 rfl rfl rfl ?_
      refine pn_get (q := 50) fX7_47 dX7_exchangesOf_47 rfl rfl rfl ?_
      refine pn_iload (q := 52) dX7_exchangesOf_50 rfl rfl ?_
      refine pn_iconst (q := 53) (v := nI 1) dX7_exchangesOf_52 rfl (by decide) ?_
      first | with_reducible refine pn_iaddN (q := 54) dX7_exchangesOf_53 rfl ?_ | refine pn_iadd (q := 54) dX7_exchangesOf_53 rfl ?_
      refine pn_iald (q := 55) dX7_exchangesOf_54 rfl rfl rfl (by omega) (by first | decide | omega) ?_
      first | refine pn_nge (q := 58) (tgt := 164) dX7_exchangesOf_55 (by decide) rfl (by omega) (by omega) (fun hc55 => ?_) (fun hc55 => ?_) | refine pn_icmp_ge (q := 58) (tgt := 164) dX7_exchangesOf_55 (by decide) rfl (fun hc55 => ?_) (fun hc55 => ?_)
      · refine pn_iload (q := 166) dX7_exchangesOf_164 rfl rfl ?_
        refine pn_iret dX7_exchangesOf_166 rfl ?_
        exact ⟨rfl, rfl⟩
      · omega
    | succ z ih =>
      intro i n f L9 hi hi6 hn e9
      have hi : i + (z + 1) = e1.2.2.2.2.1 (llN v + 1) := by omega
      have e7 : exK e1 x y v w (z + 1) i n f = if exB e1 x y v (e1.2.1 i) = true then exK e1 x y v w z (i + 1) (n + 1) (if nI n = w then (e1.2.1 i, v &&& (e1.2.1 i ^^^ (-1))) else f) else exK e1 x y v w z (i + 1) n f := rfl
      rw [e9] at e7
      have CI := m_isPart adK (d + 10) Y P a b c1 e1 f g h (v &&& (e1.2.1 i ^^^ (-1))) hO2 (hl2 _)
      have eB : exB e1 x y v (e1.2.1 i) = (decide (e1.2.1 i &&& (v ^^^ (-1)) = lN 0) && (!decide (e1.2.1 i = x) && (!decide (e1.2.1 i = y) && ipB e1 (v &&& (e1.2.1 i ^^^ (-1)))))) := rfl
      have hIL : i < e1.1 := by omega
      have no : exB e1 x y v (e1.2.1 i) = false → pnWP mX7_exchangesOf adK (d + 21) (pnIs (.inl (some (.int (nI R.1)))) (hM Y P a b c1 e1 R.2 g h)) 0 0 (hM Y P a b c1 e1 f g h) [some (.ref 0), some (.int (nI p)), some (.int (nI q)), some (.int w), some (.long v), none, some (.int (nI (llN v))), some (.int (nI n)), some (.int (nI i)), some (.long (e1.2.1 i))] [] 158 := by
        intro hB
        rw [if_neg (by rw [hB]; exact Bool.false_ne_true)] at e7
        have k9 := ih (i + 1) n f [] (by omega) (by omega) (by omega) e7.symm
        first | refine pn_iinc1 (q := 161) dX7_exchangesOf_158 rfl rfl (by decide) ?_ | refine pn_iinc (q := 161) (mm := 1) dX7_exchangesOf_158 rfl rfl (by decide) (by decide) ?_
        refine pn_goto (q := 44) dX7_exchangesOf_161 (by decide) ?_
        exact pn_take 9 k9
      have yes : exB e1 x y v (e1.2.1 i) = true → pnWP mX7_exchangesOf adK (d + 21) (pnIs (.inl (some (.int (nI R.1)))) (hM Y P a b c1 e1 R.2 g h)) 0 0 (hM Y P a b c1 e1 f g h) [some (.ref 0), some (.int (nI p)), some (.int (nI q)), some (.int w), some (.long v), none, some (.int (nI (llN v))), some (.int (nI n)), some (.int (nI i)), some (.long (e1.2.1 i))] [] 130 := by
        intro hB
        rw [if_pos hB] at e7
        by_cases hw : nI n = w
        · rw [if_pos hw] at e7
          have k9 := ih (i + 1) (n + 1) (e1.2.1 i, v &&& (e1.2.1 i ^^^ (-1))) [] (by omega) (by omega) (by omega) e7.symm
          refine pn_iload (q := 132) dX7_exchangesOf_130 rfl rfl ?_
          refine pn_iload_n (q := 133) dX7_exchangesOf_132 rfl rfl ?_
          refine pn_icmp_ne (q := 136) (tgt := 155) dX7_exchangesOf_133 (by decide) rfl (fun hc133 => ?_) (fun hc133 => ?_)
          · exact (hc133 hw).elim
          · refine pn_aload_n (q := 137) dX7_exchangesOf_136 rfl rfl rfl ?_
            refine pn_lload (q := 139) dX7_exchangesOf_137 rfl rfl ?_
            refine pn_put (q := 142) fX7_282 dX7_exchangesOf_139 rfl rfl (Nat.le_of_ble_eq_true rfl) (pnF_long _) ?_
            refine pn_aload_n (q := 143) dX7_exchangesOf_142 rfl rfl rfl ?_
            refine pn_lload (q := 145) dX7_exchangesOf_143 rfl rfl ?_
            refine pn_lload (q := 147) dX7_exchangesOf_145 rfl rfl ?_
            refine pn_ldc2 (q := 150) pw_1283 dX7_exchangesOf_147 rfl ?_
            refine pn_lxor (q := 151) dX7_exchangesOf_150 rfl ?_
            refine pn_land (q := 152) dX7_exchangesOf_151 rfl ?_
            refine pn_put (q := 155) fX7_285 dX7_exchangesOf_152 rfl rfl (Nat.le_of_ble_eq_true rfl) (pnF_long _) ?_
            first | refine pn_iinc1 (q := 158) dX7_exchangesOf_155 rfl rfl (by decide) ?_ | refine pn_iinc (q := 158) (mm := 1) dX7_exchangesOf_155 rfl rfl (by decide) (by decide) ?_
            first | refine pn_iinc1 (q := 161) dX7_exchangesOf_158 rfl rfl (by decide) ?_ | refine pn_iinc (q := 161) (mm := 1) dX7_exchangesOf_158 rfl rfl (by decide) (by decide) ?_
            refine pn_goto (q := 44) dX7_exchangesOf_161 (by decide) ?_
            exact pn_take 9 k9
        · rw [if_neg hw] at e7
          have k9 := ih (i + 1) (n + 1) f [] (by omega) (by omega) (by omega) e7.symm
          refine pn_iload (q := 132) dX7_exchangesOf_130 rfl rfl ?_
          refine pn_iload_n (q := 133) dX7_exchangesOf_132 rfl rfl ?_
          refine pn_icmp_ne (q := 136) (tgt := 155) dX7_exchangesOf_133 (by decide) rfl (fun hc133 => ?_) (fun hc133 => ?_)
          · first | refine pn_iinc1 (q := 158) dX7_exchangesOf_155 rfl rfl (by decide) ?_ | refine pn_iinc (q := 158) (mm := 1) dX7_exchangesOf_155 rfl rfl (by decide) (by decide) ?_
            first | refine pn_iinc1 (q := 161) dX7_exchangesOf_158 rfl rfl (by decide) ?_ | refine pn_iinc (q := 161) (mm := 1) dX7_exchangesOf_158 rfl rfl (by decide) (by decide) ?_
            refine pn_goto (q := 44) dX7_exchangesOf_161 (by decide) ?_
            exact pn_take 9 k9
          · exact (hw hc133).elim
      by_cases q1 : e1.2.1 i &&& (v ^^^ (-1)) = lN 0
      · rw [decide_eq_true q1, Bool.true_and] at eB
        by_cases q2 : e1.2.1 i = x
        · rw [decide_eq_true q2] at eB
          have k9 := no eB
          refine pn_iload (q := 46) dX7_exchangesOf_44 rfl rfl ?_
          refine pn_aload_n (q := 47) dX7_exchangesOf_46 rfl rfl rfl ?_
          refine pn_get (q := 50) fX7_47 dX7_exchangesOf_47 rfl rfl rfl ?_
          refine pn_iload (q := 52) dX7_exchangesOf_50 rfl rfl ?_
          refine pn_iconst (q := 53) (v := nI 1) dX7_exchangesOf_52 rfl (by decide) ?_
          first | with_reducible refine pn_iaddN (q := 54) dX7_exchangesOf_53 rfl ?_ | refine pn_iadd (q := 54) dX7_exchangesOf_53 rfl ?_
          refine pn_iald (q := 55) dX7_exchangesOf_54 rfl rfl rfl (by omega) (by first | decide | omega) ?_
          first | refine pn_nge (q := 58) (tgt := 164) dX7_exchangesOf_55 (by decide) rfl (by omega) (by omega) (fun hc55 => ?_) (fun hc55 => ?_) | refine pn_icmp_ge (q := 58) (tgt := 164) dX7_exchangesOf_55 (by decide) rfl (fun hc55 => ?_) (fun hc55 => ?_)
          · omega
          · refine pn_aload_n (q := 59) dX7_exchangesOf_58 rfl rfl rfl ?_
            refine pn_get (q := 62) fX7_41 dX7_exchangesOf_59 rfl rfl rfl ?_
            refine pn_iload (q := 64) dX7_exchangesOf_62 rfl rfl ?_
            refine pn_lald5 (q := 65) dX7_exchangesOf_64 rfl rfl rfl (by omega) (by omega) ?_
            refine pn_lstore (q := 67) dX7_exchangesOf_65 rfl (by decide) ?_
            refine pn_lload (q := 69) dX7_exchangesOf_67 rfl rfl ?_
            refine pn_lload (q := 71) dX7_exchangesOf_69 rfl rfl ?_
            refine pn_ldc2 (q := 74) pw_1283 dX7_exchangesOf_71 rfl ?_
            refine pn_lxor (q := 75) dX7_exchangesOf_74 rfl ?_
            refine pn_land (q := 76) dX7_exchangesOf_75 rfl ?_
            refine pn_lconst (q := 77) (v := lN 0) dX7_exchangesOf_76 rfl (by decide) ?_
            refine pn_lne (q1 := 78) (q := 81) (tgt := 158) dX7_exchangesOf_77 rfl dX7_exchangesOf_78 (by decide) rfl (fun hc77 => ?_) (fun hc77 => ?_)
            · exact (hc77 q1).elim
            · refine pn_lload (q := 83) dX7_exchangesOf_81 rfl rfl ?_
              refine pn_aload_n (q := 84) dX7_exchangesOf_83 rfl rfl rfl ?_
              refine pn_get (q := 87) fX7_20 dX7_exchangesOf_84 rfl rfl rfl ?_
              refine pn_bipush (q := 89) (v := nI 30) dX7_exchangesOf_87 rfl (by decide) ?_
              refine pn_iload_n (q := 90) dX7_exchangesOf_89 rfl rfl ?_
              first | with_reducible refine pn_iaddN (q := 91) dX7_exchangesOf_90 rfl ?_ | refine pn_iadd (q := 91) dX7_exchangesOf_90 rfl ?_
              refine pn_lald1 (q := 92) dX7_exchangesOf_91 rfl rfl rfl (by omega) (by decide) ?_; rw [ep]
              refine pn_leq (q1 := 93) (q := 96) (tgt := 158) dX7_exchangesOf_92 rfl dX7_exchangesOf_93 (by decide) rfl (fun hc92 => ?_) (fun hc92 => ?_)
              · exact k9
              · exact (hc92 q2).elim
        · rw [decide_eq_false q2, Bool.not_false, Bool.true_and] at eB
          by_cases q3 : e1.2.1 i = y
          · rw [decide_eq_true q3] at eB
            have k9 := no eB
            refine pn_iload (q := 46) dX7_exchangesOf_44 rfl rfl ?_
            refine pn_aload_n (q := 47) dX7_exchangesOf_46 rfl rfl rfl ?_
            refine pn_get (q := 50) fX7_47 dX7_exchangesOf_47 rfl rfl rfl ?_
            refine pn_iload (q := 52) dX7_exchangesOf_50 rfl rfl ?_
            refine pn_iconst (q := 53) (v := nI 1) dX7_exchangesOf_52 rfl (by decide) ?_
            first | with_reducible refine pn_iaddN (q := 54) dX7_exchangesOf_53 rfl ?_ | refine pn_iadd (q := 54) dX7_exchangesOf_53 rfl ?_
            refine pn_iald (q := 55) dX7_exchangesOf_54 rfl rfl rfl (by omega) (by first | decide | omega) ?_
            first | refine pn_nge (q := 58) (tgt := 164) dX7_exchangesOf_55 (by decide) rfl (by omega) (by omega) (fun hc55 => ?_) (fun hc55 => ?_) | refine pn_icmp_ge (q := 58) (tgt := 164) dX7_exchangesOf_55 (by decide) rfl (fun hc55 => ?_) (fun hc55 => ?_)
            · omega
            · refine pn_aload_n (q := 59) dX7_exchangesOf_58 rfl rfl rfl ?_
              refine pn_get (q := 62) fX7_41 dX7_exchangesOf_59 rfl rfl rfl ?_
              refine pn_iload (q := 64) dX7_exchangesOf_62 rfl rfl ?_
              refine pn_lald5 (q := 65) dX7_exchangesOf_64 rfl rfl rfl (by omega) (by omega) ?_
              refine pn_lstore (q := 67) dX7_exchangesOf_65 rfl (by decide) ?_
              refine pn_lload (q := 69) dX7_exchangesOf_67 rfl rfl ?_
              refine pn_lload (q := 71) dX7_exchangesOf_69 rfl rfl ?_
              refine pn_ldc2 (q := 74) pw_1283 dX7_exchangesOf_71 rfl ?_
              refine pn_lxor (q := 75) dX7_exchangesOf_74 rfl ?_
              refine pn_land (q := 76) dX7_exchangesOf_75 rfl ?_
              refine pn_lconst (q := 77) (v := lN 0) dX7_exchangesOf_76 rfl (by decide) ?_
              refine pn_lne (q1 := 78) (q := 81) (tgt := 158) dX7_exchangesOf_77 rfl dX7_exchangesOf_78 (by decide) rfl (fun hc77 => ?_) (fun hc77 => ?_)
              · exact (hc77 q1).elim
              · refine pn_lload (q := 83) dX7_exchangesOf_81 rfl rfl ?_
                refine pn_aload_n (q := 84) dX7_exchangesOf_83 rfl rfl rfl ?_
                refine pn_get (q := 87) fX7_20 dX7_exchangesOf_84 rfl rfl rfl ?_
                refine pn_bipush (q := 89) (v := nI 30) dX7_exchangesOf_87 rfl (by decide) ?_
                refine pn_iload_n (q := 90) dX7_exchangesOf_89 rfl rfl ?_
                first | with_reducible refine pn_iaddN (q := 91) dX7_exchangesOf_90 rfl ?_ | refine pn_iadd (q := 91) dX7_exchangesOf_90 rfl ?_
                refine pn_lald1 (q := 92) dX7_exchangesOf_91 rfl rfl rfl (by omega) (by decide) ?_; rw [ep]
                refine pn_leq (q1 := 93) (q := 96) (tgt := 158) dX7_exchangesOf_92 rfl dX7_exchangesOf_93 (by decide) rfl (fun hc92 => ?_) (fun hc92 => ?_)
                · exact (q2 hc92).elim
                · refine pn_lload (q := 98) dX7_exchangesOf_96 rfl rfl ?_
                  refine pn_aload_n (q := 99) dX7_exchangesOf_98 rfl rfl rfl ?_
                  refine pn_get (q := 102) fX7_20 dX7_exchangesOf_99 rfl rfl rfl ?_
                  refine pn_bipush (q := 104) (v := nI 30) dX7_exchangesOf_102 rfl (by decide) ?_
                  refine pn_iload_n (q := 105) dX7_exchangesOf_104 rfl rfl ?_
                  first | with_reducible refine pn_iaddN (q := 106) dX7_exchangesOf_105 rfl ?_ | refine pn_iadd (q := 106) dX7_exchangesOf_105 rfl ?_
                  refine pn_lald1 (q := 107) dX7_exchangesOf_106 rfl rfl rfl (by omega) (by decide) ?_; rw [eq]
                  refine pn_leq (q1 := 108) (q := 111) (tgt := 158) dX7_exchangesOf_107 rfl dX7_exchangesOf_108 (by decide) rfl (fun hc107 => ?_) (fun hc107 => ?_)
                  · exact k9
                  · exact (hc107 q3).elim
          · rw [decide_eq_false q3, Bool.not_false, Bool.true_and] at eB
            cases q4 : ipB e1 (v &&& (e1.2.1 i ^^^ (-1))) with
            | true =>
              rw [q4] at CI eB
              have k9 := yes eB
              refine pn_iload (q := 46) dX7_exchangesOf_44 rfl rfl ?_
              refine pn_aload_n (q := 47) dX7_exchangesOf_46 rfl rfl rfl ?_
              refine pn_get (q := 50) fX7_47 dX7_exchangesOf_47 rfl rfl rfl ?_
              refine pn_iload (q := 52) dX7_exchangesOf_50 rfl rfl ?_
              refine pn_iconst (q := 53) (v := nI 1) dX7_exchangesOf_52 rfl (by decide) ?_
              first | with_reducible refine pn_iaddN (q := 54) dX7_exchangesOf_53 rfl ?_ | refine pn_iadd (q := 54) dX7_exchangesOf_53 rfl ?_
              refine pn_iald (q := 55) dX7_exchangesOf_54 rfl rfl rfl (by omega) (by first | decide | omega) ?_
              first | refine pn_nge (q := 58) (tgt := 164) dX7_exchangesOf_55 (by decide) rfl (by omega) (by omega) (fun hc55 => ?_) (fun hc55 => ?_) | refine pn_icmp_ge (q := 58) (tgt := 164) dX7_exchangesOf_55 (by decide) rfl (fun hc55 => ?_) (fun hc55 => ?_)
              · omega
              · refine pn_aload_n (q := 59) dX7_exchangesOf_58 rfl rfl rfl ?_
                refine pn_get (q := 62) fX7_41 dX7_exchangesOf_59 rfl rfl rfl ?_
                refine pn_iload (q := 64) dX7_exchangesOf_62 rfl rfl ?_
                refine pn_lald5 (q := 65) dX7_exchangesOf_64 rfl rfl rfl (by omega) (by omega) ?_
                refine pn_lstore (q := 67) dX7_exchangesOf_65 rfl (by decide) ?_
                refine pn_lload (q := 69) dX7_exchangesOf_67 rfl rfl ?_
                refine pn_lload (q := 71) dX7_exchangesOf_69 rfl rfl ?_
                refine pn_ldc2 (q := 74) pw_1283 dX7_exchangesOf_71 rfl ?_
                refine pn_lxor (q := 75) dX7_exchangesOf_74 rfl ?_
                refine pn_land (q := 76) dX7_exchangesOf_75 rfl ?_
                refine pn_lconst (q := 77) (v := lN 0) dX7_exchangesOf_76 rfl (by decide) ?_
                refine pn_lne (q1 := 78) (q := 81) (tgt := 158) dX7_exchangesOf_77 rfl dX7_exchangesOf_78 (by decide) rfl (fun hc77 => ?_) (fun hc77 => ?_)
                · exact (hc77 q1).elim
                · refine pn_lload (q := 83) dX7_exchangesOf_81 rfl rfl ?_
                  refine pn_aload_n (q := 84) dX7_exchangesOf_83 rfl rfl rfl ?_
                  refine pn_get (q := 87) fX7_20 dX7_exchangesOf_84 rfl rfl rfl ?_
                  refine pn_bipush (q := 89) (v := nI 30) dX7_exchangesOf_87 rfl (by decide) ?_
                  refine pn_iload_n (q := 90) dX7_exchangesOf_89 rfl rfl ?_
                  first | with_reducible refine pn_iaddN (q := 91) dX7_exchangesOf_90 rfl ?_ | refine pn_iadd (q := 91) dX7_exchangesOf_90 rfl ?_
                  refine pn_lald1 (q := 92) dX7_exchangesOf_91 rfl rfl rfl (by omega) (by decide) ?_; rw [ep]
                  refine pn_leq (q1 := 93) (q := 96) (tgt := 158) dX7_exchangesOf_92 rfl dX7_exchangesOf_93 (by decide) rfl (fun hc92 => ?_) (fun hc92 => ?_)
                  · exact (q2 hc92).elim
                  · refine pn_lload (q := 98) dX7_exchangesOf_96 rfl rfl ?_
                    refine pn_aload_n (q := 99) dX7_exchangesOf_98 rfl rfl rfl ?_
                    refine pn_get (q := 102) fX7_20 dX7_exchangesOf_99 rfl rfl rfl ?_
                    refine pn_bipush (q := 104) (v := nI 30) dX7_exchangesOf_102 rfl (by decide) ?_
                    refine pn_iload_n (q := 105) dX7_exchangesOf_104 rfl rfl ?_
                    first | with_reducible refine pn_iaddN (q := 106) dX7_exchangesOf_105 rfl ?_ | refine pn_iadd (q := 106) dX7_exchangesOf_105 rfl ?_
                    refine pn_lald1 (q := 107) dX7_exchangesOf_106 rfl rfl rfl (by omega) (by decide) ?_; rw [eq]
                    refine pn_leq (q1 := 108) (q := 111) (tgt := 158) dX7_exchangesOf_107 rfl dX7_exchangesOf_108 (by decide) rfl (fun hc107 => ?_) (fun hc107 => ?_)
                    · exact (q3 hc107).elim
                    · refine pn_aload_n (q := 112) dX7_exchangesOf_111 rfl rfl rfl ?_
                      refine pn_lload (q := 114) dX7_exchangesOf_112 rfl rfl ?_
                      refine pn_lload (q := 116) dX7_exchangesOf_114 rfl rfl ?_
                      refine pn_ldc2 (q := 119) pw_1283 dX7_exchangesOf_116 rfl ?_
                      refine pn_lxor (q := 120) dX7_exchangesOf_119 rfl ?_
                      refine pn_land (q := 121) dX7_exchangesOf_120 rfl ?_
                      refine pn_idV (q := 124) (bc9 := 0) (bs9 := 0) (CI) lkX7_278 dX7_exchangesOf_121 rfl rfl (hM_cl) (hM_cl) (Nat.le_of_ble_eq_true rfl) rfl rfl rfl rfl rfl rfl (by omega) (by omega) (by omega) (Nat.le_of_ble_eq_true rfl) ?_
                      refine pn_bne (q := 127) (tgt := 130) dX7_exchangesOf_124 (by decide) rfl (fun hc124 => ?_) (fun hc124 => ?_)
                      · exact k9
                      · cases hc124
            | false =>
              rw [q4] at CI eB
              have k9 := no eB
              refine pn_iload (q := 46) dX7_exchangesOf_44 rfl rfl ?_
              refine pn_aload_n (q := 47) dX7_exchangesOf_46 rfl rfl rfl ?_
              refine pn_get (q := 50) fX7_47 dX7_exchangesOf_47 rfl rfl rfl ?_
              refine pn_iload (q := 52) dX7_exchangesOf_50 rfl rfl ?_
              refine pn_iconst (q := 53) (v := nI 1) dX7_exchangesOf_52 rfl (by decide) ?_
              first | with_reducible refine pn_iaddN (q := 54) dX7_exchangesOf_53 rfl ?_ | refine pn_iadd (q := 54) dX7_exchangesOf_53 rfl ?_
              refine pn_iald (q := 55) dX7_exchangesOf_54 rfl rfl rfl (by omega) (by first | decide | omega) ?_
              first | refine pn_nge (q := 58) (tgt := 164) dX7_exchangesOf_55 (by decide) rfl (by omega) (by omega) (fun hc55 => ?_) (fun hc55 => ?_) | refine pn_icmp_ge (q := 58) (tgt := 164) dX7_exchangesOf_55 (by decide) rfl (fun hc55 => ?_) (fun hc55 => ?_)
              · omega
              · refine pn_aload_n (q := 59) dX7_exchangesOf_58 rfl rfl rfl ?_
                refine pn_get (q := 62) fX7_41 dX7_exchangesOf_59 rfl rfl rfl ?_
                refine pn_iload (q := 64) dX7_exchangesOf_62 rfl rfl ?_
                refine pn_lald5 (q := 65) dX7_exchangesOf_64 rfl rfl rfl (by omega) (by omega) ?_
                refine pn_lstore (q := 67) dX7_exchangesOf_65 rfl (by decide) ?_
                refine pn_lload (q := 69) dX7_exchangesOf_67 rfl rfl ?_
                refine pn_lload (q := 71) dX7_exchangesOf_69 rfl rfl ?_
                refine pn_ldc2 (q := 74) pw_1283 dX7_exchangesOf_71 rfl ?_
                refine pn_lxor (q := 75) dX7_exchangesOf_74 rfl ?_
                refine pn_land (q := 76) dX7_exchangesOf_75 rfl ?_
                refine pn_lconst (q := 77) (v := lN 0) dX7_exchangesOf_76 rfl (by decide) ?_
                refine pn_lne (q1 := 78) (q := 81) (tgt := 158) dX7_exchangesOf_77 rfl dX7_exchangesOf_78 (by decide) rfl (fun hc77 => ?_) (fun hc77 => ?_)
                · exact (hc77 q1).elim
                · refine pn_lload (q := 83) dX7_exchangesOf_81 rfl rfl ?_
                  refine pn_aload_n (q := 84) dX7_exchangesOf_83 rfl rfl rfl ?_
                  refine pn_get (q := 87) fX7_20 dX7_exchangesOf_84 rfl rfl rfl ?_
                  refine pn_bipush (q := 89) (v := nI 30) dX7_exchangesOf_87 rfl (by decide) ?_
                  refine pn_iload_n (q := 90) dX7_exchangesOf_89 rfl rfl ?_
                  first | with_reducible refine pn_iaddN (q := 91) dX7_exchangesOf_90 rfl ?_ | refine pn_iadd (q := 91) dX7_exchangesOf_90 rfl ?_
                  refine pn_lald1 (q := 92) dX7_exchangesOf_91 rfl rfl rfl (by omega) (by decide) ?_; rw [ep]
                  refine pn_leq (q1 := 93) (q := 96) (tgt := 158) dX7_exchangesOf_92 rfl dX7_exchangesOf_93 (by decide) rfl (fun hc92 => ?_) (fun hc92 => ?_)
                  · exact (q2 hc92).elim
                  · refine pn_lload (q := 98) dX7_exchangesOf_96 rfl rfl ?_
                    refine pn_aload_n (q := 99) dX7_exchangesOf_98 rfl rfl rfl ?_
                    refine pn_get (q := 102) fX7_20 dX7_exchangesOf_99 rfl rfl rfl ?_
                    refine pn_bipush (q := 104) (v := nI 30) dX7_exchangesOf_102 rfl (by decide) ?_
                    refine pn_iload_n (q := 105) dX7_exchangesOf_104 rfl rfl ?_
                    first | with_reducible refine pn_iaddN (q := 106) dX7_exchangesOf_105 rfl ?_ | refine pn_iadd (q := 106) dX7_exchangesOf_105 rfl ?_
                    refine pn_lald1 (q := 107) dX7_exchangesOf_106 rfl rfl rfl (by omega) (by decide) ?_; rw [eq]
                    refine pn_leq (q1 := 108) (q := 111) (tgt := 158) dX7_exchangesOf_107 rfl dX7_exchangesOf_108 (by decide) rfl (fun hc107 => ?_) (fun hc107 => ?_)
                    · exact (q3 hc107).elim
                    · refine pn_aload_n (q := 112) dX7_exchangesOf_111 rfl rfl rfl ?_
                      refine pn_lload (q := 114) dX7_exchangesOf_112 rfl rfl ?_
                      refine pn_lload (q := 116) dX7_exchangesOf_114 rfl rfl ?_
                      refine pn_ldc2 (q := 119) pw_1283 dX7_exchangesOf_116 rfl ?_
                      refine pn_lxor (q := 120) dX7_exchangesOf_119 rfl ?_
                      refine pn_land (q := 121) dX7_exchangesOf_120 rfl ?_
                      refine pn_idV (q := 124) (bc9 := 0) (bs9 := 0) (CI) lkX7_278 dX7_exchangesOf_121 rfl rfl (hM_cl) (hM_cl) (Nat.le_of_ble_eq_true rfl) rfl rfl rfl rfl rfl rfl (by omega) (by omega) (by omega) (Nat.le_of_ble_eq_true rfl) ?_
                      refine pn_bne (q := 127) (tgt := 130) dX7_exchangesOf_124 (by decide) rfl (fun hc124 => ?_) (fun hc124 => ?_)
                      · cases hc124
                      · refine pn_goto (q := 158) dX7_exchangesOf_127 (by decide) ?_
                        exact k9
      · rw [decide_eq_false q1, Bool.false_and] at eB
        have k9 := no eB
        refine pn_iload (q := 46) dX7_exchangesOf_44 rfl rfl ?_
        refine pn_aload_n (q := 47) dX7_exchangesOf_46 rfl rfl rfl ?_
        refine pn_get (q := 50) fX7_47 dX7_exchangesOf_47 rfl rfl rfl ?_
        refine pn_iload (q := 52) dX7_exchangesOf_50 rfl rfl ?_
        refine pn_iconst (q := 53) (v := nI 1) dX7_exchangesOf_52 rfl (by decide) ?_
        first | with_reducible refine pn_iaddN (q := 54) dX7_exchangesOf_53 rfl ?_ | refine pn_iadd (q := 54) dX7_exchangesOf_53 rfl ?_
        refine pn_iald (q := 55) dX7_exchangesOf_54 rfl rfl rfl (by omega) (by first | decide | omega) ?_
        first | refine pn_nge (q := 58) (tgt := 164) dX7_exchangesOf_55 (by decide) rfl (by omega) (by omega) (fun hc55 => ?_) (fun hc55 => ?_) | refine pn_icmp_ge (q := 58) (tgt := 164) dX7_exchangesOf_55 (by decide) rfl (fun hc55 => ?_) (fun hc55 => ?_)
        · omega
        · refine pn_aload_n (q := 59) dX7_exchangesOf_58 rfl rfl rfl ?_
          refine pn_get (q := 62) fX7_41 dX7_exchangesOf_59 rfl rfl rfl ?_
          refine pn_iload (q := 64) dX7_exchangesOf_62 rfl rfl ?_
          refine pn_lald5 (q := 65) dX7_exchangesOf_64 rfl rfl rfl (by omega) (by omega) ?_
          refine pn_lstore (q := 67) dX7_exchangesOf_65 rfl (by decide) ?_
          refine pn_lload (q := 69) dX7_exchangesOf_67 rfl rfl ?_
          refine pn_lload (q := 71) dX7_exchangesOf_69 rfl rfl ?_
          refine pn_ldc2 (q := 74) pw_1283 dX7_exchangesOf_71 rfl ?_
          refine pn_lxor (q := 75) dX7_exchangesOf_74 rfl ?_
          refine pn_land (q := 76) dX7_exchangesOf_75 rfl ?_
          refine pn_lconst (q := 77) (v := lN 0) dX7_exchangesOf_76 rfl (by decide) ?_
          refine pn_lne (q1 := 78) (q := 81) (tgt := 158) dX7_exchangesOf_77 rfl dX7_exchangesOf_78 (by decide) rfl (fun hc77 => ?_) (fun hc77 => ?_)
          · exact k9
          · exact (q1 hc77).elim
  refine pn_aload_n (q := 1) dX7_exchangesOf_0 rfl rfl rfl ?_
  refine pn_idV (q := 4) (bc9 := 0) (bs9 := 0) (CL) lkX7_265 dX7_exchangesOf_1 rfl rfl (hM_cl) (hM_cl) (Nat.le_of_ble_eq_true rfl) rfl rfl rfl rfl rfl rfl (by omega) (by omega) (by omega) (Nat.le_of_ble_eq_true rfl) ?_
  refine pn_aload_n (q := 5) dX7_exchangesOf_4 rfl rfl rfl ?_
  refine pn_get (q := 8) fX7_20 dX7_exchangesOf_5 rfl rfl rfl ?_
  refine pn_bipush (q := 10) (v := nI 30) dX7_exchangesOf_8 rfl (by decide) ?_
  refine pn_iload_n (q := 11) dX7_exchangesOf_10 rfl rfl ?_
  first | with_reducible refine pn_iaddN (q := 12) dX7_exchangesOf_11 rfl ?_ | refine pn_iadd (q := 12) dX7_exchangesOf_11 rfl ?_
  refine pn_lald1 (q := 13) dX7_exchangesOf_12 rfl rfl rfl (by omega) (by decide) ?_; rw [ep]
  refine pn_aload_n (q := 14) dX7_exchangesOf_13 rfl rfl rfl ?_
  refine pn_get (q := 17) fX7_20 dX7_exchangesOf_14 rfl rfl rfl ?_
  refine pn_bipush (q := 19) (v := nI 30) dX7_exchangesOf_17 rfl (by decide) ?_
  refine pn_iload_n (q := 20) dX7_exchangesOf_19 rfl rfl ?_
  first | with_reducible refine pn_iaddN (q := 21) dX7_exchangesOf_20 rfl ?_ | refine pn_iadd (q := 21) dX7_exchangesOf_20 rfl ?_
  refine pn_lald1 (q := 22) dX7_exchangesOf_21 rfl rfl rfl (by omega) (by decide) ?_; rw [eq]
  refine pn_lor (q := 23) dX7_exchangesOf_22 rfl ?_; rw [hxy]
  refine pn_lstore (q := 25) dX7_exchangesOf_23 rfl (by decide) ?_
  refine pn_lload (q := 27) dX7_exchangesOf_25 rfl rfl ?_
  refine pn_roS1 (q := 30) (CM) lkX7_82 dX7_exchangesOf_27 rfl rfl (pnSel_of (I := []) rfl rfl) (pnFree_none rfl) rfl (by omega) (Nat.le_of_ble_eq_true rfl) rfl ?_
  refine pn_istore (q := 32) dX7_exchangesOf_30 rfl (by decide) ?_
  refine pn_iconst (q := 33) (v := nI 0) dX7_exchangesOf_32 rfl (by decide) ?_
  refine pn_istore (q := 35) dX7_exchangesOf_33 rfl (by decide) ?_
  refine pn_aload_n (q := 36) dX7_exchangesOf_35 rfl rfl rfl ?_
  refine pn_get (q := 39) fX7_47 dX7_exchangesOf_36 rfl rfl rfl ?_
  refine pn_iload (q := 41) dX7_exchangesOf_39 rfl rfl ?_
  refine pn_iald (q := 42) dX7_exchangesOf_41 rfl rfl rfl (by omega) (by first | decide | omega) ?_
  refine pn_istore (q := 44) dX7_exchangesOf_42 rfl (by decide) ?_
  exact loop (e1.2.2.2.2.1 (llN v + 1) - e1.2.2.2.2.1 (llN v)) (e1.2.2.2.2.1 (llN v)) 0 f [] (by omega) (by omega) (by omega) hR
