/-- the rows that are taken become the way -/
def waF (f : Nat → Int64) (R : Nat) (tk : Nat → Nat) (way : Nat → Int64) : Nat → Nat → Int64
  | 0 => way
  | i + 1 => if tk i < R then vp_updL (waF f R tk way i) i (f (tk i)) else waF f R tk way i
set_option maxRecDepth 100000 in
theorem c_arrive (adK : Nat → Nat) (d : Nat) (c R : Nat) (f : Nat → Int64) (sN : Nat → Nat) (fd : Int64) (n sh k : Nat) (g : Int64) (pl : Nat) (ch : Nat → Int32) (ways steps : Nat) (cut : Bool) (wl : Nat) (way : Nat → Int64) (tk : Nat → Nat) (whole : Bool) (left : Int64) (n1 sh1 k1 dp : Nat) (hR : R ≤ 60000) (hdp : dp ≤ 55) (hw : ways ≤ 30000) (htk : ∀ j, tk j ≤ 60000) : pnCt mX5_arrive adK d 0 0 [.ref 0, .ref 3, .int (nI dp)] (hWalk ways steps cut wl way tk whole left n1 sh1 k1 ++ (hCatO 3 c R f (fun j => nI (sN j)) fd n sh k g pl ch)) (pnIs (.inl none) (hWalk (ways + 1) steps cut (if ways = 0 then dp else wl) (if ways = 0 then waF f R tk way dp else way) tk whole left n1 sh1 k1 ++ (hCatO 3 c R f (fun j => nI (sN j)) fd n sh k g pl ch))) := by
  refine pnCt_of (by decide) kX5_arrive (Nat.le_of_ble_eq_true rfl) rfl (pnCH_b rfl) (pnCS_b rfl) ?_
  have fin : ∀ (wl2 : Nat) (way2 : Nat → Int64) (L : List (Option Value)), pnWP mX5_arrive adK d (pnIs (.inl none) (hWalk (ways + 1) steps cut wl2 way2 tk whole left n1 sh1 k1 ++ (hCatO 3 c R f (fun j => nI (sN j)) fd n sh k g pl ch))) 0 0 (hWalk ways steps cut wl2 way2 tk whole left n1 sh1 k1 ++ (hCatO 3 c R f (fun j => nI (sN j)) fd n sh k g pl ch)) [some (.ref 0)] [] 70 := by
    intro wl2 way2 L
    refine pn_aload_n (q := 71) dX5_arrive_70 rfl rfl rfl ?_
    refine pn_dup (q := 72) dX5_arrive_71 rfl rfl ?_
    refine pn_get (q := 75) fX5_9 dX5_arrive_72 rfl rfl rfl ?_
    refine pn_iconst (q := 76) (v := nI 1) dX5_arrive_75 rfl (by decide) ?_
    first | with_reducible refine pn_iaddN (q := 77) dX5_arrive_76 rfl ?_ | refine pn_iadd (q := 77) dX5_arrive_76 rfl ?_
    refine pn_put (q := 80) fX5_9 dX5_arrive_77 rfl rfl (Nat.le_of_ble_eq_true rfl) (pnF_int _) ?_
    refine pn_vret dX5_arrive_80 rfl ?_
    exact ⟨rfl, rfl⟩
  by_cases e : ways = 0
  · rw [if_pos e, if_pos e]
    have loop : ∀ (z i : Nat), i + z = dp → pnWP mX5_arrive adK d (pnIs (.inl none) (hWalk (ways + 1) steps cut dp (waF f R tk way dp) tk whole left n1 sh1 k1 ++ (hCatO 3 c R f (fun j => nI (sN j)) fd n sh k g pl ch))) 0 0 (hWalk ways steps cut dp (waF f R tk way i) tk whole left n1 sh1 k1 ++ (hCatO 3 c R f (fun j => nI (sN j)) fd n sh k g pl ch)) [some (.ref 0), some (.ref 3), some (.int (nI dp)), some (.int (nI i))] [] 14 := by
      intro z
      induction z with
      | zero =>
        intro i hz
        have hi : i = dp := by omega
        subst hi
        refine pn_iload_n (q := 15) dX5_arrive_14 rfl rfl ?_
        refine pn_iload_n (q := 16) dX5_arrive_15 rfl rfl ?_
        first | refine pn_nge (q := 19) (tgt := 70) dX5_arrive_16 (by decide) rfl (by omega) (by omega) (fun hc16 => ?_) (fun hc16 => ?_) | refine pn_icmp_ge (q := 19) (tgt := 70) dX5_arrive_16 (by decide) rfl (fun hc16 => ?_) (fun hc16 => ?_)
        · exact pn_take 1 (fin _ _ [])
        · omega
      | succ z ih =>
        intro i hz
        have hti := htk i
        have k9 := ih (i + 1) (by omega)
        have e2 : waF f R tk way (i + 1) = if tk i < R then vp_updL (waF f R tk way i) i (f (tk i)) else waF f R tk way i := rfl
        refine pn_iload_n (q := 15) dX5_arrive_14 rfl rfl ?_
        refine pn_iload_n (q := 16) dX5_arrive_15 rfl rfl ?_
        first | refine pn_nge (q := 19) (tgt := 70) dX5_arrive_16 (by decide) rfl (by omega) (by omega) (fun hc16 => ?_) (fun hc16 => ?_) | refine pn_icmp_ge (q := 19) (tgt := 70) dX5_arrive_16 (by decide) rfl (fun hc16 => ?_) (fun hc16 => ?_)
        · omega
        · refine pn_iload_n (q := 20) dX5_arrive_19 rfl rfl ?_
          refine pn_aload_n (q := 21) dX5_arrive_20 rfl rfl rfl ?_
          refine pn_get (q := 24) fX5_29 dX5_arrive_21 rfl rfl rfl ?_
          refine pn_alen (q := 25) dX5_arrive_24 rfl rfl (by decide) ?_
          first | refine pn_nge (q := 28) (tgt := 70) dX5_arrive_25 (by decide) rfl (by omega) (by omega) (fun hc25 => ?_) (fun hc25 => ?_) | refine pn_icmp_ge (q := 28) (tgt := 70) dX5_arrive_25 (by decide) rfl (fun hc25 => ?_) (fun hc25 => ?_)
          · omega
          · refine pn_aload_n (q := 29) dX5_arrive_28 rfl rfl rfl ?_
            refine pn_get (q := 32) fX5_29 dX5_arrive_29 rfl rfl rfl ?_
            refine pn_iload_n (q := 33) dX5_arrive_32 rfl rfl ?_
            refine pn_iald (q := 34) dX5_arrive_33 rfl rfl rfl (by omega) (by first | decide | omega) ?_
            refine pn_istore (q := 36) dX5_arrive_34 rfl (by decide) ?_
            refine pn_iload (q := 38) dX5_arrive_36 rfl rfl ?_
            first | refine pn_zlt (q := 41) (tgt := 64) dX5_arrive_38 (by decide) rfl (by omega) (fun hc38 => ?_) (fun hc38 => ?_) | refine pn_if_lt (q := 41) (tgt := 64) dX5_arrive_38 (by decide) rfl (fun hc38 => ?_) (fun hc38 => ?_)
            · exact hc38.elim
            · refine pn_iload (q := 43) dX5_arrive_41 rfl rfl ?_
              refine pn_aload_n (q := 44) dX5_arrive_43 rfl rfl rfl ?_
              refine pn_get (q := 47) fX5_67 dX5_arrive_44 rfl rfl rfl ?_
              refine pn_alen (q := 48) dX5_arrive_47 rfl rfl (by decide) ?_
              first | refine pn_nge (q := 51) (tgt := 64) dX5_arrive_48 (by decide) rfl (by omega) (by omega) (fun hc48 => ?_) (fun hc48 => ?_) | refine pn_icmp_ge (q := 51) (tgt := 64) dX5_arrive_48 (by decide) rfl (fun hc48 => ?_) (fun hc48 => ?_)
              · first | refine pn_iinc1 (q := 67) dX5_arrive_64 rfl rfl (by decide) ?_ | refine pn_iinc (q := 67) (mm := 1) dX5_arrive_64 rfl rfl (by decide) (by decide) ?_
                refine pn_goto (q := 14) dX5_arrive_67 (by decide) ?_
                first | (rw [e2, if_pos (by omega)] at k9; exact pn_take 4 k9) | (rw [e2, if_neg (by omega)] at k9; exact pn_take 4 k9)
              · refine pn_aload_n (q := 52) dX5_arrive_51 rfl rfl rfl ?_
                refine pn_get (q := 55) fX5_25 dX5_arrive_52 rfl rfl rfl ?_
                refine pn_iload_n (q := 56) dX5_arrive_55 rfl rfl ?_
                refine pn_aload_n (q := 57) dX5_arrive_56 rfl rfl rfl ?_
                refine pn_get (q := 60) fX5_67 dX5_arrive_57 rfl rfl rfl ?_
                refine pn_iload (q := 62) dX5_arrive_60 rfl rfl ?_
                first | refine pn_lald5 (q := 63) dX5_arrive_62 rfl rfl rfl (by omega) (by first | decide | omega) ?_ | refine pn_lald1 (q := 63) dX5_arrive_62 rfl rfl rfl (by omega) (by first | decide | omega) ?_
                first | refine pn_last5 (q := 64) dX5_arrive_63 rfl rfl rfl (by omega) (by first | decide | omega) ?_ | refine pn_last1 (q := 64) dX5_arrive_63 rfl rfl rfl (by omega) (by first | decide | omega) ?_
                first | refine pn_iinc1 (q := 67) dX5_arrive_64 rfl rfl (by decide) ?_ | refine pn_iinc (q := 67) (mm := 1) dX5_arrive_64 rfl rfl (by decide) (by decide) ?_
                refine pn_goto (q := 14) dX5_arrive_67 (by decide) ?_
                first | (rw [e2, if_pos (by omega)] at k9; exact pn_take 4 k9) | (rw [e2, if_neg (by omega)] at k9; exact pn_take 4 k9)
    refine pn_aload_n (q := 1) dX5_arrive_0 rfl rfl rfl ?_
    refine pn_get (q := 4) fX5_9 dX5_arrive_1 rfl rfl rfl ?_
    first | refine pn_zne (q := 7) (tgt := 70) dX5_arrive_4 (by decide) rfl (by omega) (fun hc4 => ?_) (fun hc4 => ?_) | refine pn_if_ne (q := 7) (tgt := 70) dX5_arrive_4 (by decide) rfl (fun hc4 => ?_) (fun hc4 => ?_)
    · omega
    · refine pn_aload_n (q := 8) dX5_arrive_7 rfl rfl rfl ?_
      refine pn_iload_n (q := 9) dX5_arrive_8 rfl rfl ?_
      refine pn_put (q := 12) fX5_22 dX5_arrive_9 rfl rfl (Nat.le_of_ble_eq_true rfl) (pnF_int _) ?_
      refine pn_iconst (q := 13) (v := nI 0) dX5_arrive_12 rfl (by decide) ?_
      refine pn_istore_n (q := 14) dX5_arrive_13 rfl (by decide) ?_
      exact loop dp 0 (by omega)
  · rw [if_neg e, if_neg e]
    refine pn_aload_n (q := 1) dX5_arrive_0 rfl rfl rfl ?_
    refine pn_get (q := 4) fX5_9 dX5_arrive_1 rfl rfl rfl ?_
    first | refine pn_zne (q := 7) (tgt := 70) dX5_arrive_4 (by decide) rfl (by omega) (fun hc4 => ?_) (fun hc4 => ?_) | refine pn_if_ne (q := 7) (tgt := 70) dX5_arrive_4 (by decide) rfl (fun hc4 => ?_) (fun hc4 => ?_)
    · exact pn_take 1 (fin _ _ [])
    · omega
/-- the walk: turns left, rest, depth, next row, rows taken, ways, steps, length of the way, way -/
def wkS (f : Nat → Int64) (R : Nat) (sN : Nat → Nat) (c : Nat) (once : Bool) : Nat → Int64 → Nat → Nat → (Nat → Nat) → Nat → Nat → Nat → (Nat → Int64) → Nat × Nat × Bool × Nat × (Nat → Int64) × (Nat → Nat)
  | 0, _, _, _, tk, ways, steps, wl, way => (ways, steps, false, wl, way, tk)
  | z + 1, rest, dp, fr, tk, ways, steps, wl, way =>
    match nrN f sN rest fr with
    | some row =>
      if steps = 20000 then (ways, steps, true, wl, way, tk) else
      if dp < 55 then
        if rest &&& (f row ^^^ (-1)) = 0 then
          if once = true then (ways + 1, steps + 1, false, (if ways = 0 then dp + 1 else wl), (if ways = 0 then waF f R (updN tk dp row) way (dp + 1) else way), updN tk dp row)
          else wkS f R sN c once z (rest &&& (f row ^^^ (-1))) (dp + 1) (frN sN c (rest &&& (f row ^^^ (-1)))) (updN tk dp row) (ways + 1) (steps + 1) (if ways = 0 then dp + 1 else wl) (if ways = 0 then waF f R (updN tk dp row) way (dp + 1) else way)
        else if once = true ∧ 0 < ways then (ways, steps + 1, false, wl, way, updN tk dp row)
        else wkS f R sN c once z (rest &&& (f row ^^^ (-1))) (dp + 1) (frN sN c (rest &&& (f row ^^^ (-1)))) (updN tk dp row) ways (steps + 1) wl way
      else wkS f R sN c once z (rest ||| (if tk (dp - 1) < R then f (tk (dp - 1)) else 0)) (dp - 1) (tk (dp - 1) + 1) tk ways steps wl way
    | none => if 0 < dp then wkS f R sN c once z (rest ||| (if tk (dp - 1) < R then f (tk (dp - 1)) else 0)) (dp - 1) (tk (dp - 1) + 1) tk ways steps wl way else (ways, steps, false, wl, way, tk)
def hWR (r : Nat × Nat × Bool × Nat × (Nat → Int64) × (Nat → Nat)) (whole : Bool) (left : Int64) (n sh k : Nat) : List pnE := hWalk r.1 r.2.1 r.2.2.1 r.2.2.2.1 r.2.2.2.2.1 r.2.2.2.2.2 whole left n sh k
