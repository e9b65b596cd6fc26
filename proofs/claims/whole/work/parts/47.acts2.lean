abbrev NS : Type := Nat × Int64 × Nat × Nat × Nat × Nat × (Nat → Int64) × (Nat → Int32) × (Nat → Int32)
def hNS (o : Nat) (s : NS) : List pnE := hNetO o s.1 s.2.1 s.2.2.1 s.2.2.2.1 s.2.2.2.2.1 s.2.2.2.2.2.1 s.2.2.2.2.2.2.1 s.2.2.2.2.2.2.2.1 s.2.2.2.2.2.2.2.2
def nsF (s : NS) : Nat → Int32 := s.2.2.2.2.2.2.2.2
/-- s as a net is after become: its own shifted row stays -/
def nsB (s : NS) (f : Nat → Int32) : NS := (s.1, s.2.1, s.2.2.1, s.2.2.2.1, s.2.2.2.2.1, s.2.2.2.2.2.1, s.2.2.2.2.2.2.1, s.2.2.2.2.2.2.2.1, f)
def slF : Nat → Option Nat := fun j => if j < 8 then some (2 + 4 * j) else none
def hActs (cnt nxt : Nat) (S : Nat → NS) : List pnE := [.inr (0, [.int (nI cnt), .int (nI nxt), .ref 1]), .inl (3, 8, .inr (.inr (.inr (.inr slF))))] ++ (hNS 2 (S 0) ++ (hNS 6 (S 1) ++ (hNS 10 (S 2) ++ (hNS 14 (S 3) ++ (hNS 18 (S 4) ++ (hNS 22 (S 5) ++ (hNS 26 (S 6) ++ hNS 30 (S 7))))))))
theorem slF_lt {j x : Nat} (h : slF j = some x) : x < 34 := by
  unfold slF at h
  split at h
  · cases h; omega
  · cases h
theorem hActs_cl (cnt nxt : Nat) (S : Nat → NS) : pnCH (hActs cnt nxt S) := pnCH_q rfl (fun g hg j x e => by
  have hg : g ∈ [slF] := hg
  rw [List.mem_singleton] at hg
  subst hg
  exact slF_lt e)
theorem hActsN_cl (cnt nxt : Nat) (S : Nat → NS) (s : NS) : pnCH (hActs cnt nxt S ++ hNS 34 s) := pnCH_q rfl (fun g hg j x e => by
  have hg : g ∈ [slF] := hg
  rw [List.mem_singleton] at hg
  subst hg
  exact Nat.lt_of_lt_of_le (slF_lt e) (Nat.le_of_ble_eq_true rfl))
set_option maxRecDepth 100000 in
theorem c_slotAt (adK : Nat → Nat) (d cnt nxt : Nat) (S : Nat → NS) (s : NS) (j : Nat) (hj : j < 8) : pnCt mX0_slotAt adK d 0 0 [.ref 0, .int (nI j)] (hActs cnt nxt S ++ hNS 34 s) (pnIs (.inl (some (.ref (2 + 4 * j)))) (hActs cnt nxt S ++ hNS 34 s)) := by
  refine pnCt_of (by decide) kX0_slotAt (Nat.le_of_ble_eq_true rfl) rfl (hActsN_cl _ _ _ _) (pnCS_b rfl) ?_
  refine pn_iload_n (q := 1) dX0_slotAt_0 rfl rfl ?_
  first | refine pn_zlt (q := 4) (tgt := 22) dX0_slotAt_1 (by decide) rfl (by omega) (fun hc1 => ?_) (fun hc1 => ?_) | refine pn_if_lt (q := 4) (tgt := 22) dX0_slotAt_1 (by decide) rfl (fun hc1 => ?_) (fun hc1 => ?_)
  · exact hc1.elim
  · refine pn_iload_n (q := 5) dX0_slotAt_4 rfl rfl ?_
    refine pn_aload_n (q := 6) dX0_slotAt_5 rfl rfl rfl ?_
    refine pn_get (q := 9) fX0_20 dX0_slotAt_6 rfl rfl rfl ?_
    refine pn_alen (q := 10) dX0_slotAt_9 rfl rfl (by decide) ?_
    first | refine pn_nge (q := 13) (tgt := 22) dX0_slotAt_10 (by decide) rfl (by omega) (by omega) (fun hc10 => ?_) (fun hc10 => ?_) | refine pn_icmp_ge (q := 13) (tgt := 22) dX0_slotAt_10 (by decide) rfl (fun hc10 => ?_) (fun hc10 => ?_)
    · omega
    · refine pn_aload_n (q := 14) dX0_slotAt_13 rfl rfl rfl ?_
      refine pn_get (q := 17) fX0_20 dX0_slotAt_14 rfl rfl rfl ?_
      refine pn_iload_n (q := 18) dX0_slotAt_17 rfl rfl ?_
      refine pn_aald (q := 19) (Or.inl rfl) dX0_slotAt_18 rfl rfl rfl (by omega) (by decide) ?_; refine pn_eq (h' := _) (st' := [.ref (2 + 4 * j)]) rfl (by show [pnRf (slF j)] = _; unfold slF; rw [if_pos hj]; rfl) ?_
      refine pn_goto (q := 23) dX0_slotAt_19 (by decide) ?_
      refine pn_aret dX0_slotAt_23 rfl (by first | exact Or.inl ⟨_, rfl⟩ | exact Or.inr ⟨_, rfl⟩) rfl ?_
      exact ⟨rfl, rfl⟩
def upS (S : Nat → NS) (j : Nat) (s : NS) : Nat → NS := fun i => if i = j then s else S i
set_option maxRecDepth 100000 in
theorem c_keep0 (adK : Nat → Nat) (d cnt : Nat) (S : Nat → NS) (s : NS) (hc : cnt ≤ 8) : pnCt mX0_keep adK (d + 2) 0 0 [.ref 0, .ref 34] (hActs cnt 0 S ++ hNS 34 s) (pnIs (.inl none) (hActs (min (cnt + 1) 8) 1 (upS S 0 (nsB s (nsF (S 0)))) ++ hNS 34 s)) := by
  refine pnCt_of (by decide) kX0_keep (Nat.le_of_ble_eq_true rfl) rfl (hActsN_cl _ _ _ _) (pnCS_b rfl) ?_
  refine pn_aload_n (q := 1) dX0_keep_0 rfl rfl rfl ?_
  refine pn_aload_n (q := 2) dX0_keep_1 rfl rfl rfl ?_
  refine pn_get (q := 5) fX0_15 dX0_keep_2 rfl rfl rfl ?_
  refine pn_idV (q := 8) (bc9 := 0) (bs9 := 0) (c_slotAt adK d cnt 0 S s 0 (by decide)) lkX0_25 dX0_keep_5 rfl rfl (hActsN_cl _ _ _ _) (hActsN_cl _ _ _ _) (Nat.le_of_ble_eq_true rfl) rfl rfl rfl rfl rfl rfl (by omega) (by omega) (by omega) (Nat.le_of_ble_eq_true rfl) ?_
  refine pn_astore_n (q := 9) dX0_keep_8 rfl (by decide) rfl ?_
  refine pn_aload_n (q := 10) dX0_keep_9 rfl rfl rfl ?_
  refine pn_ifnull_ref (q := 13) dX0_keep_10 rfl ?_
  refine pn_aload_n (q := 14) dX0_keep_13 rfl rfl rfl ?_
  refine pn_aload_n (q := 15) dX0_keep_14 rfl rfl rfl ?_
  refine pn_upV0 (q := 18) (bc9 := 0) (bs9 := 0) (c_become adK d (S 0).1 (S 0).2.1 (S 0).2.2.1 (S 0).2.2.2.1 (S 0).2.2.2.2.1 (S 0).2.2.2.2.2.1 (S 0).2.2.2.2.2.2.1 (S 0).2.2.2.2.2.2.2.1 (S 0).2.2.2.2.2.2.2.2 s.1 s.2.1 s.2.2.1 s.2.2.2.1 s.2.2.2.2.1 s.2.2.2.2.2.1 s.2.2.2.2.2.2.1 s.2.2.2.2.2.2.2.1 s.2.2.2.2.2.2.2.2) lkX0_29 dX0_keep_15 rfl rfl (pnSel_of (I := [2, 3, 4, 5, 34, 35, 36, 37]) rfl rfl) (pnFree_none rfl) rfl rfl rfl (by omega) (by omega) (by omega) (Nat.le_of_ble_eq_true rfl) ?_
  refine pn_eq (h' := (hActs cnt 0 (upS S 0 (nsB s (nsF (S 0)))) ++ hNS 34 s)) (st' := _) rfl rfl ?_
  refine pn_aload_n (q := 19) dX0_keep_18 rfl rfl rfl ?_
  refine pn_aload_n (q := 20) dX0_keep_19 rfl rfl rfl ?_
  refine pn_get (q := 23) fX0_15 dX0_keep_20 rfl rfl rfl ?_
  refine pn_iconst (q := 24) (v := nI 1) dX0_keep_23 rfl (by decide) ?_
  first | with_reducible refine pn_iaddN (q := 25) dX0_keep_24 rfl ?_ | refine pn_iadd (q := 25) dX0_keep_24 rfl ?_
  refine pn_bipush (q := 27) (v := nI 8) dX0_keep_25 rfl (by decide) ?_
  first | refine pn_nne (q := 30) (tgt := 34) dX0_keep_27 (by decide) rfl (by omega) (by omega) (fun hc27 => ?_) (fun hc27 => ?_) | refine pn_icmp_ne (q := 30) (tgt := 34) dX0_keep_27 (by decide) rfl (fun hc27 => ?_) (fun hc27 => ?_)
  · refine pn_aload_n (q := 35) dX0_keep_34 rfl rfl rfl ?_
    refine pn_get (q := 38) fX0_15 dX0_keep_35 rfl rfl rfl ?_
    refine pn_iconst (q := 39) (v := nI 1) dX0_keep_38 rfl (by decide) ?_
    first | with_reducible refine pn_iaddN (q := 40) dX0_keep_39 rfl ?_ | refine pn_iadd (q := 40) dX0_keep_39 rfl ?_
    refine pn_put (q := 43) fX0_15 dX0_keep_40 rfl rfl (Nat.le_of_ble_eq_true rfl) (pnF_int _) ?_
    refine pn_aload_n (q := 44) dX0_keep_43 rfl rfl rfl ?_
    refine pn_aload_n (q := 45) dX0_keep_44 rfl rfl rfl ?_
    refine pn_get (q := 48) fX0_9 dX0_keep_45 rfl rfl rfl ?_
    refine pn_iconst (q := 49) (v := nI 1) dX0_keep_48 rfl (by decide) ?_
    first | with_reducible refine pn_iaddN (q := 50) dX0_keep_49 rfl ?_ | refine pn_iadd (q := 50) dX0_keep_49 rfl ?_
    refine pn_bipush (q := 52) (v := nI 8) dX0_keep_50 rfl (by decide) ?_
    refine pn_roS1 (q := 55) (c_min adK d (cnt + 1) 8 (by omega) (by omega)) lkX0_33 dX0_keep_52 rfl rfl (pnSel_of (I := []) rfl rfl) (pnFree_none rfl) rfl (by omega) (Nat.le_of_ble_eq_true rfl) rfl ?_
    refine pn_put (q := 58) fX0_9 dX0_keep_55 rfl rfl (Nat.le_of_ble_eq_true rfl) (pnF_int _) ?_
    refine pn_vret dX0_keep_58 rfl ?_
    exact ⟨rfl, rfl⟩
  · omega
set_option maxRecDepth 100000 in
theorem c_takeBack0 (adK : Nat → Nat) (d cnt : Nat) (S : Nat → NS) (s : NS) (hc : cnt ≤ 8) (hc1 : 0 < cnt) : pnCt mX0_takeBack adK (d + 2) 0 0 [.ref 0, .ref 34] (hActs cnt 0 S ++ hNS 34 s) (pnIs (.inl none) (hActs (cnt - 1) 7 S ++ hNS 34 (nsB (S 7) (nsF s)))) := by
  refine pnCt_of (by decide) kX0_takeBack (Nat.le_of_ble_eq_true rfl) rfl (hActsN_cl _ _ _ _) (pnCS_b rfl) ?_
  refine pn_aload_n (q := 1) dX0_takeBack_0 rfl rfl rfl ?_
  refine pn_get (q := 4) fX0_15 dX0_takeBack_1 rfl rfl rfl ?_
  first | refine pn_zne (q := 7) (tgt := 12) dX0_takeBack_4 (by decide) rfl (by omega) (fun hc4 => ?_) (fun hc4 => ?_) | refine pn_if_ne (q := 7) (tgt := 12) dX0_takeBack_4 (by decide) rfl (fun hc4 => ?_) (fun hc4 => ?_)
  · omega
  · refine pn_bipush (q := 9) (v := nI 7) dX0_takeBack_7 rfl (by decide) ?_
    refine pn_goto (q := 18) dX0_takeBack_9 (by decide) ?_
    refine pn_istore_n (q := 19) dX0_takeBack_18 rfl (by decide) ?_
    refine pn_aload_n (q := 20) dX0_takeBack_19 rfl rfl rfl ?_
    refine pn_iload_n (q := 21) dX0_takeBack_20 rfl rfl ?_
    refine pn_idV (q := 24) (bc9 := 0) (bs9 := 0) (c_slotAt adK d cnt 0 S s 7 (by decide)) lkX0_25 dX0_takeBack_21 rfl rfl (hActsN_cl _ _ _ _) (hActsN_cl _ _ _ _) (Nat.le_of_ble_eq_true rfl) rfl rfl rfl rfl rfl rfl (by omega) (by omega) (by omega) (Nat.le_of_ble_eq_true rfl) ?_
    refine pn_astore_n (q := 25) dX0_takeBack_24 rfl (by decide) rfl ?_
    refine pn_aload_n (q := 26) dX0_takeBack_25 rfl rfl rfl ?_
    refine pn_ifnull_ref (q := 29) dX0_takeBack_26 rfl ?_
    refine pn_aload_n (q := 30) dX0_takeBack_29 rfl rfl rfl ?_
    refine pn_get (q := 33) fX0_9 dX0_takeBack_30 rfl rfl rfl ?_
    first | refine pn_zle (q := 36) (tgt := 56) dX0_takeBack_33 (by decide) rfl (by omega) (fun hc33 => ?_) (fun hc33 => ?_) | refine pn_if_le (q := 36) (tgt := 56) dX0_takeBack_33 (by decide) rfl (fun hc33 => ?_) (fun hc33 => ?_)
    · omega
    · refine pn_aload_n (q := 37) dX0_takeBack_36 rfl rfl rfl ?_
      refine pn_aload_n (q := 38) dX0_takeBack_37 rfl rfl rfl ?_
      refine pn_upV0 (q := 41) (bc9 := 0) (bs9 := 0) (c_become adK d s.1 s.2.1 s.2.2.1 s.2.2.2.1 s.2.2.2.2.1 s.2.2.2.2.2.1 s.2.2.2.2.2.2.1 s.2.2.2.2.2.2.2.1 s.2.2.2.2.2.2.2.2 (S 7).1 (S 7).2.1 (S 7).2.2.1 (S 7).2.2.2.1 (S 7).2.2.2.2.1 (S 7).2.2.2.2.2.1 (S 7).2.2.2.2.2.2.1 (S 7).2.2.2.2.2.2.2.1 (S 7).2.2.2.2.2.2.2.2) lkX0_29 dX0_takeBack_38 rfl rfl (pnSel_of (I := [34, 35, 36, 37, 30, 31, 32, 33]) rfl rfl) (pnFree_none rfl) rfl rfl rfl (by omega) (by omega) (by omega) (Nat.le_of_ble_eq_true rfl) ?_
      refine pn_eq (h' := (hActs cnt 0 S ++ hNS 34 (nsB (S 7) (nsF s)))) (st' := _) rfl rfl ?_
      refine pn_aload_n (q := 42) dX0_takeBack_41 rfl rfl rfl ?_
      refine pn_iload_n (q := 43) dX0_takeBack_42 rfl rfl ?_
      refine pn_put (q := 46) fX0_15 dX0_takeBack_43 rfl rfl (Nat.le_of_ble_eq_true rfl) (pnF_int _) ?_
      refine pn_aload_n (q := 47) dX0_takeBack_46 rfl rfl rfl ?_
      refine pn_dup (q := 48) dX0_takeBack_47 rfl rfl ?_
      refine pn_get (q := 51) fX0_9 dX0_takeBack_48 rfl rfl rfl ?_
      refine pn_iconst (q := 52) (v := nI 1) dX0_takeBack_51 rfl (by decide) ?_
      first | with_reducible refine pn_isubN (q := 53) dX0_takeBack_52 rfl (by omega) ?_ | refine pn_isub (q := 53) dX0_takeBack_52 rfl ?_
      refine pn_put (q := 56) fX0_9 dX0_takeBack_53 rfl rfl (Nat.le_of_ble_eq_true rfl) (pnF_int _) ?_
      refine pn_vret dX0_takeBack_56 rfl ?_
      exact ⟨rfl, rfl⟩
set_option maxRecDepth 100000 in
theorem c_keep1 (adK : Nat → Nat) (d cnt : Nat) (S : Nat → NS) (s : NS) (hc : cnt ≤ 8) : pnCt mX0_keep adK (d + 2) 0 0 [.ref 0, .ref 34] (hActs cnt 1 S ++ hNS 34 s) (pnIs (.inl none) (hActs (min (cnt + 1) 8) 2 (upS S 1 (nsB s (nsF (S 1)))) ++ hNS 34 s)) := by
  refine pnCt_of (by decide) kX0_keep (Nat.le_of_ble_eq_true rfl) rfl (hActsN_cl _ _ _ _) (pnCS_b rfl) ?_
  refine pn_aload_n (q := 1) dX0_keep_0 rfl rfl rfl ?_
  refine pn_aload_n (q := 2) dX0_keep_1 rfl rfl rfl ?_
  refine pn_get (q := 5) fX0_15 dX0_keep_2 rfl rfl rfl ?_
  refine pn_idV (q := 8) (bc9 := 0) (bs9 := 0) (c_slotAt adK d cnt 1 S s 1 (by decide)) lkX0_25 dX0_keep_5 rfl rfl (hActsN_cl _ _ _ _) (hActsN_cl _ _ _ _) (Nat.le_of_ble_eq_true rfl) rfl rfl rfl rfl rfl rfl (by omega) (by omega) (by omega) (Nat.le_of_ble_eq_true rfl) ?_
  refine pn_astore_n (q := 9) dX0_keep_8 rfl (by decide) rfl ?_
  refine pn_aload_n (q := 10) dX0_keep_9 rfl rfl rfl ?_
  refine pn_ifnull_ref (q := 13) dX0_keep_10 rfl ?_
  refine pn_aload_n (q := 14) dX0_keep_13 rfl rfl rfl ?_
  refine pn_aload_n (q := 15) dX0_keep_14 rfl rfl rfl ?_
  refine pn_upV0 (q := 18) (bc9 := 0) (bs9 := 0) (c_become adK d (S 1).1 (S 1).2.1 (S 1).2.2.1 (S 1).2.2.2.1 (S 1).2.2.2.2.1 (S 1).2.2.2.2.2.1 (S 1).2.2.2.2.2.2.1 (S 1).2.2.2.2.2.2.2.1 (S 1).2.2.2.2.2.2.2.2 s.1 s.2.1 s.2.2.1 s.2.2.2.1 s.2.2.2.2.1 s.2.2.2.2.2.1 s.2.2.2.2.2.2.1 s.2.2.2.2.2.2.2.1 s.2.2.2.2.2.2.2.2) lkX0_29 dX0_keep_15 rfl rfl (pnSel_of (I := [6, 7, 8, 9, 34, 35, 36, 37]) rfl rfl) (pnFree_none rfl) rfl rfl rfl (by omega) (by omega) (by omega) (Nat.le_of_ble_eq_true rfl) ?_
  refine pn_eq (h' := (hActs cnt 1 (upS S 1 (nsB s (nsF (S 1)))) ++ hNS 34 s)) (st' := _) rfl rfl ?_
  refine pn_aload_n (q := 19) dX0_keep_18 rfl rfl rfl ?_
  refine pn_aload_n (q := 20) dX0_keep_19 rfl rfl rfl ?_
  refine pn_get (q := 23) fX0_15 dX0_keep_20 rfl rfl rfl ?_
  refine pn_iconst (q := 24) (v := nI 1) dX0_keep_23 rfl (by decide) ?_
  first | with_reducible refine pn_iaddN (q := 25) dX0_keep_24 rfl ?_ | refine pn_iadd (q := 25) dX0_keep_24 rfl ?_
  refine pn_bipush (q := 27) (v := nI 8) dX0_keep_25 rfl (by decide) ?_
  first | refine pn_nne (q := 30) (tgt := 34) dX0_keep_27 (by decide) rfl (by omega) (by omega) (fun hc27 => ?_) (fun hc27 => ?_) | refine pn_icmp_ne (q := 30) (tgt := 34) dX0_keep_27 (by decide) rfl (fun hc27 => ?_) (fun hc27 => ?_)
  · refine pn_aload_n (q := 35) dX0_keep_34 rfl rfl rfl ?_
    refine pn_get (q := 38) fX0_15 dX0_keep_35 rfl rfl rfl ?_
    refine pn_iconst (q := 39) (v := nI 1) dX0_keep_38 rfl (by decide) ?_
    first | with_reducible refine pn_iaddN (q := 40) dX0_keep_39 rfl ?_ | refine pn_iadd (q := 40) dX0_keep_39 rfl ?_
    refine pn_put (q := 43) fX0_15 dX0_keep_40 rfl rfl (Nat.le_of_ble_eq_true rfl) (pnF_int _) ?_
    refine pn_aload_n (q := 44) dX0_keep_43 rfl rfl rfl ?_
    refine pn_aload_n (q := 45) dX0_keep_44 rfl rfl rfl ?_
    refine pn_get (q := 48) fX0_9 dX0_keep_45 rfl rfl rfl ?_
    refine pn_iconst (q := 49) (v := nI 1) dX0_keep_48 rfl (by decide) ?_
    first | with_reducible refine pn_iaddN (q := 50) dX0_keep_49 rfl ?_ | refine pn_iadd (q := 50) dX0_keep_49 rfl ?_
    refine pn_bipush (q := 52) (v := nI 8) dX0_keep_50 rfl (by decide) ?_
    refine pn_roS1 (q := 55) (c_min adK d (cnt + 1) 8 (by omega) (by omega)) lkX0_33 dX0_keep_52 rfl rfl (pnSel_of (I := []) rfl rfl) (pnFree_none rfl) rfl (by omega) (Nat.le_of_ble_eq_true rfl) rfl ?_
    refine pn_put (q := 58) fX0_9 dX0_keep_55 rfl rfl (Nat.le_of_ble_eq_true rfl) (pnF_int _) ?_
    refine pn_vret dX0_keep_58 rfl ?_
    exact ⟨rfl, rfl⟩
  · omega
set_option maxRecDepth 100000 in
theorem c_takeBack1 (adK : Nat → Nat) (d cnt : Nat) (S : Nat → NS) (s : NS) (hc : cnt ≤ 8) (hc1 : 0 < cnt) : pnCt mX0_takeBack adK (d + 2) 0 0 [.ref 0, .ref 34] (hActs cnt 1 S ++ hNS 34 s) (pnIs (.inl none) (hActs (cnt - 1) 0 S ++ hNS 34 (nsB (S 0) (nsF s)))) := by
  refine pnCt_of (by decide) kX0_takeBack (Nat.le_of_ble_eq_true rfl) rfl (hActsN_cl _ _ _ _) (pnCS_b rfl) ?_
  refine pn_aload_n (q := 1) dX0_takeBack_0 rfl rfl rfl ?_
  refine pn_get (q := 4) fX0_15 dX0_takeBack_1 rfl rfl rfl ?_
  first | refine pn_zne (q := 7) (tgt := 12) dX0_takeBack_4 (by decide) rfl (by omega) (fun hc4 => ?_) (fun hc4 => ?_) | refine pn_if_ne (q := 7) (tgt := 12) dX0_takeBack_4 (by decide) rfl (fun hc4 => ?_) (fun hc4 => ?_)
  · refine pn_aload_n (q := 13) dX0_takeBack_12 rfl rfl rfl ?_
    refine pn_get (q := 16) fX0_15 dX0_takeBack_13 rfl rfl rfl ?_
    refine pn_iconst (q := 17) (v := nI 1) dX0_takeBack_16 rfl (by decide) ?_
    first | with_reducible refine pn_isubN (q := 18) dX0_takeBack_17 rfl (by omega) ?_ | refine pn_isub (q := 18) dX0_takeBack_17 rfl ?_
    refine pn_istore_n (q := 19) dX0_takeBack_18 rfl (by decide) ?_
    refine pn_aload_n (q := 20) dX0_takeBack_19 rfl rfl rfl ?_
    refine pn_iload_n (q := 21) dX0_takeBack_20 rfl rfl ?_
    refine pn_idV (q := 24) (bc9 := 0) (bs9 := 0) (c_slotAt adK d cnt 1 S s 0 (by decide)) lkX0_25 dX0_takeBack_21 rfl rfl (hActsN_cl _ _ _ _) (hActsN_cl _ _ _ _) (Nat.le_of_ble_eq_true rfl) rfl rfl rfl rfl rfl rfl (by omega) (by omega) (by omega) (Nat.le_of_ble_eq_true rfl) ?_
    refine pn_astore_n (q := 25) dX0_takeBack_24 rfl (by decide) rfl ?_
    refine pn_aload_n (q := 26) dX0_takeBack_25 rfl rfl rfl ?_
    refine pn_ifnull_ref (q := 29) dX0_takeBack_26 rfl ?_
    refine pn_aload_n (q := 30) dX0_takeBack_29 rfl rfl rfl ?_
    refine pn_get (q := 33) fX0_9 dX0_takeBack_30 rfl rfl rfl ?_
    first | refine pn_zle (q := 36) (tgt := 56) dX0_takeBack_33 (by decide) rfl (by omega) (fun hc33 => ?_) (fun hc33 => ?_) | refine pn_if_le (q := 36) (tgt := 56) dX0_takeBack_33 (by decide) rfl (fun hc33 => ?_) (fun hc33 => ?_)
    · omega
    · refine pn_aload_n (q := 37) dX0_takeBack_36 rfl rfl rfl ?_
      refine pn_aload_n (q := 38) dX0_takeBack_37 rfl rfl rfl ?_
      refine pn_upV0 (q := 41) (bc9 := 0) (bs9 := 0) (c_become adK d s.1 s.2.1 s.2.2.1 s.2.2.2.1 s.2.2.2.2.1 s.2.2.2.2.2.1 s.2.2.2.2.2.2.1 s.2.2.2.2.2.2.2.1 s.2.2.2.2.2.2.2.2 (S 0).1 (S 0).2.1 (S 0).2.2.1 (S 0).2.2.2.1 (S 0).2.2.2.2.1 (S 0).2.2.2.2.2.1 (S 0).2.2.2.2.2.2.1 (S 0).2.2.2.2.2.2.2.1 (S 0).2.2.2.2.2.2.2.2) lkX0_29 dX0_takeBack_38 rfl rfl (pnSel_of (I := [34, 35, 36, 37, 2, 3, 4, 5]) rfl rfl) (pnFree_none rfl) rfl rfl rfl (by omega) (by omega) (by omega) (Nat.le_of_ble_eq_true rfl) ?_
      refine pn_eq (h' := (hActs cnt 1 S ++ hNS 34 (nsB (S 0) (nsF s)))) (st' := _) rfl rfl ?_
      refine pn_aload_n (q := 42) dX0_takeBack_41 rfl rfl rfl ?_
      refine pn_iload_n (q := 43) dX0_takeBack_42 rfl rfl ?_
      refine pn_put (q := 46) fX0_15 dX0_takeBack_43 rfl rfl (Nat.le_of_ble_eq_true rfl) (pnF_int _) ?_
      refine pn_aload_n (q := 47) dX0_takeBack_46 rfl rfl rfl ?_
      refine pn_dup (q := 48) dX0_takeBack_47 rfl rfl ?_
      refine pn_get (q := 51) fX0_9 dX0_takeBack_48 rfl rfl rfl ?_
      refine pn_iconst (q := 52) (v := nI 1) dX0_takeBack_51 rfl (by decide) ?_
      first | with_reducible refine pn_isubN (q := 53) dX0_takeBack_52 rfl (by omega) ?_ | refine pn_isub (q := 53) dX0_takeBack_52 rfl ?_
      refine pn_put (q := 56) fX0_9 dX0_takeBack_53 rfl rfl (Nat.le_of_ble_eq_true rfl) (pnF_int _) ?_
      refine pn_vret dX0_takeBack_56 rfl ?_
      exact ⟨rfl, rfl⟩
  · omega
set_option maxRecDepth 100000 in
theorem c_keep2 (adK : Nat → Nat) (d cnt : Nat) (S : Nat → NS) (s : NS) (hc : cnt ≤ 8) : pnCt mX0_keep adK (d + 2) 0 0 [.ref 0, .ref 34] (hActs cnt 2 S ++ hNS 34 s) (pnIs (.inl none) (hActs (min (cnt + 1) 8) 3 (upS S 2 (nsB s (nsF (S 2)))) ++ hNS 34 s)) := by
  refine pnCt_of (by decide) kX0_keep (Nat.le_of_ble_eq_true rfl) rfl (hActsN_cl _ _ _ _) (pnCS_b rfl) ?_
  refine pn_aload_n (q := 1) dX0_keep_0 rfl rfl rfl ?_
  refine pn_aload_n (q := 2) dX0_keep_1 rfl rfl rfl ?_
  refine pn_get (q := 5) fX0_15 dX0_keep_2 rfl rfl rfl ?_
  refine pn_idV (q := 8) (bc9 := 0) (bs9 := 0) (c_slotAt adK d cnt 2 S s 2 (by decide)) lkX0_25 dX0_keep_5 rfl rfl (hActsN_cl _ _ _ _) (hActsN_cl _ _ _ _) (Nat.le_of_ble_eq_true rfl) rfl rfl rfl rfl rfl rfl (by omega) (by omega) (by omega) (Nat.le_of_ble_eq_true rfl) ?_
  refine pn_astore_n (q := 9) dX0_keep_8 rfl (by decide) rfl ?_
  refine pn_aload_n (q := 10) dX0_keep_9 rfl rfl rfl ?_
  refine pn_ifnull_ref (q := 13) dX0_keep_10 rfl ?_
  refine pn_aload_n (q := 14) dX0_keep_13 rfl rfl rfl ?_
  refine pn_aload_n (q := 15) dX0_keep_14 rfl rfl rfl ?_
  refine pn_upV0 (q := 18) (bc9 := 0) (bs9 := 0) (c_become adK d (S 2).1 (S 2).2.1 (S 2).2.2.1 (S 2).2.2.2.1 (S 2).2.2.2.2.1 (S 2).2.2.2.2.2.1 (S 2).2.2.2.2.2.2.1 (S 2).2.2.2.2.2.2.2.1 (S 2).2.2.2.2.2.2.2.2 s.1 s.2.1 s.2.2.1 s.2.2.2.1 s.2.2.2.2.1 s.2.2.2.2.2.1 s.2.2.2.2.2.2.1 s.2.2.2.2.2.2.2.1 s.2.2.2.2.2.2.2.2) lkX0_29 dX0_keep_15 rfl rfl (pnSel_of (I := [10, 11, 12, 13, 34, 35, 36, 37]) rfl rfl) (pnFree_none rfl) rfl rfl rfl (by omega) (by omega) (by omega) (Nat.le_of_ble_eq_true rfl) ?_
  refine pn_eq (h' := (hActs cnt 2 (upS S 2 (nsB s (nsF (S 2)))) ++ hNS 34 s)) (st' := _) rfl rfl ?_
  refine pn_aload_n (q := 19) dX0_keep_18 rfl rfl rfl ?_
  refine pn_aload_n (q := 20) dX0_keep_19 rfl rfl rfl ?_
  refine pn_get (q := 23) fX0_15 dX0_keep_20 rfl rfl rfl ?_
  refine pn_iconst (q := 24) (v := nI 1) dX0_keep_23 rfl (by decide) ?_
  first | with_reducible refine pn_iaddN (q := 25) dX0_keep_24 rfl ?_ | refine pn_iadd (q := 25) dX0_keep_24 rfl ?_
  refine pn_bipush (q := 27) (v := nI 8) dX0_keep_25 rfl (by decide) ?_
  first | refine pn_nne (q := 30) (tgt := 34) dX0_keep_27 (by decide) rfl (by omega) (by omega) (fun hc27 => ?_) (fun hc27 => ?_) | refine pn_icmp_ne (q := 30) (tgt := 34) dX0_keep_27 (by decide) rfl (fun hc27 => ?_) (fun hc27 => ?_)
  · refine pn_aload_n (q := 35) dX0_keep_34 rfl rfl rfl ?_
    refine pn_get (q := 38) fX0_15 dX0_keep_35 rfl rfl rfl ?_
    refine pn_iconst (q := 39) (v := nI 1) dX0_keep_38 rfl (by decide) ?_
    first | with_reducible refine pn_iaddN (q := 40) dX0_keep_39 rfl ?_ | refine pn_iadd (q := 40) dX0_keep_39 rfl ?_
    refine pn_put (q := 43) fX0_15 dX0_keep_40 rfl rfl (Nat.le_of_ble_eq_true rfl) (pnF_int _) ?_
    refine pn_aload_n (q := 44) dX0_keep_43 rfl rfl rfl ?_
    refine pn_aload_n (q := 45) dX0_keep_44 rfl rfl rfl ?_
    refine pn_get (q := 48) fX0_9 dX0_keep_45 rfl rfl rfl ?_
    refine pn_iconst (q := 49) (v := nI 1) dX0_keep_48 rfl (by decide) ?_
    first | with_reducible refine pn_iaddN (q := 50) dX0_keep_49 rfl ?_ | refine pn_iadd (q := 50) dX0_keep_49 rfl ?_
    refine pn_bipush (q := 52) (v := nI 8) dX0_keep_50 rfl (by decide) ?_
    refine pn_roS1 (q := 55) (c_min adK d (cnt + 1) 8 (by omega) (by omega)) lkX0_33 dX0_keep_52 rfl rfl (pnSel_of (I := []) rfl rfl) (pnFree_none rfl) rfl (by omega) (Nat.le_of_ble_eq_true rfl) rfl ?_
    refine pn_put (q := 58) fX0_9 dX0_keep_55 rfl rfl (Nat.le_of_ble_eq_true rfl) (pnF_int _) ?_
    refine pn_vret dX0_keep_58 rfl ?_
    exact ⟨rfl, rfl⟩
  · omega
set_option maxRecDepth 100000 in
theorem c_takeBack2 (adK : Nat → Nat) (d cnt : Nat) (S : Nat → NS) (s : NS) (hc : cnt ≤ 8) (hc1 : 0 < cnt) : pnCt mX0_takeBack adK (d + 2) 0 0 [.ref 0, .ref 34] (hActs cnt 2 S ++ hNS 34 s) (pnIs (.inl none) (hActs (cnt - 1) 1 S ++ hNS 34 (nsB (S 1) (nsF s)))) := by
  refine pnCt_of (by decide) kX0_takeBack (Nat.le_of_ble_eq_true rfl) rfl (hActsN_cl _ _ _ _) (pnCS_b rfl) ?_
  refine pn_aload_n (q := 1) dX0_takeBack_0 rfl rfl rfl ?_
  refine pn_get (q := 4) fX0_15 dX0_takeBack_1 rfl rfl rfl ?_
  first | refine pn_zne (q := 7) (tgt := 12) dX0_takeBack_4 (by decide) rfl (by omega) (fun hc4 => ?_) (fun hc4 => ?_) | refine pn_if_ne (q := 7) (tgt := 12) dX0_takeBack_4 (by decide) rfl (fun hc4 => ?_) (fun hc4 => ?_)
  · refine pn_aload_n (q := 13) dX0_takeBack_12 rfl rfl rfl ?_
    refine pn_get (q := 16) fX0_15 dX0_takeBack_13 rfl rfl rfl ?_
    refine pn_iconst (q := 17) (v := nI 1) dX0_takeBack_16 rfl (by decide) ?_
    first | with_reducible refine pn_isubN (q := 18) dX0_takeBack_17 rfl (by omega) ?_ | refine pn_isub (q := 18) dX0_takeBack_17 rfl ?_
    refine pn_istore_n (q := 19) dX0_takeBack_18 rfl (by decide) ?_
    refine pn_aload_n (q := 20) dX0_takeBack_19 rfl rfl rfl ?_
    refine pn_iload_n (q := 21) dX0_takeBack_20 rfl rfl ?_
    refine pn_idV (q := 24) (bc9 := 0) (bs9 := 0) (c_slotAt adK d cnt 2 S s 1 (by decide)) lkX0_25 dX0_takeBack_21 rfl rfl (hActsN_cl _ _ _ _) (hActsN_cl _ _ _ _) (Nat.le_of_ble_eq_true rfl) rfl rfl rfl rfl rfl rfl (by omega) (by omega) (by omega) (Nat.le_of_ble_eq_true rfl) ?_
    refine pn_astore_n (q := 25) dX0_takeBack_24 rfl (by decide) rfl ?_
    refine pn_aload_n (q := 26) dX0_takeBack_25 rfl rfl rfl ?_
    refine pn_ifnull_ref (q := 29) dX0_takeBack_26 rfl ?_
    refine pn_aload_n (q := 30) dX0_takeBack_29 rfl rfl rfl ?_
    refine pn_get (q := 33) fX0_9 dX0_takeBack_30 rfl rfl rfl ?_
    first | refine pn_zle (q := 36) (tgt := 56) dX0_takeBack_33 (by decide) rfl (by omega) (fun hc33 => ?_) (fun hc33 => ?_) | refine pn_if_le (q := 36) (tgt := 56) dX0_takeBack_33 (by decide) rfl (fun hc33 => ?_) (fun hc33 => ?_)
    · omega
    · refine pn_aload_n (q := 37) dX0_takeBack_36 rfl rfl rfl ?_
      refine pn_aload_n (q := 38) dX0_takeBack_37 rfl rfl rfl ?_
      refine pn_upV0 (q := 41) (bc9 := 0) (bs9 := 0) (c_become adK d s.1 s.2.1 s.2.2.1 s.2.2.2.1 s.2.2.2.2.1 s.2.2.2.2.2.1 s.2.2.2.2.2.2.1 s.2.2.2.2.2.2.2.1 s.2.2.2.2.2.2.2.2 (S 1).1 (S 1).2.1 (S 1).2.2.1 (S 1).2.2.2.1 (S 1).2.2.2.2.1 (S 1).2.2.2.2.2.1 (S 1).2.2.2.2.2.2.1 (S 1).2.2.2.2.2.2.2.1 (S 1).2.2.2.2.2.2.2.2) lkX0_29 dX0_takeBack_38 rfl rfl (pnSel_of (I := [34, 35, 36, 37, 6, 7, 8, 9]) rfl rfl) (pnFree_none rfl) rfl rfl rfl (by omega) (by omega) (by omega) (Nat.le_of_ble_eq_true rfl) ?_
      refine pn_eq (h' := (hActs cnt 2 S ++ hNS 34 (nsB (S 1) (nsF s)))) (st' := _) rfl rfl ?_
      refine pn_aload_n (q := 42) dX0_takeBack_41 rfl rfl rfl ?_
      refine pn_iload_n (q := 43) dX0_takeBack_42 rfl rfl ?_
      refine pn_put (q := 46) fX0_15 dX0_takeBack_43 rfl rfl (Nat.le_of_ble_eq_true rfl) (pnF_int _) ?_
      refine pn_aload_n (q := 47) dX0_takeBack_46 rfl rfl rfl ?_
      refine pn_dup (q := 48) dX0_takeBack_47 rfl rfl ?_
      refine pn_get (q := 51) fX0_9 dX0_takeBack_48 rfl rfl rfl ?_
      refine pn_iconst (q := 52) (v := nI 1) dX0_takeBack_51 rfl (by decide) ?_
      first | with_reducible refine pn_isubN (q := 53) dX0_takeBack_52 rfl (by omega) ?_ | refine pn_isub (q := 53) dX0_takeBack_52 rfl ?_
      refine pn_put (q := 56) fX0_9 dX0_takeBack_53 rfl rfl (Nat.le_of_ble_eq_true rfl) (pnF_int _) ?_
      refine pn_vret dX0_takeBack_56 rfl ?_
      exact ⟨rfl, rfl⟩
  · omega
set_option maxRecDepth 100000 in
theorem c_keep3 (adK : Nat → Nat) (d cnt : Nat) (S : Nat → NS) (s : NS) (hc : cnt ≤ 8) : pnCt mX0_keep adK (d + 2) 0 0 [.ref 0, .ref 34] (hActs cnt 3 S ++ hNS 34 s) (pnIs (.inl none) (hActs (min (cnt + 1) 8) 4 (upS S 3 (nsB s (nsF (S 3)))) ++ hNS 34 s)) := by
  refine pnCt_of (by decide) kX0_keep (Nat.le_of_ble_eq_true rfl) rfl (hActsN_cl _ _ _ _) (pnCS_b rfl) ?_
  refine pn_aload_n (q := 1) dX0_keep_0 rfl rfl rfl ?_
  refine pn_aload_n (q := 2) dX0_keep_1 rfl rfl rfl ?_
  refine pn_get (q := 5) fX0_15 dX0_keep_2 rfl rfl rfl ?_
  refine pn_idV (q := 8) (bc9 := 0) (bs9 := 0) (c_slotAt adK d cnt 3 S s 3 (by decide)) lkX0_25 dX0_keep_5 rfl rfl (hActsN_cl _ _ _ _) (hActsN_cl _ _ _ _) (Nat.le_of_ble_eq_true rfl) rfl rfl rfl rfl rfl rfl (by omega) (by omega) (by omega) (Nat.le_of_ble_eq_true rfl) ?_
  refine pn_astore_n (q := 9) dX0_keep_8 rfl (by decide) rfl ?_
  refine pn_aload_n (q := 10) dX0_keep_9 rfl rfl rfl ?_
  refine pn_ifnull_ref (q := 13) dX0_keep_10 rfl ?_
  refine pn_aload_n (q := 14) dX0_keep_13 rfl rfl rfl ?_
  refine pn_aload_n (q := 15) dX0_keep_14 rfl rfl rfl ?_
  refine pn_upV0 (q := 18) (bc9 := 0) (bs9 := 0) (c_become adK d (S 3).1 (S 3).2.1 (S 3).2.2.1 (S 3).2.2.2.1 (S 3).2.2.2.2.1 (S 3).2.2.2.2.2.1 (S 3).2.2.2.2.2.2.1 (S 3).2.2.2.2.2.2.2.1 (S 3).2.2.2.2.2.2.2.2 s.1 s.2.1 s.2.2.1 s.2.2.2.1 s.2.2.2.2.1 s.2.2.2.2.2.1 s.2.2.2.2.2.2.1 s.2.2.2.2.2.2.2.1 s.2.2.2.2.2.2.2.2) lkX0_29 dX0_keep_15 rfl rfl (pnSel_of (I := [14, 15, 16, 17, 34, 35, 36, 37]) rfl rfl) (pnFree_none rfl) rfl rfl rfl (by omega) (by omega) (by omega) (Nat.le_of_ble_eq_true rfl) ?_
  refine pn_eq (h' := (hActs cnt 3 (upS S 3 (nsB s (nsF (S 3)))) ++ hNS 34 s)) (st' := _) rfl rfl ?_
  refine pn_aload_n (q := 19) dX0_keep_18 rfl rfl rfl ?_
  refine pn_aload_n (q := 20) dX0_keep_19 rfl rfl rfl ?_
  refine pn_get (q := 23) fX0_15 dX0_keep_20 rfl rfl rfl ?_
  refine pn_iconst (q := 24) (v := nI 1) dX0_keep_23 rfl (by decide) ?_
  first | with_reducible refine pn_iaddN (q := 25) dX0_keep_24 rfl ?_ | refine pn_iadd (q := 25) dX0_keep_24 rfl ?_
  refine pn_bipush (q := 27) (v := nI 8) dX0_keep_25 rfl (by decide) ?_
  first | refine pn_nne (q := 30) (tgt := 34) dX0_keep_27 (by decide) rfl (by omega) (by omega) (fun hc27 => ?_) (fun hc27 => ?_) | refine pn_icmp_ne (q := 30) (tgt := 34) dX0_keep_27 (by decide) rfl (fun hc27 => ?_) (fun hc27 => ?_)
  · refine pn_aload_n (q := 35) dX0_keep_34 rfl rfl rfl ?_
    refine pn_get (q := 38) fX0_15 dX0_keep_35 rfl rfl rfl ?_
    refine pn_iconst (q := 39) (v := nI 1) dX0_keep_38 rfl (by decide) ?_
    first | with_reducible refine pn_iaddN (q := 40) dX0_keep_39 rfl ?_ | refine pn_iadd (q := 40) dX0_keep_39 rfl ?_
    refine pn_put (q := 43) fX0_15 dX0_keep_40 rfl rfl (Nat.le_of_ble_eq_true rfl) (pnF_int _) ?_
    refine pn_aload_n (q := 44) dX0_keep_43 rfl rfl rfl ?_
    refine pn_aload_n (q := 45) dX0_keep_44 rfl rfl rfl ?_
    refine pn_get (q := 48) fX0_9 dX0_keep_45 rfl rfl rfl ?_
    refine pn_iconst (q := 49) (v := nI 1) dX0_keep_48 rfl (by decide) ?_
    first | with_reducible refine pn_iaddN (q := 50) dX0_keep_49 rfl ?_ | refine pn_iadd (q := 50) dX0_keep_49 rfl ?_
    refine pn_bipush (q := 52) (v := nI 8) dX0_keep_50 rfl (by decide) ?_
    refine pn_roS1 (q := 55) (c_min adK d (cnt + 1) 8 (by omega) (by omega)) lkX0_33 dX0_keep_52 rfl rfl (pnSel_of (I := []) rfl rfl) (pnFree_none rfl) rfl (by omega) (Nat.le_of_ble_eq_true rfl) rfl ?_
    refine pn_put (q := 58) fX0_9 dX0_keep_55 rfl rfl (Nat.le_of_ble_eq_true rfl) (pnF_int _) ?_
    refine pn_vret dX0_keep_58 rfl ?_
    exact ⟨rfl, rfl⟩
  · omega
set_option maxRecDepth 100000 in
theorem c_takeBack3 (adK : Nat → Nat) (d cnt : Nat) (S : Nat → NS) (s : NS) (hc : cnt ≤ 8) (hc1 : 0 < cnt) : pnCt mX0_takeBack adK (d + 2) 0 0 [.ref 0, .ref 34] (hActs cnt 3 S ++ hNS 34 s) (pnIs (.inl none) (hActs (cnt - 1) 2 S ++ hNS 34 (nsB (S 2) (nsF s)))) := by
  refine pnCt_of (by decide) kX0_takeBack (Nat.le_of_ble_eq_true rfl) rfl (hActsN_cl _ _ _ _) (pnCS_b rfl) ?_
  refine pn_aload_n (q := 1) dX0_takeBack_0 rfl rfl rfl ?_
  refine pn_get (q := 4) fX0_15 dX0_takeBack_1 rfl rfl rfl ?_
  first | refine pn_zne (q := 7) (tgt := 12) dX0_takeBack_4 (by decide) rfl (by omega) (fun hc4 => ?_) (fun hc4 => ?_) | refine pn_if_ne (q := 7) (tgt := 12) dX0_takeBack_4 (by decide) rfl (fun hc4 => ?_) (fun hc4 => ?_)
  · refine pn_aload_n (q := 13) dX0_takeBack_12 rfl rfl rfl ?_
    refine pn_get (q := 16) fX0_15 dX0_takeBack_13 rfl rfl rfl ?_
    refine pn_iconst (q := 17) (v := nI 1) dX0_takeBack_16 rfl (by decide) ?_
    first | with_reducible refine pn_isubN (q := 18) dX0_takeBack_17 rfl (by omega) ?_ | refine pn_isub (q := 18) dX0_takeBack_17 rfl ?_
    refine pn_istore_n (q := 19) dX0_takeBack_18 rfl (by decide) ?_
    refine pn_aload_n (q := 20) dX0_takeBack_19 rfl rfl rfl ?_
    refine pn_iload_n (q := 21) dX0_takeBack_20 rfl rfl ?_
    refine pn_idV (q := 24) (bc9 := 0) (bs9 := 0) (c_slotAt adK d cnt 3 S s 2 (by decide)) lkX0_25 dX0_takeBack_21 rfl rfl (hActsN_cl _ _ _ _) (hActsN_cl _ _ _ _) (Nat.le_of_ble_eq_true rfl) rfl rfl rfl rfl rfl rfl (by omega) (by omega) (by omega) (Nat.le_of_ble_eq_true rfl) ?_
    refine pn_astore_n (q := 25) dX0_takeBack_24 rfl (by decide) rfl ?_
    refine pn_aload_n (q := 26) dX0_takeBack_25 rfl rfl rfl ?_
    refine pn_ifnull_ref (q := 29) dX0_takeBack_26 rfl ?_
    refine pn_aload_n (q := 30) dX0_takeBack_29 rfl rfl rfl ?_
    refine pn_get (q := 33) fX0_9 dX0_takeBack_30 rfl rfl rfl ?_
    first | refine pn_zle (q := 36) (tgt := 56) dX0_takeBack_33 (by decide) rfl (by omega) (fun hc33 => ?_) (fun hc33 => ?_) | refine pn_if_le (q := 36) (tgt := 56) dX0_takeBack_33 (by decide) rfl (fun hc33 => ?_) (fun hc33 => ?_)
    · omega
    · refine pn_aload_n (q := 37) dX0_takeBack_36 rfl rfl rfl ?_
      refine pn_aload_n (q := 38) dX0_takeBack_37 rfl rfl rfl ?_
      refine pn_upV0 (q := 41) (bc9 := 0) (bs9 := 0) (c_become adK d s.1 s.2.1 s.2.2.1 s.2.2.2.1 s.2.2.2.2.1 s.2.2.2.2.2.1 s.2.2.2.2.2.2.1 s.2.2.2.2.2.2.2.1 s.2.2.2.2.2.2.2.2 (S 2).1 (S 2).2.1 (S 2).2.2.1 (S 2).2.2.2.1 (S 2).2.2.2.2.1 (S 2).2.2.2.2.2.1 (S 2).2.2.2.2.2.2.1 (S 2).2.2.2.2.2.2.2.1 (S 2).2.2.2.2.2.2.2.2) lkX0_29 dX0_takeBack_38 rfl rfl (pnSel_of (I := [34, 35, 36, 37, 10, 11, 12, 13]) rfl rfl) (pnFree_none rfl) rfl rfl rfl (by omega) (by omega) (by omega) (Nat.le_of_ble_eq_true rfl) ?_
      refine pn_eq (h' := (hActs cnt 3 S ++ hNS 34 (nsB (S 2) (nsF s)))) (st' := _) rfl rfl ?_
      refine pn_aload_n (q := 42) dX0_takeBack_41 rfl rfl rfl ?_
      refine pn_iload_n (q := 43) dX0_takeBack_42 rfl rfl ?_
      refine pn_put (q := 46) fX0_15 dX0_takeBack_43 rfl rfl (Nat.le_of_ble_eq_true rfl) (pnF_int _) ?_
      refine pn_aload_n (q := 47) dX0_takeBack_46 rfl rfl rfl ?_
      refine pn_dup (q := 48) dX0_takeBack_47 rfl rfl ?_
      refine pn_get (q := 51) fX0_9 dX0_takeBack_48 rfl rfl rfl ?_
      refine pn_iconst (q := 52) (v := nI 1) dX0_takeBack_51 rfl (by decide) ?_
      first | with_reducible refine pn_isubN (q := 53) dX0_takeBack_52 rfl (by omega) ?_ | refine pn_isub (q := 53) dX0_takeBack_52 rfl ?_
      refine pn_put (q := 56) fX0_9 dX0_takeBack_53 rfl rfl (Nat.le_of_ble_eq_true rfl) (pnF_int _) ?_
      refine pn_vret dX0_takeBack_56 rfl ?_
      exact ⟨rfl, rfl⟩
  · omega
set_option maxRecDepth 100000 in
theorem c_keep4 (adK : Nat → Nat) (d cnt : Nat) (S : Nat → NS) (s : NS) (hc : cnt ≤ 8) : pnCt mX0_keep adK (d + 2) 0 0 [.ref 0, .ref 34] (hActs cnt 4 S ++ hNS 34 s) (pnIs (.inl none) (hActs (min (cnt + 1) 8) 5 (upS S 4 (nsB s (nsF (S 4)))) ++ hNS 34 s)) := by
  refine pnCt_of (by decide) kX0_keep (Nat.le_of_ble_eq_true rfl) rfl (hActsN_cl _ _ _ _) (pnCS_b rfl) ?_
  refine pn_aload_n (q := 1) dX0_keep_0 rfl rfl rfl ?_
  refine pn_aload_n (q := 2) dX0_keep_1 rfl rfl rfl ?_
  refine pn_get (q := 5) fX0_15 dX0_keep_2 rfl rfl rfl ?_
  refine pn_idV (q := 8) (bc9 := 0) (bs9 := 0) (c_slotAt adK d cnt 4 S s 4 (by decide)) lkX0_25 dX0_keep_5 rfl rfl (hActsN_cl _ _ _ _) (hActsN_cl _ _ _ _) (Nat.le_of_ble_eq_true rfl) rfl rfl rfl rfl rfl rfl (by omega) (by omega) (by omega) (Nat.le_of_ble_eq_true rfl) ?_
  refine pn_astore_n (q := 9) dX0_keep_8 rfl (by decide) rfl ?_
  refine pn_aload_n (q := 10) dX0_keep_9 rfl rfl rfl ?_
  refine pn_ifnull_ref (q := 13) dX0_keep_10 rfl ?_
  refine pn_aload_n (q := 14) dX0_keep_13 rfl rfl rfl ?_
  refine pn_aload_n (q := 15) dX0_keep_14 rfl rfl rfl ?_
  refine pn_upV0 (q := 18) (bc9 := 0) (bs9 := 0) (c_become adK d (S 4).1 (S 4).2.1 (S 4).2.2.1 (S 4).2.2.2.1 (S 4).2.2.2.2.1 (S 4).2.2.2.2.2.1 (S 4).2.2.2.2.2.2.1 (S 4).2.2.2.2.2.2.2.1 (S 4).2.2.2.2.2.2.2.2 s.1 s.2.1 s.2.2.1 s.2.2.2.1 s.2.2.2.2.1 s.2.2.2.2.2.1 s.2.2.2.2.2.2.1 s.2.2.2.2.2.2.2.1 s.2.2.2.2.2.2.2.2) lkX0_29 dX0_keep_15 rfl rfl (pnSel_of (I := [18, 19, 20, 21, 34, 35, 36, 37]) rfl rfl) (pnFree_none rfl) rfl rfl rfl (by omega) (by omega) (by omega) (Nat.le_of_ble_eq_true rfl) ?_
  refine pn_eq (h' := (hActs cnt 4 (upS S 4 (nsB s (nsF (S 4)))) ++ hNS 34 s)) (st' := _) rfl rfl ?_
  refine pn_aload_n (q := 19) dX0_keep_18 rfl rfl rfl ?_
  refine pn_aload_n (q := 20) dX0_keep_19 rfl rfl rfl ?_
  refine pn_get (q := 23) fX0_15 dX0_keep_20 rfl rfl rfl ?_
  refine pn_iconst (q := 24) (v := nI 1) dX0_keep_23 rfl (by decide) ?_
  first | with_reducible refine pn_iaddN (q := 25) dX0_keep_24 rfl ?_ | refine pn_iadd (q := 25) dX0_keep_24 rfl ?_
  refine pn_bipush (q := 27) (v := nI 8) dX0_keep_25 rfl (by decide) ?_
  first | refine pn_nne (q := 30) (tgt := 34) dX0_keep_27 (by decide) rfl (by omega) (by omega) (fun hc27 => ?_) (fun hc27 => ?_) | refine pn_icmp_ne (q := 30) (tgt := 34) dX0_keep_27 (by decide) rfl (fun hc27 => ?_) (fun hc27 => ?_)
  · refine pn_aload_n (q := 35) dX0_keep_34 rfl rfl rfl ?_
    refine pn_get (q := 38) fX0_15 dX0_keep_35 rfl rfl rfl ?_
    refine pn_iconst (q := 39) (v := nI 1) dX0_keep_38 rfl (by decide) ?_
    first | with_reducible refine pn_iaddN (q := 40) dX0_keep_39 rfl ?_ | refine pn_iadd (q := 40) dX0_keep_39 rfl ?_
    refine pn_put (q := 43) fX0_15 dX0_keep_40 rfl rfl (Nat.le_of_ble_eq_true rfl) (pnF_int _) ?_
    refine pn_aload_n (q := 44) dX0_keep_43 rfl rfl rfl ?_
    refine pn_aload_n (q := 45) dX0_keep_44 rfl rfl rfl ?_
    refine pn_get (q := 48) fX0_9 dX0_keep_45 rfl rfl rfl ?_
    refine pn_iconst (q := 49) (v := nI 1) dX0_keep_48 rfl (by decide) ?_
    first | with_reducible refine pn_iaddN (q := 50) dX0_keep_49 rfl ?_ | refine pn_iadd (q := 50) dX0_keep_49 rfl ?_
    refine pn_bipush (q := 52) (v := nI 8) dX0_keep_50 rfl (by decide) ?_
    refine pn_roS1 (q := 55) (c_min adK d (cnt + 1) 8 (by omega) (by omega)) lkX0_33 dX0_keep_52 rfl rfl (pnSel_of (I := []) rfl rfl) (pnFree_none rfl) rfl (by omega) (Nat.le_of_ble_eq_true rfl) rfl ?_
    refine pn_put (q := 58) fX0_9 dX0_keep_55 rfl rfl (Nat.le_of_ble_eq_true rfl) (pnF_int _) ?_
    refine pn_vret dX0_keep_58 rfl ?_
    exact ⟨rfl, rfl⟩
  · omega
set_option maxRecDepth 100000 in
theorem c_takeBack4 (adK : Nat → Nat) (d cnt : Nat) (S : Nat → NS) (s : NS) (hc : cnt ≤ 8) (hc1 : 0 < cnt) : pnCt mX0_takeBack adK (d + 2) 0 0 [.ref 0, .ref 34] (hActs cnt 4 S ++ hNS 34 s) (pnIs (.inl none) (hActs (cnt - 1) 3 S ++ hNS 34 (nsB (S 3) (nsF s)))) := by
  refine pnCt_of (by decide) kX0_takeBack (Nat.le_of_ble_eq_true rfl) rfl (hActsN_cl _ _ _ _) (pnCS_b rfl) ?_
  refine pn_aload_n (q := 1) dX0_takeBack_0 rfl rfl rfl ?_
  refine pn_get (q := 4) fX0_15 dX0_takeBack_1 rfl rfl rfl ?_
  first | refine pn_zne (q := 7) (tgt := 12) dX0_takeBack_4 (by decide) rfl (by omega) (fun hc4 => ?_) (fun hc4 => ?_) | refine pn_if_ne (q := 7) (tgt := 12) dX0_takeBack_4 (by decide) rfl (fun hc4 => ?_) (fun hc4 => ?_)
  · refine pn_aload_n (q := 13) dX0_takeBack_12 rfl rfl rfl ?_
    refine pn_get (q := 16) fX0_15 dX0_takeBack_13 rfl rfl rfl ?_
    refine pn_iconst (q := 17) (v := nI 1) dX0_takeBack_16 rfl (by decide) ?_
    first | with_reducible refine pn_isubN (q := 18) dX0_takeBack_17 rfl (by omega) ?_ | refine pn_isub (q := 18) dX0_takeBack_17 rfl ?_
    refine pn_istore_n (q := 19) dX0_takeBack_18 rfl (by decide) ?_
    refine pn_aload_n (q := 20) dX0_takeBack_19 rfl rfl rfl ?_
    refine pn_iload_n (q := 21) dX0_takeBack_20 rfl rfl ?_
    refine pn_idV (q := 24) (bc9 := 0) (bs9 := 0) (c_slotAt adK d cnt 4 S s 3 (by decide)) lkX0_25 dX0_takeBack_21 rfl rfl (hActsN_cl _ _ _ _) (hActsN_cl _ _ _ _) (Nat.le_of_ble_eq_true rfl) rfl rfl rfl rfl rfl rfl (by omega) (by omega) (by omega) (Nat.le_of_ble_eq_true rfl) ?_
    refine pn_astore_n (q := 25) dX0_takeBack_24 rfl (by decide) rfl ?_
    refine pn_aload_n (q := 26) dX0_takeBack_25 rfl rfl rfl ?_
    refine pn_ifnull_ref (q := 29) dX0_takeBack_26 rfl ?_
    refine pn_aload_n (q := 30) dX0_takeBack_29 rfl rfl rfl ?_
    refine pn_get (q := 33) fX0_9 dX0_takeBack_30 rfl rfl rfl ?_
    first | refine pn_zle (q := 36) (tgt := 56) dX0_takeBack_33 (by decide) rfl (by omega) (fun hc33 => ?_) (fun hc33 => ?_) | refine pn_if_le (q := 36) (tgt := 56) dX0_takeBack_33 (by decide) rfl (fun hc33 => ?_) (fun hc33 => ?_)
    · omega
    · refine pn_aload_n (q := 37) dX0_takeBack_36 rfl rfl rfl ?_
      refine pn_aload_n (q := 38) dX0_takeBack_37 rfl rfl rfl ?_
      refine pn_upV0 (q := 41) (bc9 := 0) (bs9 := 0) (c_become adK d s.1 s.2.1 s.2.2.1 s.2.2.2.1 s.2.2.2.2.1 s.2.2.2.2.2.1 s.2.2.2.2.2.2.1 s.2.2.2.2.2.2.2.1 s.2.2.2.2.2.2.2.2 (S 3).1 (S 3).2.1 (S 3).2.2.1 (S 3).2.2.2.1 (S 3).2.2.2.2.1 (S 3).2.2.2.2.2.1 (S 3).2.2.2.2.2.2.1 (S 3).2.2.2.2.2.2.2.1 (S 3).2.2.2.2.2.2.2.2) lkX0_29 dX0_takeBack_38 rfl rfl (pnSel_of (I := [34, 35, 36, 37, 14, 15, 16, 17]) rfl rfl) (pnFree_none rfl) rfl rfl rfl (by omega) (by omega) (by omega) (Nat.le_of_ble_eq_true rfl) ?_
      refine pn_eq (h' := (hActs cnt 4 S ++ hNS 34 (nsB (S 3) (nsF s)))) (st' := _) rfl rfl ?_
      refine pn_aload_n (q := 42) dX0_takeBack_41 rfl rfl rfl ?_
      refine pn_iload_n (q := 43) dX0_takeBack_42 rfl rfl ?_
      refine pn_put (q := 46) fX0_15 dX0_takeBack_43 rfl rfl (Nat.le_of_ble_eq_true rfl) (pnF_int _) ?_
      refine pn_aload_n (q := 47) dX0_takeBack_46 rfl rfl rfl ?_
      refine pn_dup (q := 48) dX0_takeBack_47 rfl rfl ?_
      refine pn_get (q := 51) fX0_9 dX0_takeBack_48 rfl rfl rfl ?_
      refine pn_iconst (q := 52) (v := nI 1) dX0_takeBack_51 rfl (by decide) ?_
      first | with_reducible refine pn_isubN (q := 53) dX0_takeBack_52 rfl (by omega) ?_ | refine pn_isub (q := 53) dX0_takeBack_52 rfl ?_
      refine pn_put (q := 56) fX0_9 dX0_takeBack_53 rfl rfl (Nat.le_of_ble_eq_true rfl) (pnF_int _) ?_
      refine pn_vret dX0_takeBack_56 rfl ?_
      exact ⟨rfl, rfl⟩
  · omega
set_option maxRecDepth 100000 in
theorem c_keep5 (adK : Nat → Nat) (d cnt : Nat) (S : Nat → NS) (s : NS) (hc : cnt ≤ 8) : pnCt mX0_keep adK (d + 2) 0 0 [.ref 0, .ref 34] (hActs cnt 5 S ++ hNS 34 s) (pnIs (.inl none) (hActs (min (cnt + 1) 8) 6 (upS S 5 (nsB s (nsF (S 5)))) ++ hNS 34 s)) := by
  refine pnCt_of (by decide) kX0_keep (Nat.le_of_ble_eq_true rfl) rfl (hActsN_cl _ _ _ _) (pnCS_b rfl) ?_
  refine pn_aload_n (q := 1) dX0_keep_0 rfl rfl rfl ?_
  refine pn_aload_n (q := 2) dX0_keep_1 rfl rfl rfl ?_
  refine pn_get (q := 5) fX0_15 dX0_keep_2 rfl rfl rfl ?_
  refine pn_idV (q := 8) (bc9 := 0) (bs9 := 0) (c_slotAt adK d cnt 5 S s 5 (by decide)) lkX0_25 dX0_keep_5 rfl rfl (hActsN_cl _ _ _ _) (hActsN_cl _ _ _ _) (Nat.le_of_ble_eq_true rfl) rfl rfl rfl rfl rfl rfl (by omega) (by omega) (by omega) (Nat.le_of_ble_eq_true rfl) ?_
  refine pn_astore_n (q := 9) dX0_keep_8 rfl (by decide) rfl ?_
  refine pn_aload_n (q := 10) dX0_keep_9 rfl rfl rfl ?_
  refine pn_ifnull_ref (q := 13) dX0_keep_10 rfl ?_
  refine pn_aload_n (q := 14) dX0_keep_13 rfl rfl rfl ?_
  refine pn_aload_n (q := 15) dX0_keep_14 rfl rfl rfl ?_
  refine pn_upV0 (q := 18) (bc9 := 0) (bs9 := 0) (c_become adK d (S 5).1 (S 5).2.1 (S 5).2.2.1 (S 5).2.2.2.1 (S 5).2.2.2.2.1 (S 5).2.2.2.2.2.1 (S 5).2.2.2.2.2.2.1 (S 5).2.2.2.2.2.2.2.1 (S 5).2.2.2.2.2.2.2.2 s.1 s.2.1 s.2.2.1 s.2.2.2.1 s.2.2.2.2.1 s.2.2.2.2.2.1 s.2.2.2.2.2.2.1 s.2.2.2.2.2.2.2.1 s.2.2.2.2.2.2.2.2) lkX0_29 dX0_keep_15 rfl rfl (pnSel_of (I := [22, 23, 24, 25, 34, 35, 36, 37]) rfl rfl) (pnFree_none rfl) rfl rfl rfl (by omega) (by omega) (by omega) (Nat.le_of_ble_eq_true rfl) ?_
  refine pn_eq (h' := (hActs cnt 5 (upS S 5 (nsB s (nsF (S 5)))) ++ hNS 34 s)) (st' := _) rfl rfl ?_
  refine pn_aload_n (q := 19) dX0_keep_18 rfl rfl rfl ?_
  refine pn_aload_n (q := 20) dX0_keep_19 rfl rfl rfl ?_
  refine pn_get (q := 23) fX0_15 dX0_keep_20 rfl rfl rfl ?_
  refine pn_iconst (q := 24) (v := nI 1) dX0_keep_23 rfl (by decide) ?_
  first | with_reducible refine pn_iaddN (q := 25) dX0_keep_24 rfl ?_ | refine pn_iadd (q := 25) dX0_keep_24 rfl ?_
  refine pn_bipush (q := 27) (v := nI 8) dX0_keep_25 rfl (by decide) ?_
  first | refine pn_nne (q := 30) (tgt := 34) dX0_keep_27 (by decide) rfl (by omega) (by omega) (fun hc27 => ?_) (fun hc27 => ?_) | refine pn_icmp_ne (q := 30) (tgt := 34) dX0_keep_27 (by decide) rfl (fun hc27 => ?_) (fun hc27 => ?_)
  · refine pn_aload_n (q := 35) dX0_keep_34 rfl rfl rfl ?_
    refine pn_get (q := 38) fX0_15 dX0_keep_35 rfl rfl rfl ?_
    refine pn_iconst (q := 39) (v := nI 1) dX0_keep_38 rfl (by decide) ?_
    first | with_reducible refine pn_iaddN (q := 40) dX0_keep_39 rfl ?_ | refine pn_iadd (q := 40) dX0_keep_39 rfl ?_
    refine pn_put (q := 43) fX0_15 dX0_keep_40 rfl rfl (Nat.le_of_ble_eq_true rfl) (pnF_int _) ?_
    refine pn_aload_n (q := 44) dX0_keep_43 rfl rfl rfl ?_
    refine pn_aload_n (q := 45) dX0_keep_44 rfl rfl rfl ?_
    refine pn_get (q := 48) fX0_9 dX0_keep_45 rfl rfl rfl ?_
    refine pn_iconst (q := 49) (v := nI 1) dX0_keep_48 rfl (by decide) ?_
    first | with_reducible refine pn_iaddN (q := 50) dX0_keep_49 rfl ?_ | refine pn_iadd (q := 50) dX0_keep_49 rfl ?_
    refine pn_bipush (q := 52) (v := nI 8) dX0_keep_50 rfl (by decide) ?_
    refine pn_roS1 (q := 55) (c_min adK d (cnt + 1) 8 (by omega) (by omega)) lkX0_33 dX0_keep_52 rfl rfl (pnSel_of (I := []) rfl rfl) (pnFree_none rfl) rfl (by omega) (Nat.le_of_ble_eq_true rfl) rfl ?_
    refine pn_put (q := 58) fX0_9 dX0_keep_55 rfl rfl (Nat.le_of_ble_eq_true rfl) (pnF_int _) ?_
    refine pn_vret dX0_keep_58 rfl ?_
    exact ⟨rfl, rfl⟩
  · omega
set_option maxRecDepth 100000 in
theorem c_takeBack5 (adK : Nat → Nat) (d cnt : Nat) (S : Nat → NS) (s : NS) (hc : cnt ≤ 8) (hc1 : 0 < cnt) : pnCt mX0_takeBack adK (d + 2) 0 0 [.ref 0, .ref 34] (hActs cnt 5 S ++ hNS 34 s) (pnIs (.inl none) (hActs (cnt - 1) 4 S ++ hNS 34 (nsB (S 4) (nsF s)))) := by
  refine pnCt_of (by decide) kX0_takeBack (Nat.le_of_ble_eq_true rfl) rfl (hActsN_cl _ _ _ _) (pnCS_b rfl) ?_
  refine pn_aload_n (q := 1) dX0_takeBack_0 rfl rfl rfl ?_
  refine pn_get (q := 4) fX0_15 dX0_takeBack_1 rfl rfl rfl ?_
  first | refine pn_zne (q := 7) (tgt := 12) dX0_takeBack_4 (by decide) rfl (by omega) (fun hc4 => ?_) (fun hc4 => ?_) | refine pn_if_ne (q := 7) (tgt := 12) dX0_takeBack_4 (by decide) rfl (fun hc4 => ?_) (fun hc4 => ?_)
  · refine pn_aload_n (q := 13) dX0_takeBack_12 rfl rfl rfl ?_
    refine pn_get (q := 16) fX0_15 dX0_takeBack_13 rfl rfl rfl ?_
    refine pn_iconst (q := 17) (v := nI 1) dX0_takeBack_16 rfl (by decide) ?_
    first | with_reducible refine pn_isubN (q := 18) dX0_takeBack_17 rfl (by omega) ?_ | refine pn_isub (q := 18) dX0_takeBack_17 rfl ?_
    refine pn_istore_n (q := 19) dX0_takeBack_18 rfl (by decide) ?_
    refine pn_aload_n (q := 20) dX0_takeBack_19 rfl rfl rfl ?_
    refine pn_iload_n (q := 21) dX0_takeBack_20 rfl rfl ?_
    refine pn_idV (q := 24) (bc9 := 0) (bs9 := 0) (c_slotAt adK d cnt 5 S s 4 (by decide)) lkX0_25 dX0_takeBack_21 rfl rfl (hActsN_cl _ _ _ _) (hActsN_cl _ _ _ _) (Nat.le_of_ble_eq_true rfl) rfl rfl rfl rfl rfl rfl (by omega) (by omega) (by omega) (Nat.le_of_ble_eq_true rfl) ?_
    refine pn_astore_n (q := 25) dX0_takeBack_24 rfl (by decide) rfl ?_
    refine pn_aload_n (q := 26) dX0_takeBack_25 rfl rfl rfl ?_
    refine pn_ifnull_ref (q := 29) dX0_takeBack_26 rfl ?_
    refine pn_aload_n (q := 30) dX0_takeBack_29 rfl rfl rfl ?_
    refine pn_get (q := 33) fX0_9 dX0_takeBack_30 rfl rfl rfl ?_
    first | refine pn_zle (q := 36) (tgt := 56) dX0_takeBack_33 (by decide) rfl (by omega) (fun hc33 => ?_) (fun hc33 => ?_) | refine pn_if_le (q := 36) (tgt := 56) dX0_takeBack_33 (by decide) rfl (fun hc33 => ?_) (fun hc33 => ?_)
    · omega
    · refine pn_aload_n (q := 37) dX0_takeBack_36 rfl rfl rfl ?_
      refine pn_aload_n (q := 38) dX0_takeBack_37 rfl rfl rfl ?_
      refine pn_upV0 (q := 41) (bc9 := 0) (bs9 := 0) (c_become adK d s.1 s.2.1 s.2.2.1 s.2.2.2.1 s.2.2.2.2.1 s.2.2.2.2.2.1 s.2.2.2.2.2.2.1 s.2.2.2.2.2.2.2.1 s.2.2.2.2.2.2.2.2 (S 4).1 (S 4).2.1 (S 4).2.2.1 (S 4).2.2.2.1 (S 4).2.2.2.2.1 (S 4).2.2.2.2.2.1 (S 4).2.2.2.2.2.2.1 (S 4).2.2.2.2.2.2.2.1 (S 4).2.2.2.2.2.2.2.2) lkX0_29 dX0_takeBack_38 rfl rfl (pnSel_of (I := [34, 35, 36, 37, 18, 19, 20, 21]) rfl rfl) (pnFree_none rfl) rfl rfl rfl (by omega) (by omega) (by omega) (Nat.le_of_ble_eq_true rfl) ?_
      refine pn_eq (h' := (hActs cnt 5 S ++ hNS 34 (nsB (S 4) (nsF s)))) (st' := _) rfl rfl ?_
      refine pn_aload_n (q := 42) dX0_takeBack_41 rfl rfl rfl ?_
      refine pn_iload_n (q := 43) dX0_takeBack_42 rfl rfl ?_
      refine pn_put (q := 46) fX0_15 dX0_takeBack_43 rfl rfl (Nat.le_of_ble_eq_true rfl) (pnF_int _) ?_
      refine pn_aload_n (q := 47) dX0_takeBack_46 rfl rfl rfl ?_
      refine pn_dup (q := 48) dX0_takeBack_47 rfl rfl ?_
      refine pn_get (q := 51) fX0_9 dX0_takeBack_48 rfl rfl rfl ?_
      refine pn_iconst (q := 52) (v := nI 1) dX0_takeBack_51 rfl (by decide) ?_
      first | with_reducible refine pn_isubN (q := 53) dX0_takeBack_52 rfl (by omega) ?_ | refine pn_isub (q := 53) dX0_takeBack_52 rfl ?_
      refine pn_put (q := 56) fX0_9 dX0_takeBack_53 rfl rfl (Nat.le_of_ble_eq_true rfl) (pnF_int _) ?_
      refine pn_vret dX0_takeBack_56 rfl ?_
      exact ⟨rfl, rfl⟩
  · omega
set_option maxRecDepth 100000 in
theorem c_keep6 (adK : Nat → Nat) (d cnt : Nat) (S : Nat → NS) (s : NS) (hc : cnt ≤ 8) : pnCt mX0_keep adK (d + 2) 0 0 [.ref 0, .ref 34] (hActs cnt 6 S ++ hNS 34 s) (pnIs (.inl none) (hActs (min (cnt + 1) 8) 7 (upS S 6 (nsB s (nsF (S 6)))) ++ hNS 34 s)) := by
  refine pnCt_of (by decide) kX0_keep (Nat.le_of_ble_eq_true rfl) rfl (hActsN_cl _ _ _ _) (pnCS_b rfl) ?_
  refine pn_aload_n (q := 1) dX0_keep_0 rfl rfl rfl ?_
  refine pn_aload_n (q := 2) dX0_keep_1 rfl rfl rfl ?_
  refine pn_get (q := 5) fX0_15 dX0_keep_2 rfl rfl rfl ?_
  refine pn_idV (q := 8) (bc9 := 0) (bs9 := 0) (c_slotAt adK d cnt 6 S s 6 (by decide)) lkX0_25 dX0_keep_5 rfl rfl (hActsN_cl _ _ _ _) (hActsN_cl _ _ _ _) (Nat.le_of_ble_eq_true rfl) rfl rfl rfl rfl rfl rfl (by omega) (by omega) (by omega) (Nat.le_of_ble_eq_true rfl) ?_
  refine pn_astore_n (q := 9) dX0_keep_8 rfl (by decide) rfl ?_
  refine pn_aload_n (q := 10) dX0_keep_9 rfl rfl rfl ?_
  refine pn_ifnull_ref (q := 13) dX0_keep_10 rfl ?_
  refine pn_aload_n (q := 14) dX0_keep_13 rfl rfl rfl ?_
  refine pn_aload_n (q := 15) dX0_keep_14 rfl rfl rfl ?_
  refine pn_upV0 (q := 18) (bc9 := 0) (bs9 := 0) (c_become adK d (S 6).1 (S 6).2.1 (S 6).2.2.1 (S 6).2.2.2.1 (S 6).2.2.2.2.1 (S 6).2.2.2.2.2.1 (S 6).2.2.2.2.2.2.1 (S 6).2.2.2.2.2.2.2.1 (S 6).2.2.2.2.2.2.2.2 s.1 s.2.1 s.2.2.1 s.2.2.2.1 s.2.2.2.2.1 s.2.2.2.2.2.1 s.2.2.2.2.2.2.1 s.2.2.2.2.2.2.2.1 s.2.2.2.2.2.2.2.2) lkX0_29 dX0_keep_15 rfl rfl (pnSel_of (I := [26, 27, 28, 29, 34, 35, 36, 37]) rfl rfl) (pnFree_none rfl) rfl rfl rfl (by omega) (by omega) (by omega) (Nat.le_of_ble_eq_true rfl) ?_
  refine pn_eq (h' := (hActs cnt 6 (upS S 6 (nsB s (nsF (S 6)))) ++ hNS 34 s)) (st' := _) rfl rfl ?_
  refine pn_aload_n (q := 19) dX0_keep_18 rfl rfl rfl ?_
  refine pn_aload_n (q := 20) dX0_keep_19 rfl rfl rfl ?_
  refine pn_get (q := 23) fX0_15 dX0_keep_20 rfl rfl rfl ?_
  refine pn_iconst (q := 24) (v := nI 1) dX0_keep_23 rfl (by decide) ?_
  first | with_reducible refine pn_iaddN (q := 25) dX0_keep_24 rfl ?_ | refine pn_iadd (q := 25) dX0_keep_24 rfl ?_
  refine pn_bipush (q := 27) (v := nI 8) dX0_keep_25 rfl (by decide) ?_
  first | refine pn_nne (q := 30) (tgt := 34) dX0_keep_27 (by decide) rfl (by omega) (by omega) (fun hc27 => ?_) (fun hc27 => ?_) | refine pn_icmp_ne (q := 30) (tgt := 34) dX0_keep_27 (by decide) rfl (fun hc27 => ?_) (fun hc27 => ?_)
  · refine pn_aload_n (q := 35) dX0_keep_34 rfl rfl rfl ?_
    refine pn_get (q := 38) fX0_15 dX0_keep_35 rfl rfl rfl ?_
    refine pn_iconst (q := 39) (v := nI 1) dX0_keep_38 rfl (by decide) ?_
    first | with_reducible refine pn_iaddN (q := 40) dX0_keep_39 rfl ?_ | refine pn_iadd (q := 40) dX0_keep_39 rfl ?_
    refine pn_put (q := 43) fX0_15 dX0_keep_40 rfl rfl (Nat.le_of_ble_eq_true rfl) (pnF_int _) ?_
    refine pn_aload_n (q := 44) dX0_keep_43 rfl rfl rfl ?_
    refine pn_aload_n (q := 45) dX0_keep_44 rfl rfl rfl ?_
    refine pn_get (q := 48) fX0_9 dX0_keep_45 rfl rfl rfl ?_
    refine pn_iconst (q := 49) (v := nI 1) dX0_keep_48 rfl (by decide) ?_
    first | with_reducible refine pn_iaddN (q := 50) dX0_keep_49 rfl ?_ | refine pn_iadd (q := 50) dX0_keep_49 rfl ?_
    refine pn_bipush (q := 52) (v := nI 8) dX0_keep_50 rfl (by decide) ?_
    refine pn_roS1 (q := 55) (c_min adK d (cnt + 1) 8 (by omega) (by omega)) lkX0_33 dX0_keep_52 rfl rfl (pnSel_of (I := []) rfl rfl) (pnFree_none rfl) rfl (by omega) (Nat.le_of_ble_eq_true rfl) rfl ?_
    refine pn_put (q := 58) fX0_9 dX0_keep_55 rfl rfl (Nat.le_of_ble_eq_true rfl) (pnF_int _) ?_
    refine pn_vret dX0_keep_58 rfl ?_
    exact ⟨rfl, rfl⟩
  · omega
set_option maxRecDepth 100000 in
theorem c_takeBack6 (adK : Nat → Nat) (d cnt : Nat) (S : Nat → NS) (s : NS) (hc : cnt ≤ 8) (hc1 : 0 < cnt) : pnCt mX0_takeBack adK (d + 2) 0 0 [.ref 0, .ref 34] (hActs cnt 6 S ++ hNS 34 s) (pnIs (.inl none) (hActs (cnt - 1) 5 S ++ hNS 34 (nsB (S 5) (nsF s)))) := by
  refine pnCt_of (by decide) kX0_takeBack (Nat.le_of_ble_eq_true rfl) rfl (hActsN_cl _ _ _ _) (pnCS_b rfl) ?_
  refine pn_aload_n (q := 1) dX0_takeBack_0 rfl rfl rfl ?_
  refine pn_get (q := 4) fX0_15 dX0_takeBack_1 rfl rfl rfl ?_
  first | refine pn_zne (q := 7) (tgt := 12) dX0_takeBack_4 (by decide) rfl (by omega) (fun hc4 => ?_) (fun hc4 => ?_) | refine pn_if_ne (q := 7) (tgt := 12) dX0_takeBack_4 (by decide) rfl (fun hc4 => ?_) (fun hc4 => ?_)
  · refine pn_aload_n (q := 13) dX0_takeBack_12 rfl rfl rfl ?_
    refine pn_get (q := 16) fX0_15 dX0_takeBack_13 rfl rfl rfl ?_
    refine pn_iconst (q := 17) (v := nI 1) dX0_takeBack_16 rfl (by decide) ?_
    first | with_reducible refine pn_isubN (q := 18) dX0_takeBack_17 rfl (by omega) ?_ | refine pn_isub (q := 18) dX0_takeBack_17 rfl ?_
    refine pn_istore_n (q := 19) dX0_takeBack_18 rfl (by decide) ?_
    refine pn_aload_n (q := 20) dX0_takeBack_19 rfl rfl rfl ?_
    refine pn_iload_n (q := 21) dX0_takeBack_20 rfl rfl ?_
    refine pn_idV (q := 24) (bc9 := 0) (bs9 := 0) (c_slotAt adK d cnt 6 S s 5 (by decide)) lkX0_25 dX0_takeBack_21 rfl rfl (hActsN_cl _ _ _ _) (hActsN_cl _ _ _ _) (Nat.le_of_ble_eq_true rfl) rfl rfl rfl rfl rfl rfl (by omega) (by omega) (by omega) (Nat.le_of_ble_eq_true rfl) ?_
    refine pn_astore_n (q := 25) dX0_takeBack_24 rfl (by decide) rfl ?_
    refine pn_aload_n (q := 26) dX0_takeBack_25 rfl rfl rfl ?_
    refine pn_ifnull_ref (q := 29) dX0_takeBack_26 rfl ?_
    refine pn_aload_n (q := 30) dX0_takeBack_29 rfl rfl rfl ?_
    refine pn_get (q := 33) fX0_9 dX0_takeBack_30 rfl rfl rfl ?_
    first | refine pn_zle (q := 36) (tgt := 56) dX0_takeBack_33 (by decide) rfl (by omega) (fun hc33 => ?_) (fun hc33 => ?_) | refine pn_if_le (q := 36) (tgt := 56) dX0_takeBack_33 (by decide) rfl (fun hc33 => ?_) (fun hc33 => ?_)
    · omega
    · refine pn_aload_n (q := 37) dX0_takeBack_36 rfl rfl rfl ?_
      refine pn_aload_n (q := 38) dX0_takeBack_37 rfl rfl rfl ?_
      refine pn_upV0 (q := 41) (bc9 := 0) (bs9 := 0) (c_become adK d s.1 s.2.1 s.2.2.1 s.2.2.2.1 s.2.2.2.2.1 s.2.2.2.2.2.1 s.2.2.2.2.2.2.1 s.2.2.2.2.2.2.2.1 s.2.2.2.2.2.2.2.2 (S 5).1 (S 5).2.1 (S 5).2.2.1 (S 5).2.2.2.1 (S 5).2.2.2.2.1 (S 5).2.2.2.2.2.1 (S 5).2.2.2.2.2.2.1 (S 5).2.2.2.2.2.2.2.1 (S 5).2.2.2.2.2.2.2.2) lkX0_29 dX0_takeBack_38 rfl rfl (pnSel_of (I := [34, 35, 36, 37, 22, 23, 24, 25]) rfl rfl) (pnFree_none rfl) rfl rfl rfl (by omega) (by omega) (by omega) (Nat.le_of_ble_eq_true rfl) ?_
      refine pn_eq (h' := (hActs cnt 6 S ++ hNS 34 (nsB (S 5) (nsF s)))) (st' := _) rfl rfl ?_
      refine pn_aload_n (q := 42) dX0_takeBack_41 rfl rfl rfl ?_
      refine pn_iload_n (q := 43) dX0_takeBack_42 rfl rfl ?_
      refine pn_put (q := 46) fX0_15 dX0_takeBack_43 rfl rfl (Nat.le_of_ble_eq_true rfl) (pnF_int _) ?_
      refine pn_aload_n (q := 47) dX0_takeBack_46 rfl rfl rfl ?_
      refine pn_dup (q := 48) dX0_takeBack_47 rfl rfl ?_
      refine pn_get (q := 51) fX0_9 dX0_takeBack_48 rfl rfl rfl ?_
      refine pn_iconst (q := 52) (v := nI 1) dX0_takeBack_51 rfl (by decide) ?_
      first | with_reducible refine pn_isubN (q := 53) dX0_takeBack_52 rfl (by omega) ?_ | refine pn_isub (q := 53) dX0_takeBack_52 rfl ?_
      refine pn_put (q := 56) fX0_9 dX0_takeBack_53 rfl rfl (Nat.le_of_ble_eq_true rfl) (pnF_int _) ?_
      refine pn_vret dX0_takeBack_56 rfl ?_
      exact ⟨rfl, rfl⟩
  · omega
set_option maxRecDepth 100000 in
theorem c_keep7 (adK : Nat → Nat) (d cnt : Nat) (S : Nat → NS) (s : NS) (hc : cnt ≤ 8) : pnCt mX0_keep adK (d + 2) 0 0 [.ref 0, .ref 34] (hActs cnt 7 S ++ hNS 34 s) (pnIs (.inl none) (hActs (min (cnt + 1) 8) 0 (upS S 7 (nsB s (nsF (S 7)))) ++ hNS 34 s)) := by
  refine pnCt_of (by decide) kX0_keep (Nat.le_of_ble_eq_true rfl) rfl (hActsN_cl _ _ _ _) (pnCS_b rfl) ?_
  refine pn_aload_n (q := 1) dX0_keep_0 rfl rfl rfl ?_
  refine pn_aload_n (q := 2) dX0_keep_1 rfl rfl rfl ?_
  refine pn_get (q := 5) fX0_15 dX0_keep_2 rfl rfl rfl ?_
  refine pn_idV (q := 8) (bc9 := 0) (bs9 := 0) (c_slotAt adK d cnt 7 S s 7 (by decide)) lkX0_25 dX0_keep_5 rfl rfl (hActsN_cl _ _ _ _) (hActsN_cl _ _ _ _) (Nat.le_of_ble_eq_true rfl) rfl rfl rfl rfl rfl rfl (by omega) (by omega) (by omega) (Nat.le_of_ble_eq_true rfl) ?_
  refine pn_astore_n (q := 9) dX0_keep_8 rfl (by decide) rfl ?_
  refine pn_aload_n (q := 10) dX0_keep_9 rfl rfl rfl ?_
  refine pn_ifnull_ref (q := 13) dX0_keep_10 rfl ?_
  refine pn_aload_n (q := 14) dX0_keep_13 rfl rfl rfl ?_
  refine pn_aload_n (q := 15) dX0_keep_14 rfl rfl rfl ?_
  refine pn_upV0 (q := 18) (bc9 := 0) (bs9 := 0) (c_become adK d (S 7).1 (S 7).2.1 (S 7).2.2.1 (S 7).2.2.2.1 (S 7).2.2.2.2.1 (S 7).2.2.2.2.2.1 (S 7).2.2.2.2.2.2.1 (S 7).2.2.2.2.2.2.2.1 (S 7).2.2.2.2.2.2.2.2 s.1 s.2.1 s.2.2.1 s.2.2.2.1 s.2.2.2.2.1 s.2.2.2.2.2.1 s.2.2.2.2.2.2.1 s.2.2.2.2.2.2.2.1 s.2.2.2.2.2.2.2.2) lkX0_29 dX0_keep_15 rfl rfl (pnSel_of (I := [30, 31, 32, 33, 34, 35, 36, 37]) rfl rfl) (pnFree_none rfl) rfl rfl rfl (by omega) (by omega) (by omega) (Nat.le_of_ble_eq_true rfl) ?_
  refine pn_eq (h' := (hActs cnt 7 (upS S 7 (nsB s (nsF (S 7)))) ++ hNS 34 s)) (st' := _) rfl rfl ?_
  refine pn_aload_n (q := 19) dX0_keep_18 rfl rfl rfl ?_
  refine pn_aload_n (q := 20) dX0_keep_19 rfl rfl rfl ?_
  refine pn_get (q := 23) fX0_15 dX0_keep_20 rfl rfl rfl ?_
  refine pn_iconst (q := 24) (v := nI 1) dX0_keep_23 rfl (by decide) ?_
  first | with_reducible refine pn_iaddN (q := 25) dX0_keep_24 rfl ?_ | refine pn_iadd (q := 25) dX0_keep_24 rfl ?_
  refine pn_bipush (q := 27) (v := nI 8) dX0_keep_25 rfl (by decide) ?_
  first | refine pn_nne (q := 30) (tgt := 34) dX0_keep_27 (by decide) rfl (by omega) (by omega) (fun hc27 => ?_) (fun hc27 => ?_) | refine pn_icmp_ne (q := 30) (tgt := 34) dX0_keep_27 (by decide) rfl (fun hc27 => ?_) (fun hc27 => ?_)
  · omega
  · refine pn_iconst (q := 31) (v := nI 0) dX0_keep_30 rfl (by decide) ?_
    refine pn_goto (q := 40) dX0_keep_31 (by decide) ?_
    refine pn_put (q := 43) fX0_15 dX0_keep_40 rfl rfl (Nat.le_of_ble_eq_true rfl) (pnF_int _) ?_
    refine pn_aload_n (q := 44) dX0_keep_43 rfl rfl rfl ?_
    refine pn_aload_n (q := 45) dX0_keep_44 rfl rfl rfl ?_
    refine pn_get (q := 48) fX0_9 dX0_keep_45 rfl rfl rfl ?_
    refine pn_iconst (q := 49) (v := nI 1) dX0_keep_48 rfl (by decide) ?_
    first | with_reducible refine pn_iaddN (q := 50) dX0_keep_49 rfl ?_ | refine pn_iadd (q := 50) dX0_keep_49 rfl ?_
    refine pn_bipush (q := 52) (v := nI 8) dX0_keep_50 rfl (by decide) ?_
    refine pn_roS1 (q := 55) (c_min adK d (cnt + 1) 8 (by omega) (by omega)) lkX0_33 dX0_keep_52 rfl rfl (pnSel_of (I := []) rfl rfl) (pnFree_none rfl) rfl (by omega) (Nat.le_of_ble_eq_true rfl) rfl ?_
    refine pn_put (q := 58) fX0_9 dX0_keep_55 rfl rfl (Nat.le_of_ble_eq_true rfl) (pnF_int _) ?_
    refine pn_vret dX0_keep_58 rfl ?_
    exact ⟨rfl, rfl⟩
set_option maxRecDepth 100000 in
theorem c_takeBack7 (adK : Nat → Nat) (d cnt : Nat) (S : Nat → NS) (s : NS) (hc : cnt ≤ 8) (hc1 : 0 < cnt) : pnCt mX0_takeBack adK (d + 2) 0 0 [.ref 0, .ref 34] (hActs cnt 7 S ++ hNS 34 s) (pnIs (.inl none) (hActs (cnt - 1) 6 S ++ hNS 34 (nsB (S 6) (nsF s)))) := by
  refine pnCt_of (by decide) kX0_takeBack (Nat.le_of_ble_eq_true rfl) rfl (hActsN_cl _ _ _ _) (pnCS_b rfl) ?_
  refine pn_aload_n (q := 1) dX0_takeBack_0 rfl rfl rfl ?_
  refine pn_get (q := 4) fX0_15 dX0_takeBack_1 rfl rfl rfl ?_
  first | refine pn_zne (q := 7) (tgt := 12) dX0_takeBack_4 (by decide) rfl (by omega) (fun hc4 => ?_) (fun hc4 => ?_) | refine pn_if_ne (q := 7) (tgt := 12) dX0_takeBack_4 (by decide) rfl (fun hc4 => ?_) (fun hc4 => ?_)
  · refine pn_aload_n (q := 13) dX0_takeBack_12 rfl rfl rfl ?_
    refine pn_get (q := 16) fX0_15 dX0_takeBack_13 rfl rfl rfl ?_
    refine pn_iconst (q := 17) (v := nI 1) dX0_takeBack_16 rfl (by decide) ?_
    first | with_reducible refine pn_isubN (q := 18) dX0_takeBack_17 rfl (by omega) ?_ | refine pn_isub (q := 18) dX0_takeBack_17 rfl ?_
    refine pn_istore_n (q := 19) dX0_takeBack_18 rfl (by decide) ?_
    refine pn_aload_n (q := 20) dX0_takeBack_19 rfl rfl rfl ?_
    refine pn_iload_n (q := 21) dX0_takeBack_20 rfl rfl ?_
    refine pn_idV (q := 24) (bc9 := 0) (bs9 := 0) (c_slotAt adK d cnt 7 S s 6 (by decide)) lkX0_25 dX0_takeBack_21 rfl rfl (hActsN_cl _ _ _ _) (hActsN_cl _ _ _ _) (Nat.le_of_ble_eq_true rfl) rfl rfl rfl rfl rfl rfl (by omega) (by omega) (by omega) (Nat.le_of_ble_eq_true rfl) ?_
    refine pn_astore_n (q := 25) dX0_takeBack_24 rfl (by decide) rfl ?_
    refine pn_aload_n (q := 26) dX0_takeBack_25 rfl rfl rfl ?_
    refine pn_ifnull_ref (q := 29) dX0_takeBack_26 rfl ?_
    refine pn_aload_n (q := 30) dX0_takeBack_29 rfl rfl rfl ?_
    refine pn_get (q := 33) fX0_9 dX0_takeBack_30 rfl rfl rfl ?_
    first | refine pn_zle (q := 36) (tgt := 56) dX0_takeBack_33 (by decide) rfl (by omega) (fun hc33 => ?_) (fun hc33 => ?_) | refine pn_if_le (q := 36) (tgt := 56) dX0_takeBack_33 (by decide) rfl (fun hc33 => ?_) (fun hc33 => ?_)
    · omega
    · refine pn_aload_n (q := 37) dX0_takeBack_36 rfl rfl rfl ?_
      refine pn_aload_n (q := 38) dX0_takeBack_37 rfl rfl rfl ?_
      refine pn_upV0 (q := 41) (bc9 := 0) (bs9 := 0) (c_become adK d s.1 s.2.1 s.2.2.1 s.2.2.2.1 s.2.2.2.2.1 s.2.2.2.2.2.1 s.2.2.2.2.2.2.1 s.2.2.2.2.2.2.2.1 s.2.2.2.2.2.2.2.2 (S 6).1 (S 6).2.1 (S 6).2.2.1 (S 6).2.2.2.1 (S 6).2.2.2.2.1 (S 6).2.2.2.2.2.1 (S 6).2.2.2.2.2.2.1 (S 6).2.2.2.2.2.2.2.1 (S 6).2.2.2.2.2.2.2.2) lkX0_29 dX0_takeBack_38 rfl rfl (pnSel_of (I := [34, 35, 36, 37, 26, 27, 28, 29]) rfl rfl) (pnFree_none rfl) rfl rfl rfl (by omega) (by omega) (by omega) (Nat.le_of_ble_eq_true rfl) ?_
      refine pn_eq (h' := (hActs cnt 7 S ++ hNS 34 (nsB (S 6) (nsF s)))) (st' := _) rfl rfl ?_
      refine pn_aload_n (q := 42) dX0_takeBack_41 rfl rfl rfl ?_
      refine pn_iload_n (q := 43) dX0_takeBack_42 rfl rfl ?_
      refine pn_put (q := 46) fX0_15 dX0_takeBack_43 rfl rfl (Nat.le_of_ble_eq_true rfl) (pnF_int _) ?_
      refine pn_aload_n (q := 47) dX0_takeBack_46 rfl rfl rfl ?_
      refine pn_dup (q := 48) dX0_takeBack_47 rfl rfl ?_
      refine pn_get (q := 51) fX0_9 dX0_takeBack_48 rfl rfl rfl ?_
      refine pn_iconst (q := 52) (v := nI 1) dX0_takeBack_51 rfl (by decide) ?_
      first | with_reducible refine pn_isubN (q := 53) dX0_takeBack_52 rfl (by omega) ?_ | refine pn_isub (q := 53) dX0_takeBack_52 rfl ?_
      refine pn_put (q := 56) fX0_9 dX0_takeBack_53 rfl rfl (Nat.le_of_ble_eq_true rfl) (pnF_int _) ?_
      refine pn_vret dX0_takeBack_56 rfl ?_
      exact ⟨rfl, rfl⟩
  · omega
