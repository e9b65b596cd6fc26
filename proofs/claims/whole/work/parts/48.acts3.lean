def slU : Nat → (Nat → Option Nat)
  | 0 => fun _ => none
  | j + 1 => va_up (slU j) j (some (2 + 4 * j))
def ntU : Nat → List pnE
  | 0 => []
  | j + 1 => ntU j ++ hNetO (2 + 4 * j) 2 0 0 3 0 0 (fun _ => 0) (fun _ => 0) (fun _ => 0)
def hAcU (j : Nat) : List pnE := [.inr (0, [.int (nI 0), .int (nI 0), .ref 1]), .inl (3, 8, .inr (.inr (.inr (.inr (slU j)))))] ++ ntU j
def ns0 : NS := (2, 0, 0, 3, 0, 0, fun _ => 0, fun _ => 0, fun _ => 0)
theorem slU_8 : slU 8 = slF := by
  funext i
  unfold slF
  by_cases h : i < 8
  · have : i = 0 ∨ i = 1 ∨ i = 2 ∨ i = 3 ∨ i = 4 ∨ i = 5 ∨ i = 6 ∨ i = 7 := by omega
    rcases this with e | e | e | e | e | e | e | e <;> subst e <;> rfl
  · rw [if_neg h]
    have h7 : ∀ k, k ≤ 7 → ¬ i = k := fun k hk => by omega
    simp only [slU, va_up]
    rw [if_neg (h7 7 (by omega)), if_neg (h7 6 (by omega)), if_neg (h7 5 (by omega)), if_neg (h7 4 (by omega)), if_neg (h7 3 (by omega)), if_neg (h7 2 (by omega)), if_neg (h7 1 (by omega)), if_neg (h7 0 (by omega))]
theorem hAcU_8 : hAcU 8 = hActs 0 0 (fun _ => ns0) := by
  unfold hAcU
  rw [slU_8]
  rfl
set_option maxRecDepth 100000 in
theorem it8 (adK : Nat → Nat) (d : Nat) : pnWP mX0_init adK (d + 2) (pnIs (.inl none) (hActs 0 0 (fun _ => ns0))) 0 0 (hAcU 8) [some (.ref 0), some (.int (nI 8))] [] 25 := by
  rw [hAcU_8]
  refine pn_iload_n (q := 26) dX0_init_25 rfl rfl ?_
  refine pn_aload_n (q := 27) dX0_init_26 rfl rfl rfl ?_
  refine pn_get (q := 30) fX0_20 dX0_init_27 rfl rfl rfl ?_
  refine pn_alen (q := 31) dX0_init_30 rfl rfl (by decide) ?_
  first | refine pn_nge (q := 34) (tgt := 53) dX0_init_31 (by decide) rfl (by omega) (by omega) (fun hc31 => ?_) (fun hc31 => ?_) | refine pn_icmp_ge (q := 34) (tgt := 53) dX0_init_31 (by decide) rfl (fun hc31 => ?_) (fun hc31 => ?_)
  · refine pn_vret dX0_init_53 rfl ?_
    exact ⟨rfl, rfl⟩
  · omega
set_option maxRecDepth 100000 in
theorem it7 (adK : Nat → Nat) (d : Nat) : pnWP mX0_init adK (d + 2) (pnIs (.inl none) (hActs 0 0 (fun _ => ns0))) 4 89 (hAcU 7) [some (.ref 0), some (.int (nI 7))] [] 25 := by
  refine pn_iload_n (q := 26) dX0_init_25 rfl rfl ?_
  refine pn_aload_n (q := 27) dX0_init_26 rfl rfl rfl ?_
  refine pn_get (q := 30) fX0_20 dX0_init_27 rfl rfl rfl ?_
  refine pn_alen (q := 31) dX0_init_30 rfl rfl (by decide) ?_
  first | refine pn_nge (q := 34) (tgt := 53) dX0_init_31 (by decide) rfl (by omega) (by omega) (fun hc31 => ?_) (fun hc31 => ?_) | refine pn_icmp_ge (q := 34) (tgt := 53) dX0_init_31 (by decide) rfl (fun hc31 => ?_) (fun hc31 => ?_)
  · omega
  · refine pn_aload_n (q := 35) dX0_init_34 rfl rfl rfl ?_
    refine pn_get (q := 38) fX0_20 dX0_init_35 rfl rfl rfl ?_
    refine pn_iload_n (q := 39) dX0_init_38 rfl rfl ?_
    refine pn_newO (q := 42) (ci := 2) (N := 9) (T := TX2) (ty0 := tyX2) (fs := [.int (nI 0), .long 0, .int (nI 0), .int (nI 0), .int (nI 0), .int (nI 0), .null, .null, .null]) pw_171 pw_109 pw_79 ow_X2 tyX2_ok rfl (by decide) rfl dX0_init_39 rfl ?_
    refine pn_dup (q := 43) dX0_init_42 rfl rfl ?_
    refine pn_upIN0 (q := 46) (bc9 := 0) (bs9 := 0) (c_NetInit adK d) lkX0_24 dX0_init_43 rfl rfl (pnSel_of (I := [30]) rfl rfl) (pnFree_none rfl) rfl (by omega) (by omega) (by omega) (Nat.le_of_ble_eq_true rfl) ?_
    refine pn_eq (h' := (hAcU 7 ++ hNetO 30 2 0 0 3 0 0 (fun _ => 0) (fun _ => 0) (fun _ => 0))) (st' := _) rfl rfl ?_
    refine pn_aast (q := 47) dX0_init_46 rfl rfl rfl rfl (by decide) (by decide) ?_
    first | refine pn_iinc1 (q := 50) dX0_init_47 rfl rfl (by decide) ?_ | refine pn_iinc (q := 50) (mm := 1) dX0_init_47 rfl rfl (by decide) (by decide) ?_
    refine pn_goto (q := 25) dX0_init_50 (by decide) ?_
    refine pn_eq (h' := hAcU 8) (st' := []) rfl rfl ?_; exact it8 adK d
set_option maxRecDepth 100000 in
theorem it6 (adK : Nat → Nat) (d : Nat) : pnWP mX0_init adK (d + 2) (pnIs (.inl none) (hActs 0 0 (fun _ => ns0))) 8 178 (hAcU 6) [some (.ref 0), some (.int (nI 6))] [] 25 := by
  refine pn_iload_n (q := 26) dX0_init_25 rfl rfl ?_
  refine pn_aload_n (q := 27) dX0_init_26 rfl rfl rfl ?_
  refine pn_get (q := 30) fX0_20 dX0_init_27 rfl rfl rfl ?_
  refine pn_alen (q := 31) dX0_init_30 rfl rfl (by decide) ?_
  first | refine pn_nge (q := 34) (tgt := 53) dX0_init_31 (by decide) rfl (by omega) (by omega) (fun hc31 => ?_) (fun hc31 => ?_) | refine pn_icmp_ge (q := 34) (tgt := 53) dX0_init_31 (by decide) rfl (fun hc31 => ?_) (fun hc31 => ?_)
  · omega
  · refine pn_aload_n (q := 35) dX0_init_34 rfl rfl rfl ?_
    refine pn_get (q := 38) fX0_20 dX0_init_35 rfl rfl rfl ?_
    refine pn_iload_n (q := 39) dX0_init_38 rfl rfl ?_
    refine pn_newO (q := 42) (ci := 2) (N := 9) (T := TX2) (ty0 := tyX2) (fs := [.int (nI 0), .long 0, .int (nI 0), .int (nI 0), .int (nI 0), .int (nI 0), .null, .null, .null]) pw_171 pw_109 pw_79 ow_X2 tyX2_ok rfl (by decide) rfl dX0_init_39 rfl ?_
    refine pn_dup (q := 43) dX0_init_42 rfl rfl ?_
    refine pn_upIN0 (q := 46) (bc9 := 4) (bs9 := 89) (c_NetInit adK d) lkX0_24 dX0_init_43 rfl rfl (pnSel_of (I := [26]) rfl rfl) (pnFree_none rfl) rfl (by omega) (by omega) (by omega) (Nat.le_of_ble_eq_true rfl) ?_
    refine pn_eq (h' := (hAcU 6 ++ hNetO 26 2 0 0 3 0 0 (fun _ => 0) (fun _ => 0) (fun _ => 0))) (st' := _) rfl rfl ?_
    refine pn_aast (q := 47) dX0_init_46 rfl rfl rfl rfl (by decide) (by decide) ?_
    first | refine pn_iinc1 (q := 50) dX0_init_47 rfl rfl (by decide) ?_ | refine pn_iinc (q := 50) (mm := 1) dX0_init_47 rfl rfl (by decide) (by decide) ?_
    refine pn_goto (q := 25) dX0_init_50 (by decide) ?_
    refine pn_eq (h' := hAcU 7) (st' := []) rfl rfl ?_; exact it7 adK d
set_option maxRecDepth 100000 in
theorem it5 (adK : Nat → Nat) (d : Nat) : pnWP mX0_init adK (d + 2) (pnIs (.inl none) (hActs 0 0 (fun _ => ns0))) 12 267 (hAcU 5) [some (.ref 0), some (.int (nI 5))] [] 25 := by
  refine pn_iload_n (q := 26) dX0_init_25 rfl rfl ?_
  refine pn_aload_n (q := 27) dX0_init_26 rfl rfl rfl ?_
  refine pn_get (q := 30) fX0_20 dX0_init_27 rfl rfl rfl ?_
  refine pn_alen (q := 31) dX0_init_30 rfl rfl (by decide) ?_
  first | refine pn_nge (q := 34) (tgt := 53) dX0_init_31 (by decide) rfl (by omega) (by omega) (fun hc31 => ?_) (fun hc31 => ?_) | refine pn_icmp_ge (q := 34) (tgt := 53) dX0_init_31 (by decide) rfl (fun hc31 => ?_) (fun hc31 => ?_)
  · omega
  · refine pn_aload_n (q := 35) dX0_init_34 rfl rfl rfl ?_
    refine pn_get (q := 38) fX0_20 dX0_init_35 rfl rfl rfl ?_
    refine pn_iload_n (q := 39) dX0_init_38 rfl rfl ?_
    refine pn_newO (q := 42) (ci := 2) (N := 9) (T := TX2) (ty0 := tyX2) (fs := [.int (nI 0), .long 0, .int (nI 0), .int (nI 0), .int (nI 0), .int (nI 0), .null, .null, .null]) pw_171 pw_109 pw_79 ow_X2 tyX2_ok rfl (by decide) rfl dX0_init_39 rfl ?_
    refine pn_dup (q := 43) dX0_init_42 rfl rfl ?_
    refine pn_upIN0 (q := 46) (bc9 := 8) (bs9 := 178) (c_NetInit adK d) lkX0_24 dX0_init_43 rfl rfl (pnSel_of (I := [22]) rfl rfl) (pnFree_none rfl) rfl (by omega) (by omega) (by omega) (Nat.le_of_ble_eq_true rfl) ?_
    refine pn_eq (h' := (hAcU 5 ++ hNetO 22 2 0 0 3 0 0 (fun _ => 0) (fun _ => 0) (fun _ => 0))) (st' := _) rfl rfl ?_
    refine pn_aast (q := 47) dX0_init_46 rfl rfl rfl rfl (by decide) (by decide) ?_
    first | refine pn_iinc1 (q := 50) dX0_init_47 rfl rfl (by decide) ?_ | refine pn_iinc (q := 50) (mm := 1) dX0_init_47 rfl rfl (by decide) (by decide) ?_
    refine pn_goto (q := 25) dX0_init_50 (by decide) ?_
    refine pn_eq (h' := hAcU 6) (st' := []) rfl rfl ?_; exact it6 adK d
set_option maxRecDepth 100000 in
theorem it4 (adK : Nat → Nat) (d : Nat) : pnWP mX0_init adK (d + 2) (pnIs (.inl none) (hActs 0 0 (fun _ => ns0))) 16 356 (hAcU 4) [some (.ref 0), some (.int (nI 4))] [] 25 := by
  refine pn_iload_n (q := 26) dX0_init_25 rfl rfl ?_
  refine pn_aload_n (q := 27) dX0_init_26 rfl rfl rfl ?_
  refine pn_get (q := 30) fX0_20 dX0_init_27 rfl rfl rfl ?_
  refine pn_alen (q := 31) dX0_init_30 rfl rfl (by decide) ?_
  first | refine pn_nge (q := 34) (tgt := 53) dX0_init_31 (by decide) rfl (by omega) (by omega) (fun hc31 => ?_) (fun hc31 => ?_) | refine pn_icmp_ge (q := 34) (tgt := 53) dX0_init_31 (by decide) rfl (fun hc31 => ?_) (fun hc31 => ?_)
  · omega
  · refine pn_aload_n (q := 35) dX0_init_34 rfl rfl rfl ?_
    refine pn_get (q := 38) fX0_20 dX0_init_35 rfl rfl rfl ?_
    refine pn_iload_n (q := 39) dX0_init_38 rfl rfl ?_
    refine pn_newO (q := 42) (ci := 2) (N := 9) (T := TX2) (ty0 := tyX2) (fs := [.int (nI 0), .long 0, .int (nI 0), .int (nI 0), .int (nI 0), .int (nI 0), .null, .null, .null]) pw_171 pw_109 pw_79 ow_X2 tyX2_ok rfl (by decide) rfl dX0_init_39 rfl ?_
    refine pn_dup (q := 43) dX0_init_42 rfl rfl ?_
    refine pn_upIN0 (q := 46) (bc9 := 12) (bs9 := 267) (c_NetInit adK d) lkX0_24 dX0_init_43 rfl rfl (pnSel_of (I := [18]) rfl rfl) (pnFree_none rfl) rfl (by omega) (by omega) (by omega) (Nat.le_of_ble_eq_true rfl) ?_
    refine pn_eq (h' := (hAcU 4 ++ hNetO 18 2 0 0 3 0 0 (fun _ => 0) (fun _ => 0) (fun _ => 0))) (st' := _) rfl rfl ?_
    refine pn_aast (q := 47) dX0_init_46 rfl rfl rfl rfl (by decide) (by decide) ?_
    first | refine pn_iinc1 (q := 50) dX0_init_47 rfl rfl (by decide) ?_ | refine pn_iinc (q := 50) (mm := 1) dX0_init_47 rfl rfl (by decide) (by decide) ?_
    refine pn_goto (q := 25) dX0_init_50 (by decide) ?_
    refine pn_eq (h' := hAcU 5) (st' := []) rfl rfl ?_; exact it5 adK d
set_option maxRecDepth 100000 in
theorem it3 (adK : Nat → Nat) (d : Nat) : pnWP mX0_init adK (d + 2) (pnIs (.inl none) (hActs 0 0 (fun _ => ns0))) 20 445 (hAcU 3) [some (.ref 0), some (.int (nI 3))] [] 25 := by
  refine pn_iload_n (q := 26) dX0_init_25 rfl rfl ?_
  refine pn_aload_n (q := 27) dX0_init_26 rfl rfl rfl ?_
  refine pn_get (q := 30) fX0_20 dX0_init_27 rfl rfl rfl ?_
  refine pn_alen (q := 31) dX0_init_30 rfl rfl (by decide) ?_
  first | refine pn_nge (q := 34) (tgt := 53) dX0_init_31 (by decide) rfl (by omega) (by omega) (fun hc31 => ?_) (fun hc31 => ?_) | refine pn_icmp_ge (q := 34) (tgt := 53) dX0_init_31 (by decide) rfl (fun hc31 => ?_) (fun hc31 => ?_)
  · omega
  · refine pn_aload_n (q := 35) dX0_init_34 rfl rfl rfl ?_
    refine pn_get (q := 38) fX0_20 dX0_init_35 rfl rfl rfl ?_
    refine pn_iload_n (q := 39) dX0_init_38 rfl rfl ?_
    refine pn_newO (q := 42) (ci := 2) (N := 9) (T := TX2) (ty0 := tyX2) (fs := [.int (nI 0), .long 0, .int (nI 0), .int (nI 0), .int (nI 0), .int (nI 0), .null, .null, .null]) pw_171 pw_109 pw_79 ow_X2 tyX2_ok rfl (by decide) rfl dX0_init_39 rfl ?_
    refine pn_dup (q := 43) dX0_init_42 rfl rfl ?_
    refine pn_upIN0 (q := 46) (bc9 := 16) (bs9 := 356) (c_NetInit adK d) lkX0_24 dX0_init_43 rfl rfl (pnSel_of (I := [14]) rfl rfl) (pnFree_none rfl) rfl (by omega) (by omega) (by omega) (Nat.le_of_ble_eq_true rfl) ?_
    refine pn_eq (h' := (hAcU 3 ++ hNetO 14 2 0 0 3 0 0 (fun _ => 0) (fun _ => 0) (fun _ => 0))) (st' := _) rfl rfl ?_
    refine pn_aast (q := 47) dX0_init_46 rfl rfl rfl rfl (by decide) (by decide) ?_
    first | refine pn_iinc1 (q := 50) dX0_init_47 rfl rfl (by decide) ?_ | refine pn_iinc (q := 50) (mm := 1) dX0_init_47 rfl rfl (by decide) (by decide) ?_
    refine pn_goto (q := 25) dX0_init_50 (by decide) ?_
    refine pn_eq (h' := hAcU 4) (st' := []) rfl rfl ?_; exact it4 adK d
set_option maxRecDepth 100000 in
theorem it2 (adK : Nat → Nat) (d : Nat) : pnWP mX0_init adK (d + 2) (pnIs (.inl none) (hActs 0 0 (fun _ => ns0))) 24 534 (hAcU 2) [some (.ref 0), some (.int (nI 2))] [] 25 := by
  refine pn_iload_n (q := 26) dX0_init_25 rfl rfl ?_
  refine pn_aload_n (q := 27) dX0_init_26 rfl rfl rfl ?_
  refine pn_get (q := 30) fX0_20 dX0_init_27 rfl rfl rfl ?_
  refine pn_alen (q := 31) dX0_init_30 rfl rfl (by decide) ?_
  first | refine pn_nge (q := 34) (tgt := 53) dX0_init_31 (by decide) rfl (by omega) (by omega) (fun hc31 => ?_) (fun hc31 => ?_) | refine pn_icmp_ge (q := 34) (tgt := 53) dX0_init_31 (by decide) rfl (fun hc31 => ?_) (fun hc31 => ?_)
  · omega
  · refine pn_aload_n (q := 35) dX0_init_34 rfl rfl rfl ?_
    refine pn_get (q := 38) fX0_20 dX0_init_35 rfl rfl rfl ?_
    refine pn_iload_n (q := 39) dX0_init_38 rfl rfl ?_
    refine pn_newO (q := 42) (ci := 2) (N := 9) (T := TX2) (ty0 := tyX2) (fs := [.int (nI 0), .long 0, .int (nI 0), .int (nI 0), .int (nI 0), .int (nI 0), .null, .null, .null]) pw_171 pw_109 pw_79 ow_X2 tyX2_ok rfl (by decide) rfl dX0_init_39 rfl ?_
    refine pn_dup (q := 43) dX0_init_42 rfl rfl ?_
    refine pn_upIN0 (q := 46) (bc9 := 20) (bs9 := 445) (c_NetInit adK d) lkX0_24 dX0_init_43 rfl rfl (pnSel_of (I := [10]) rfl rfl) (pnFree_none rfl) rfl (by omega) (by omega) (by omega) (Nat.le_of_ble_eq_true rfl) ?_
    refine pn_eq (h' := (hAcU 2 ++ hNetO 10 2 0 0 3 0 0 (fun _ => 0) (fun _ => 0) (fun _ => 0))) (st' := _) rfl rfl ?_
    refine pn_aast (q := 47) dX0_init_46 rfl rfl rfl rfl (by decide) (by decide) ?_
    first | refine pn_iinc1 (q := 50) dX0_init_47 rfl rfl (by decide) ?_ | refine pn_iinc (q := 50) (mm := 1) dX0_init_47 rfl rfl (by decide) (by decide) ?_
    refine pn_goto (q := 25) dX0_init_50 (by decide) ?_
    refine pn_eq (h' := hAcU 3) (st' := []) rfl rfl ?_; exact it3 adK d
set_option maxRecDepth 100000 in
theorem it1 (adK : Nat → Nat) (d : Nat) : pnWP mX0_init adK (d + 2) (pnIs (.inl none) (hActs 0 0 (fun _ => ns0))) 28 623 (hAcU 1) [some (.ref 0), some (.int (nI 1))] [] 25 := by
  refine pn_iload_n (q := 26) dX0_init_25 rfl rfl ?_
  refine pn_aload_n (q := 27) dX0_init_26 rfl rfl rfl ?_
  refine pn_get (q := 30) fX0_20 dX0_init_27 rfl rfl rfl ?_
  refine pn_alen (q := 31) dX0_init_30 rfl rfl (by decide) ?_
  first | refine pn_nge (q := 34) (tgt := 53) dX0_init_31 (by decide) rfl (by omega) (by omega) (fun hc31 => ?_) (fun hc31 => ?_) | refine pn_icmp_ge (q := 34) (tgt := 53) dX0_init_31 (by decide) rfl (fun hc31 => ?_) (fun hc31 => ?_)
  · omega
  · refine pn_aload_n (q := 35) dX0_init_34 rfl rfl rfl ?_
    refine pn_get (q := 38) fX0_20 dX0_init_35 rfl rfl rfl ?_
    refine pn_iload_n (q := 39) dX0_init_38 rfl rfl ?_
    refine pn_newO (q := 42) (ci := 2) (N := 9) (T := TX2) (ty0 := tyX2) (fs := [.int (nI 0), .long 0, .int (nI 0), .int (nI 0), .int (nI 0), .int (nI 0), .null, .null, .null]) pw_171 pw_109 pw_79 ow_X2 tyX2_ok rfl (by decide) rfl dX0_init_39 rfl ?_
    refine pn_dup (q := 43) dX0_init_42 rfl rfl ?_
    refine pn_upIN0 (q := 46) (bc9 := 24) (bs9 := 534) (c_NetInit adK d) lkX0_24 dX0_init_43 rfl rfl (pnSel_of (I := [6]) rfl rfl) (pnFree_none rfl) rfl (by omega) (by omega) (by omega) (Nat.le_of_ble_eq_true rfl) ?_
    refine pn_eq (h' := (hAcU 1 ++ hNetO 6 2 0 0 3 0 0 (fun _ => 0) (fun _ => 0) (fun _ => 0))) (st' := _) rfl rfl ?_
    refine pn_aast (q := 47) dX0_init_46 rfl rfl rfl rfl (by decide) (by decide) ?_
    first | refine pn_iinc1 (q := 50) dX0_init_47 rfl rfl (by decide) ?_ | refine pn_iinc (q := 50) (mm := 1) dX0_init_47 rfl rfl (by decide) (by decide) ?_
    refine pn_goto (q := 25) dX0_init_50 (by decide) ?_
    refine pn_eq (h' := hAcU 2) (st' := []) rfl rfl ?_; exact it2 adK d
set_option maxRecDepth 100000 in
theorem it0 (adK : Nat → Nat) (d : Nat) : pnWP mX0_init adK (d + 2) (pnIs (.inl none) (hActs 0 0 (fun _ => ns0))) 32 712 (hAcU 0) [some (.ref 0), some (.int (nI 0))] [] 25 := by
  refine pn_iload_n (q := 26) dX0_init_25 rfl rfl ?_
  refine pn_aload_n (q := 27) dX0_init_26 rfl rfl rfl ?_
  refine pn_get (q := 30) fX0_20 dX0_init_27 rfl rfl rfl ?_
  refine pn_alen (q := 31) dX0_init_30 rfl rfl (by decide) ?_
  first | refine pn_nge (q := 34) (tgt := 53) dX0_init_31 (by decide) rfl (by omega) (by omega) (fun hc31 => ?_) (fun hc31 => ?_) | refine pn_icmp_ge (q := 34) (tgt := 53) dX0_init_31 (by decide) rfl (fun hc31 => ?_) (fun hc31 => ?_)
  · omega
  · refine pn_aload_n (q := 35) dX0_init_34 rfl rfl rfl ?_
    refine pn_get (q := 38) fX0_20 dX0_init_35 rfl rfl rfl ?_
    refine pn_iload_n (q := 39) dX0_init_38 rfl rfl ?_
    refine pn_newO (q := 42) (ci := 2) (N := 9) (T := TX2) (ty0 := tyX2) (fs := [.int (nI 0), .long 0, .int (nI 0), .int (nI 0), .int (nI 0), .int (nI 0), .null, .null, .null]) pw_171 pw_109 pw_79 ow_X2 tyX2_ok rfl (by decide) rfl dX0_init_39 rfl ?_
    refine pn_dup (q := 43) dX0_init_42 rfl rfl ?_
    refine pn_upIN0 (q := 46) (bc9 := 28) (bs9 := 623) (c_NetInit adK d) lkX0_24 dX0_init_43 rfl rfl (pnSel_of (I := [2]) rfl rfl) (pnFree_none rfl) rfl (by omega) (by omega) (by omega) (Nat.le_of_ble_eq_true rfl) ?_
    refine pn_eq (h' := (hAcU 0 ++ hNetO 2 2 0 0 3 0 0 (fun _ => 0) (fun _ => 0) (fun _ => 0))) (st' := _) rfl rfl ?_
    refine pn_aast (q := 47) dX0_init_46 rfl rfl rfl rfl (by decide) (by decide) ?_
    first | refine pn_iinc1 (q := 50) dX0_init_47 rfl rfl (by decide) ?_ | refine pn_iinc (q := 50) (mm := 1) dX0_init_47 rfl rfl (by decide) (by decide) ?_
    refine pn_goto (q := 25) dX0_init_50 (by decide) ?_
    refine pn_eq (h' := hAcU 1) (st' := []) rfl rfl ?_; exact it1 adK d
set_option maxRecDepth 100000 in
theorem c_ActInit (adK : Nat → Nat) (d : Nat) : pnCt mX0_init adK (d + 2) 33 720 [.ref 0] [.inr (0, [.int (nI 0), .int (nI 0), .null])] (pnIs (.inl none) (hActs 0 0 (fun _ => ns0))) := by
  refine pnCt_of (by decide) kX0_init (Nat.le_of_ble_eq_true rfl) rfl (pnCH_b rfl) (pnCS_b rfl) ?_
  refine pn_room (bc' := 32 + 1) (bs' := 712 + 8) (by omega) (by omega) ?_
  refine pn_aload_n (q := 1) dX0_init_0 rfl rfl rfl ?_
  refine pn_obj (q := 4) pw_170 pw_106 pw_107 dX0_init_1 rfl (by omega) (Nat.le_of_ble_eq_true rfl) ?_
  refine pn_aload_n (q := 5) dX0_init_4 rfl rfl rfl ?_
  refine pn_iconst (q := 6) (v := nI 0) dX0_init_5 rfl (by decide) ?_
  refine pn_put (q := 9) fX0_9 dX0_init_6 rfl rfl (Nat.le_of_ble_eq_true rfl) (pnF_int _) ?_
  refine pn_aload_n (q := 10) dX0_init_9 rfl rfl rfl ?_
  refine pn_iconst (q := 11) (v := nI 0) dX0_init_10 rfl (by decide) ?_
  refine pn_put (q := 14) fX0_15 dX0_init_11 rfl rfl (Nat.le_of_ble_eq_true rfl) (pnF_int _) ?_
  refine pn_aload_n (q := 15) dX0_init_14 rfl rfl rfl ?_
  refine pn_bipush (q := 17) (v := nI 8) dX0_init_15 rfl (by decide) ?_
  refine pn_newq (q := 20) pw_171 pq_172 dX0_init_17 rfl rfl (by decide) ?_
  refine pn_putF (q := 23) fX0_20 rfl hdeclX0 dX0_init_20 rfl rfl (Nat.le_of_ble_eq_true rfl) (pnF_arr rfl) ?_
  refine pn_iconst (q := 24) (v := nI 0) dX0_init_23 rfl (by decide) ?_
  refine pn_istore_n (q := 25) dX0_init_24 rfl (by decide) ?_
  exact it0 adK d
