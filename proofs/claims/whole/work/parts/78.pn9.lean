/-! ===== a new PartedNet ===== -/
def rs0 : RS := (-1, 0, 0, 0, 0, 0, false, 0, 0, ns0, fun _ => 0, fun _ => 0, fun _ => 0)
def nsI : NS := (3, 7, 0, 3, 0, 0, fun _ => 0, fun _ => 0, fun _ => 0)
def asI : AS := (0, 0, fun _ => ns0)
def qsI : QS := (9, 0, rs0)
def csI : CS := (0, 0, fun _ => 0, fun _ => 0, 0, 0, 0, 0, 0, 0, fun _ => 0)
def wsI : WS := (0, 0, false, 0, fun _ => 0, fun _ => 0, false, 0, 0, 0, 0)
def ssI : SS := (0, fun _ => 0, fun _ => 0)
def pnOb (v0 v1 v2 v3 v4 v5 v6 v7 v8 : Value) : pnE := .inr (6, [v0, .int (nI 0), .int (-1), v1, v2, v3, v4, v5, v6, v7, v8])
def J0 : List Nat := pnJ [6] 7 34
def hPa0 : List pnE := .inr (0, [.int (nI 0), .int (nI 0), .ref 7]) :: .inl (3, 8, .inr (.inr (.inr (.inr (fun j => (slF j).map (fun k => J0.getD k 0)))))) :: (hNS 8 ns0 ++ (hNS 12 ns0 ++ (hNS 16 ns0 ++ (hNS 20 ns0 ++ (hNS 24 ns0 ++ (hNS 28 ns0 ++ (hNS 32 ns0 ++ hNS 36 ns0)))))))
theorem hPa0_eq : hPa0 = hPa asI := by
  have e : (fun j => (slF j).map (fun k => J0.getD k 0)) = (fun j => (slF j).map (fun k => IA.getD k 0)) := by
    funext j
    cases hs : slF j with
    | none => rfl
    | some y =>
      have hy := slF_lt hs
      exact congrArg some ((show ∀ y, y < 34 → J0.getD y 0 = IA.getD y 0 by decide) y hy)
  unfold hPa0
  rw [e]
  rfl
set_option maxRecDepth 100000 in
theorem p_init (adK : Nat → Nat) (d : Nat) : pnCt mX6_init adK (d + 3) 60 1751 [.ref 0] [.inr (6, [.null, .int (nI 0), .int (nI 0), .null, .null, .null, .null, .null, .null, .null, .null])] (pnIs (.inl none) (hP (fun _ => 0) 0 (-1) nsI asI qsI csI wsI ssI (fun _ => 0) (fun _ => 0))) := by
  refine pnCt_of (by decide) kX6_init (Nat.le_of_ble_eq_true rfl) rfl (pnCH_b rfl) (pnCS_b rfl) ?_
  refine pn_aload_n (q := 1) dX6_init_0 rfl rfl rfl ?_
  refine pn_obj (q := 4) pw_105 pw_106 pw_107 dX6_init_1 rfl (by omega) (Nat.le_of_ble_eq_true rfl) ?_
  refine pn_aload_n (q := 5) dX6_init_4 rfl rfl rfl ?_
  refine pn_sipush (q := 8) (v := nI 300) dX6_init_5 rfl (by decide) ?_
  refine pn_newb (q := 10) pw_162 dX6_init_8 rfl rfl (by first | decide | omega) ?_
  refine pn_putF (q := 13) fX6_9 rfl hdeclX6 dX6_init_10 rfl rfl (Nat.le_of_ble_eq_true rfl) (pnF_arr rfl) ?_
  refine pn_aload_n (q := 14) dX6_init_13 rfl rfl rfl ?_
  refine pn_iconst (q := 15) (v := nI 0) dX6_init_14 rfl (by decide) ?_
  refine pn_put (q := 18) fX6_13 dX6_init_15 rfl rfl (Nat.le_of_ble_eq_true rfl) (pnF_int _) ?_
  refine pn_aload_n (q := 19) dX6_init_18 rfl rfl rfl ?_
  refine pn_iconst (q := 20) (v := (-1)) dX6_init_19 rfl (by decide) ?_
  refine pn_put (q := 23) fX6_17 dX6_init_20 rfl rfl (Nat.le_of_ble_eq_true rfl) (pnF_int _) ?_
  refine pn_aload_n (q := 24) dX6_init_23 rfl rfl rfl ?_
  refine pn_newO (q := 27) (ci := 2) (N := 9) (T := TX2) (ty0 := tyX2) (fs := [.int (nI 0), .long 0, .int (nI 0), .int (nI 0), .int (nI 0), .int (nI 0), .null, .null, .null]) pw_108 pw_109 pw_79 ow_X2 tyX2_ok rfl (by decide) rfl dX6_init_24 rfl ?_
  refine pn_dup (q := 28) dX6_init_27 rfl rfl ?_
  refine pn_upIN0 (q := 31) (bc9 := 55) (bs9 := 1362) (c_NetInit adK d) lkX6_22 dX6_init_28 rfl rfl (pnSel_of (I := [2]) rfl rfl) (pnFree_none rfl) rfl (by omega) (by omega) (by omega) (Nat.le_of_ble_eq_true rfl) ?_
  refine pn_eq (h' := ([pnOb (.ref 1) .null .null .null .null .null .null .null .null, .inl (2, 300, .inl (fun _ => 0))] ++ hNS 2 ns0)) (st' := _) rfl rfl ?_
  refine pn_putF (q := 34) fX6_23 rfl hdeclX6 dX6_init_31 rfl rfl (Nat.le_of_ble_eq_true rfl) (pnF_obj rfl) ?_
  refine pn_aload_n (q := 35) dX6_init_34 rfl rfl rfl ?_
  refine pn_newO (q := 38) (ci := 0) (N := 3) (T := TX0) (ty0 := tyX0) (fs := [.int (nI 0), .int (nI 0), .null]) pw_165 pw_166 pw_80 ow_X0 tyX0_ok rfl (by decide) rfl dX6_init_35 rfl ?_
  refine pn_dup (q := 39) dX6_init_38 rfl rfl ?_
  refine pn_upI0 (q := 42) (bc9 := 21) (bs9 := 639) (c_ActInit adK d) lkX6_29 dX6_init_39 rfl rfl (pnSel_of (I := [6]) rfl rfl) (pnFree_none rfl) rfl (by omega) (by omega) (by omega) (Nat.le_of_ble_eq_true rfl) ?_
  refine pn_eq (h' := _) (st' := _) ((show pnBack _ _ _ = [(pnOb (.ref 1) (.ref 2) .null .null .null .null .null .null .null), .inl (2, 300, .inl (fun _ => 0))] ++ (hNS 2 ns0 ++ hPa0) from rfl).trans (show [(pnOb (.ref 1) (.ref 2) .null .null .null .null .null .null .null), .inl (2, 300, .inl (fun _ => 0))] ++ (hNS 2 ns0 ++ hPa0) = ([(pnOb (.ref 1) (.ref 2) .null .null .null .null .null .null .null), .inl (2, 300, .inl (fun _ => 0))] ++ (hNS 2 ns0 ++ hPa asI)) by rw [hPa0_eq])) rfl ?_
  refine pn_putF (q := 45) fX6_30 rfl hdeclX6 dX6_init_42 rfl rfl (Nat.le_of_ble_eq_true rfl) (pnF_obj rfl) ?_
  refine pn_aload_n (q := 46) dX6_init_45 rfl rfl rfl ?_
  refine pn_newO (q := 49) (ci := 3) (N := 15) (T := TX3) (ty0 := tyX3) (fs := [.null, .int (nI 0), .int (nI 0), .null, .int (nI 0), .int (nI 0), .int (nI 0), .int (nI 0), .int (nI 0), .int (nI 0), .int (nI 0), .int (nI 0), .null, .null, .null]) pw_185 pw_186 pw_81 ow_X3 tyX3_ok rfl (by decide) rfl dX6_init_46 rfl ?_
  refine pn_dup (q := 50) dX6_init_49 rfl rfl ?_
  refine pn_upIN0 (q := 53) (bc9 := 12) (bs9 := 231) (c_ReaderInit adK d) lkX6_36 dX6_init_50 rfl rfl (pnSel_of (I := [40]) rfl rfl) (pnFree_none rfl) rfl (by omega) (by omega) (by omega) (Nat.le_of_ble_eq_true rfl) ?_
  refine pn_eq (h' := ([(pnOb (.ref 1) (.ref 2) (.ref 6) .null .null .null .null .null .null), .inl (2, 300, .inl (fun _ => 0))] ++ (hNS 2 ns0 ++ (hPa asI ++ hPr qsI)))) (st' := _) rfl rfl ?_
  refine pn_putF (q := 56) fX6_37 rfl hdeclX6 dX6_init_53 rfl rfl (Nat.le_of_ble_eq_true rfl) (pnF_obj rfl) ?_
  refine pn_aload_n (q := 57) dX6_init_56 rfl rfl rfl ?_
  refine pn_newO (q := 60) (ci := 1) (N := 10) (T := TX1) (ty0 := tyX1) (fs := [.int (nI 0), .null, .null, .long 0, .int (nI 0), .int (nI 0), .int (nI 0), .long 0, .int (nI 0), .null]) pw_241 pw_242 pw_82 ow_X1 tyX1_ok rfl (by decide) rfl dX6_init_57 rfl ?_
  refine pn_dup (q := 61) dX6_init_60 rfl rfl ?_
  refine pn_upIN0 (q := 64) (bc9 := 8) (bs9 := 160) (c_CatInit adK d) lkX6_43 dX6_init_61 rfl rfl (pnSel_of (I := [49]) rfl rfl) (pnFree_none rfl) rfl (by omega) (by omega) (by omega) (Nat.le_of_ble_eq_true rfl) ?_
  refine pn_eq (h' := ([(pnOb (.ref 1) (.ref 2) (.ref 6) (.ref 40) .null .null .null .null .null), .inl (2, 300, .inl (fun _ => 0))] ++ (hNS 2 ns0 ++ (hPa asI ++ (hPr qsI ++ hPc csI))))) (st' := _) rfl rfl ?_
  refine pn_putF (q := 67) fX6_44 rfl hdeclX6 dX6_init_64 rfl rfl (Nat.le_of_ble_eq_true rfl) (pnF_obj rfl) ?_
  refine pn_aload_n (q := 68) dX6_init_67 rfl rfl rfl ?_
  refine pn_newO (q := 71) (ci := 5) (N := 11) (T := TX5) (ty0 := tyX5) (fs := [.int (nI 0), .int (nI 0), .int (nI 0), .int (nI 0), .null, .null, .int (nI 0), .long 0, .int (nI 0), .int (nI 0), .int (nI 0)]) pw_286 pw_287 pw_83 ow_X5 tyX5_ok rfl (by decide) rfl dX6_init_68 rfl ?_
  refine pn_dup (q := 72) dX6_init_71 rfl rfl ?_
  refine pn_upIN0 (q := 75) (bc9 := 5) (bs9 := 39) (c_WalkInit adK d) lkX6_50 dX6_init_72 rfl rfl (pnSel_of (I := [53]) rfl rfl) (pnFree_none rfl) rfl (by omega) (by omega) (by omega) (Nat.le_of_ble_eq_true rfl) ?_
  refine pn_eq (h' := ([(pnOb (.ref 1) (.ref 2) (.ref 6) (.ref 40) (.ref 49) .null .null .null .null), .inl (2, 300, .inl (fun _ => 0))] ++ (hNS 2 ns0 ++ (hPa asI ++ (hPr qsI ++ (hPc csI ++ hPw wsI)))))) (st' := _) rfl rfl ?_
  refine pn_putF (q := 78) fX6_51 rfl hdeclX6 dX6_init_75 rfl rfl (Nat.le_of_ble_eq_true rfl) (pnF_obj rfl) ?_
  refine pn_aload_n (q := 79) dX6_init_78 rfl rfl rfl ?_
  refine pn_newO (q := 82) (ci := 4) (N := 3) (T := TX4) (ty0 := tyX4) (fs := [.null, .null, .int (nI 0)]) pw_331 pw_332 pw_84 ow_X4 tyX4_ok rfl (by decide) rfl dX6_init_79 rfl ?_
  refine pn_dup (q := 83) dX6_init_82 rfl rfl ?_
  refine pn_upIN0 (q := 86) (bc9 := 2) (bs9 := 8) (c_ShaInit adK d) lkX6_57 dX6_init_83 rfl rfl (pnSel_of (I := [56]) rfl rfl) (pnFree_none rfl) rfl (by omega) (by omega) (by omega) (Nat.le_of_ble_eq_true rfl) ?_
  refine pn_eq (h' := ([(pnOb (.ref 1) (.ref 2) (.ref 6) (.ref 40) (.ref 49) (.ref 53) .null .null .null), .inl (2, 300, .inl (fun _ => 0))] ++ (hNS 2 ns0 ++ (hPa asI ++ (hPr qsI ++ (hPc csI ++ (hPw wsI ++ hPs ssI))))))) (st' := _) rfl rfl ?_
  refine pn_putF (q := 89) fX6_58 rfl hdeclX6 dX6_init_86 rfl rfl (Nat.le_of_ble_eq_true rfl) (pnF_obj rfl) ?_
  refine pn_aload_n (q := 90) dX6_init_89 rfl rfl rfl ?_
  refine pn_iconst (q := 91) (v := nI 5) dX6_init_90 rfl (by decide) ?_
  refine pn_newi (q := 93) pw_164 dX6_init_91 rfl rfl (by first | decide | omega) ?_
  refine pn_putF (q := 96) fX6_62 rfl hdeclX6 dX6_init_93 rfl rfl (Nat.le_of_ble_eq_true rfl) (pnF_arr rfl) ?_
  refine pn_aload_n (q := 97) dX6_init_96 rfl rfl rfl ?_
  refine pn_iconst (q := 98) (v := nI 3) dX6_init_97 rfl (by decide) ?_
  refine pn_newi (q := 100) pw_164 dX6_init_98 rfl rfl (by first | decide | omega) ?_
  refine pn_putF (q := 103) fX6_66 rfl hdeclX6 dX6_init_100 rfl rfl (Nat.le_of_ble_eq_true rfl) (pnF_arr rfl) ?_
  refine pn_aload_n (q := 104) dX6_init_103 rfl rfl rfl ?_
  refine pn_get (q := 107) fX6_23 dX6_init_104 rfl rfl rfl ?_
  refine pn_iconst (q := 108) (v := nI 3) dX6_init_107 rfl (by decide) ?_
  refine pn_put (q := 111) fX6_69 dX6_init_108 rfl rfl (Nat.le_of_ble_eq_true rfl) (pnF_int _) ?_
  refine pn_aload_n (q := 112) dX6_init_111 rfl rfl rfl ?_
  refine pn_get (q := 115) fX6_23 dX6_init_112 rfl rfl rfl ?_
  refine pn_ldc2 (q := 118) pw_347 dX6_init_115 rfl ?_
  refine pn_put (q := 121) fX6_74 dX6_init_118 rfl rfl (Nat.le_of_ble_eq_true rfl) (pnF_long _) ?_
  refine pn_vret dX6_init_121 rfl ?_
  exact ⟨rfl, rfl⟩
