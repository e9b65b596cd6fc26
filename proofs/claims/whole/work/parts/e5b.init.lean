/-! ===== the reference's constructor ===== -/
def mnZ : MN := (0, 0, 0, 0, 0, 0, fun _ => 0, fun _ => 0)
def mnI : MN := (3, 7, 0, 3, 0, 0, fun _ => 0, fun _ => 0)
def g0I : G0 := (0, fun _ => 0, 0, -1, 0)
def g1I : G1 := (0, 0, 0, 0, fun _ => 0, fun _ => 0, fun _ => 0, fun _ => 0, 0, false)
def g3I : G3 := (fun _ => 0, 0)
def g4I : G4 := (0, fun _ => 0, 0, fun _ => 0, fun _ => 0, 0, 0, 0, 0)
def g5I : G5 := (0, 0)
def g6I : G6 := (fun _ => 0, fun _ => 0, 0, 0, 0, false)
def g7I : G7 := (fun _ => 0, 0)
theorem nowF_Z : nowF mnZ = fun _ => 0 := by
  funext j
  unfold nowF mnZ
  repeat' split
  all_goals rfl
theorem nowF_I : nowF mnI = vp_updL (vp_updL (vp_updL (fun _ => 0) 0 3) 2 3) 29 7 := by
  funext j
  unfold nowF mnI vp_updL
  by_cases h0 : j = 0
  · subst h0; rfl
  by_cases h2 : j = 2
  · subst h2; rfl
  by_cases h29 : j = 29
  · subst h29; rfl
  rw [if_neg h29, if_neg h2, if_neg h0, if_neg h0]
  repeat' split
  all_goals first | rfl | (exfalso; omega)
def mdI : List pnE := hM mnI (fun _ => mnZ) g0I g1I g3I g4I g5I g6I g7I
def mdJ : List pnE :=
  [.inr (7, [.int (nI 0), .ref 1, .int (nI 0), .int (nI 0), .int (nI 0), .int (-1), .int (nI 0), .int (nI 0), .ref 2, .ref 3, .ref 4, .ref 5, .int (nI 0), .ref 14, .int (nI 0), .ref 15, .ref 16, .int (nI 0), .int (nI 0), .ref 17, .ref 18, .ref 19, .long 0, .long 0, .long 0, .int (nI 0), .long 0, .long 0, .ref 20, .ref 21, .int (nI 0), .int (nI 0), .int (nI 0), .int (nI 0), .ref 22, .int (nI 0)]),
   .inl (0, 3, .inl (fun _ => 0)), .inl (0, 300, .inl (fun _ => 0)), .inl (1, 90, .inr (.inl (vp_updL (vp_updL (vp_updL (fun _ => 0) 0 3) 2 3) 29 7))), .inl (1, 90, .inr (.inl (fun _ => 0))), .inl (4, 8, .inr (.inr (.inr (.inr ptF)))),
   .inl (1, 90, .inr (.inl (fun _ => 0))), .inl (1, 90, .inr (.inl (fun _ => 0))), .inl (1, 90, .inr (.inl (fun _ => 0))), .inl (1, 90, .inr (.inl (fun _ => 0))), .inl (1, 90, .inr (.inl (fun _ => 0))), .inl (1, 90, .inr (.inl (fun _ => 0))), .inl (1, 90, .inr (.inl (fun _ => 0))), .inl (1, 90, .inr (.inl (fun _ => 0))),
   .inl (0, 5, .inl (fun _ => 0)), .inl (0, 1500, .inl (fun _ => 0)), .inl (0, 300, .inl (fun _ => 0)), .inl (5, 0, .inr (.inl (fun _ => 0))), .inl (5, 0, .inr (.inl (fun _ => 0))), .inl (0, 57, .inl (fun _ => 0)), .inl (1, 55, .inr (.inl (fun _ => 0))), .inl (1, 55, .inr (.inl (fun _ => 0))), .inl (0, 15, .inl (fun _ => 0))]
theorem mdI_eq : mdI = mdJ := by
  unfold mdI hM
  simp only [nowF_I, nowF_Z]
  rfl
def md0 : List Value := [.int (nI 0), .null, .int (nI 0), .int (nI 0), .int (nI 0), .int (nI 0), .int (nI 0), .int (nI 0), .null, .null, .null, .null, .int (nI 0), .null, .int (nI 0), .null, .null, .int (nI 0), .int (nI 0), .null, .null, .null, .long 0, .long 0, .long 0, .int (nI 0), .long 0, .long 0, .null, .null, .int (nI 0), .int (nI 0), .int (nI 0), .int (nI 0), .null, .int (nI 0)]
def mi (v1 v5 v8 v9 v10 v11 v13 v15 v16 v19 v20 v21 v28 v29 v34 : Value) : pnE := .inr (7, [.int (nI 0), v1, .int (nI 0), .int (nI 0), .int (nI 0), v5, .int (nI 0), .int (nI 0), v8, v9, v10, v11, .int (nI 0), v13, .int (nI 0), v15, v16, .int (nI 0), .int (nI 0), v19, v20, v21, .long 0, .long 0, .long 0, .int (nI 0), .long 0, .long 0, v28, v29, .int (nI 0), .int (nI 0), .int (nI 0), .int (nI 0), v34, .int (nI 0)])
set_option maxRecDepth 100000 in
theorem m_init (adK : Nat → Nat) (d : Nat) : pnCt mX7_init adK (d + 1) 22 3198 [.ref 0] [.inr (7, md0)] (pnIs (.inl none) mdI) := by
  rw [mdI_eq]
  refine pnCt_of (by decide) kX7_init (Nat.le_of_ble_eq_true rfl) rfl (pnCH_b rfl) (pnCS_b rfl) ?_
  refine pn_aload_n (q := 1) dX7_init_0 rfl rfl rfl ?_
  refine pn_obj (q := 4) pw_1074 pw_106 pw_107 dX7_init_1 rfl (by omega) (Nat.le_of_ble_eq_true rfl) ?_
  refine pn_aload_n (q := 5) dX7_init_4 rfl rfl rfl ?_
  refine pn_iconst (q := 6) (v := nI 3) dX7_init_5 rfl (by decide) ?_
  refine pn_newi (q := 8) pw_164 dX7_init_6 rfl rfl (by first | decide | omega) ?_
  (refine pn_putF (q := 11) fX7_9 rfl hdeclX7 dX7_init_8 rfl rfl (Nat.le_of_ble_eq_true rfl) (pnF_arr rfl) ?_)
  refine pn_eq (h' := (mi (.ref 1) (.int (nI 0)) .null .null .null .null .null .null .null .null .null .null .null .null .null :: [(.inl (0, 3, .inl (fun _ => 0)) : pnE)])) (st' := _) rfl rfl ?_
  refine pn_aload_n (q := 12) dX7_init_11 rfl rfl rfl ?_
  refine pn_iconst (q := 13) (v := (-1)) dX7_init_12 rfl (by decide) ?_
  (refine pn_put (q := 16) fX7_13 dX7_init_13 rfl rfl (Nat.le_of_ble_eq_true rfl) (pnF_int _) ?_)
  refine pn_eq (h' := (mi (.ref 1) (.int (-1)) .null .null .null .null .null .null .null .null .null .null .null .null .null :: [(.inl (0, 3, .inl (fun _ => 0)) : pnE)])) (st' := _) rfl rfl ?_
  refine pn_aload_n (q := 17) dX7_init_16 rfl rfl rfl ?_
  refine pn_sipush (q := 20) (v := nI 300) dX7_init_17 rfl (by decide) ?_
  refine pn_newi (q := 22) pw_164 dX7_init_20 rfl rfl (by first | decide | omega) ?_
  (refine pn_putF (q := 25) fX7_17 rfl hdeclX7 dX7_init_22 rfl rfl (Nat.le_of_ble_eq_true rfl) (pnF_arr rfl) ?_)
  refine pn_eq (h' := (mi (.ref 1) (.int (-1)) (.ref 2) .null .null .null .null .null .null .null .null .null .null .null .null :: [(.inl (0, 3, .inl (fun _ => 0)) : pnE), (.inl (0, 300, .inl (fun _ => 0)) : pnE)])) (st' := _) rfl rfl ?_
  refine pn_aload_n (q := 26) dX7_init_25 rfl rfl rfl ?_
  refine pn_bipush (q := 28) (v := nI 90) dX7_init_26 rfl (by decide) ?_
  refine pn_newl (q := 30) pw_163 dX7_init_28 rfl rfl (by first | decide | omega) ?_
  (refine pn_putF (q := 33) fX7_20 rfl hdeclX7 dX7_init_30 rfl rfl (Nat.le_of_ble_eq_true rfl) (pnF_arr rfl) ?_)
  refine pn_eq (h' := (mi (.ref 1) (.int (-1)) (.ref 2) (.ref 3) .null .null .null .null .null .null .null .null .null .null .null :: [(.inl (0, 3, .inl (fun _ => 0)) : pnE), (.inl (0, 300, .inl (fun _ => 0)) : pnE), (.inl (1, 90, .inr (.inl (fun _ => 0))) : pnE)])) (st' := _) rfl rfl ?_
  refine pn_aload_n (q := 34) dX7_init_33 rfl rfl rfl ?_
  refine pn_bipush (q := 36) (v := nI 90) dX7_init_34 rfl (by decide) ?_
  refine pn_newl (q := 38) pw_163 dX7_init_36 rfl rfl (by first | decide | omega) ?_
  (refine pn_putF (q := 41) fX7_24 rfl hdeclX7 dX7_init_38 rfl rfl (Nat.le_of_ble_eq_true rfl) (pnF_arr rfl) ?_)
  refine pn_eq (h' := (mi (.ref 1) (.int (-1)) (.ref 2) (.ref 3) (.ref 4) .null .null .null .null .null .null .null .null .null .null :: [(.inl (0, 3, .inl (fun _ => 0)) : pnE), (.inl (0, 300, .inl (fun _ => 0)) : pnE), (.inl (1, 90, .inr (.inl (fun _ => 0))) : pnE), (.inl (1, 90, .inr (.inl (fun _ => 0))) : pnE)])) (st' := _) rfl rfl ?_
  refine pn_aload_n (q := 42) dX7_init_41 rfl rfl rfl ?_
  refine pn_bipush (q := 44) (v := nI 8) dX7_init_42 rfl (by decide) ?_
  refine pn_bipush (q := 46) (v := nI 90) dX7_init_44 rfl (by decide) ?_
  refine pn_multi (q := 50) pw_1075 pq_1076 pw_163 dX7_init_46 rfl rfl rfl ?_
  (refine pn_putF (q := 53) fX7_29 rfl hdeclX7 dX7_init_50 rfl rfl (Nat.le_of_ble_eq_true rfl) (pnF_arr rfl) ?_)
  refine pn_eq (h' := (mi (.ref 1) (.int (-1)) (.ref 2) (.ref 3) (.ref 4) (.ref 5) .null .null .null .null .null .null .null .null .null :: [(.inl (0, 3, .inl (fun _ => 0)) : pnE), (.inl (0, 300, .inl (fun _ => 0)) : pnE), (.inl (1, 90, .inr (.inl (fun _ => 0))) : pnE), (.inl (1, 90, .inr (.inl (fun _ => 0))) : pnE), (.inl (4, 8, .inr (.inr (.inr (.inr ptF)))) : pnE), (.inl (1, 90, .inr (.inl (fun _ => 0))) : pnE), (.inl (1, 90, .inr (.inl (fun _ => 0))) : pnE), (.inl (1, 90, .inr (.inl (fun _ => 0))) : pnE), (.inl (1, 90, .inr (.inl (fun _ => 0))) : pnE), (.inl (1, 90, .inr (.inl (fun _ => 0))) : pnE), (.inl (1, 90, .inr (.inl (fun _ => 0))) : pnE), (.inl (1, 90, .inr (.inl (fun _ => 0))) : pnE), (.inl (1, 90, .inr (.inl (fun _ => 0))) : pnE)])) (st' := _) rfl rfl ?_
  refine pn_aload_n (q := 54) dX7_init_53 rfl rfl rfl ?_
  refine pn_iconst (q := 55) (v := nI 5) dX7_init_54 rfl (by decide) ?_
  refine pn_newi (q := 57) pw_164 dX7_init_55 rfl rfl (by first | decide | omega) ?_
  (refine pn_putF (q := 60) fX7_32 rfl hdeclX7 dX7_init_57 rfl rfl (Nat.le_of_ble_eq_true rfl) (pnF_arr rfl) ?_)
  refine pn_eq (h' := (mi (.ref 1) (.int (-1)) (.ref 2) (.ref 3) (.ref 4) (.ref 5) (.ref 14) .null .null .null .null .null .null .null .null :: [(.inl (0, 3, .inl (fun _ => 0)) : pnE), (.inl (0, 300, .inl (fun _ => 0)) : pnE), (.inl (1, 90, .inr (.inl (fun _ => 0))) : pnE), (.inl (1, 90, .inr (.inl (fun _ => 0))) : pnE), (.inl (4, 8, .inr (.inr (.inr (.inr ptF)))) : pnE), (.inl (1, 90, .inr (.inl (fun _ => 0))) : pnE), (.inl (1, 90, .inr (.inl (fun _ => 0))) : pnE), (.inl (1, 90, .inr (.inl (fun _ => 0))) : pnE), (.inl (1, 90, .inr (.inl (fun _ => 0))) : pnE), (.inl (1, 90, .inr (.inl (fun _ => 0))) : pnE), (.inl (1, 90, .inr (.inl (fun _ => 0))) : pnE), (.inl (1, 90, .inr (.inl (fun _ => 0))) : pnE), (.inl (1, 90, .inr (.inl (fun _ => 0))) : pnE), (.inl (0, 5, .inl (fun _ => 0)) : pnE)])) (st' := _) rfl rfl ?_
  refine pn_aload_n (q := 61) dX7_init_60 rfl rfl rfl ?_
  refine pn_sipush (q := 64) (v := nI 1500) dX7_init_61 rfl (by decide) ?_
  refine pn_newi (q := 66) pw_164 dX7_init_64 rfl rfl (by first | decide | omega) ?_
  (refine pn_putF (q := 69) fX7_35 rfl hdeclX7 dX7_init_66 rfl rfl (Nat.le_of_ble_eq_true rfl) (pnF_arr rfl) ?_)
  refine pn_eq (h' := (mi (.ref 1) (.int (-1)) (.ref 2) (.ref 3) (.ref 4) (.ref 5) (.ref 14) (.ref 15) .null .null .null .null .null .null .null :: [(.inl (0, 3, .inl (fun _ => 0)) : pnE), (.inl (0, 300, .inl (fun _ => 0)) : pnE), (.inl (1, 90, .inr (.inl (fun _ => 0))) : pnE), (.inl (1, 90, .inr (.inl (fun _ => 0))) : pnE), (.inl (4, 8, .inr (.inr (.inr (.inr ptF)))) : pnE), (.inl (1, 90, .inr (.inl (fun _ => 0))) : pnE), (.inl (1, 90, .inr (.inl (fun _ => 0))) : pnE), (.inl (1, 90, .inr (.inl (fun _ => 0))) : pnE), (.inl (1, 90, .inr (.inl (fun _ => 0))) : pnE), (.inl (1, 90, .inr (.inl (fun _ => 0))) : pnE), (.inl (1, 90, .inr (.inl (fun _ => 0))) : pnE), (.inl (1, 90, .inr (.inl (fun _ => 0))) : pnE), (.inl (1, 90, .inr (.inl (fun _ => 0))) : pnE), (.inl (0, 5, .inl (fun _ => 0)) : pnE), (.inl (0, 1500, .inl (fun _ => 0)) : pnE)])) (st' := _) rfl rfl ?_
  refine pn_aload_n (q := 70) dX7_init_69 rfl rfl rfl ?_
  refine pn_sipush (q := 73) (v := nI 300) dX7_init_70 rfl (by decide) ?_
  refine pn_newi (q := 75) pw_164 dX7_init_73 rfl rfl (by first | decide | omega) ?_
  (refine pn_putF (q := 78) fX7_38 rfl hdeclX7 dX7_init_75 rfl rfl (Nat.le_of_ble_eq_true rfl) (pnF_arr rfl) ?_)
  refine pn_eq (h' := (mi (.ref 1) (.int (-1)) (.ref 2) (.ref 3) (.ref 4) (.ref 5) (.ref 14) (.ref 15) (.ref 16) .null .null .null .null .null .null :: [(.inl (0, 3, .inl (fun _ => 0)) : pnE), (.inl (0, 300, .inl (fun _ => 0)) : pnE), (.inl (1, 90, .inr (.inl (fun _ => 0))) : pnE), (.inl (1, 90, .inr (.inl (fun _ => 0))) : pnE), (.inl (4, 8, .inr (.inr (.inr (.inr ptF)))) : pnE), (.inl (1, 90, .inr (.inl (fun _ => 0))) : pnE), (.inl (1, 90, .inr (.inl (fun _ => 0))) : pnE), (.inl (1, 90, .inr (.inl (fun _ => 0))) : pnE), (.inl (1, 90, .inr (.inl (fun _ => 0))) : pnE), (.inl (1, 90, .inr (.inl (fun _ => 0))) : pnE), (.inl (1, 90, .inr (.inl (fun _ => 0))) : pnE), (.inl (1, 90, .inr (.inl (fun _ => 0))) : pnE), (.inl (1, 90, .inr (.inl (fun _ => 0))) : pnE), (.inl (0, 5, .inl (fun _ => 0)) : pnE), (.inl (0, 1500, .inl (fun _ => 0)) : pnE), (.inl (0, 300, .inl (fun _ => 0)) : pnE)])) (st' := _) rfl rfl ?_
  refine pn_aload_n (q := 79) dX7_init_78 rfl rfl rfl ?_
  refine pn_iconst (q := 80) (v := nI 0) dX7_init_79 rfl (by decide) ?_
  refine pn_newl5 (q := 82) pw_163 dX7_init_80 rfl rfl (by decide) ?_
  (refine pn_put (q := 85) fX7_41 dX7_init_82 rfl rfl (Nat.le_of_ble_eq_true rfl) (pnF_arr rfl) ?_)
  refine pn_eq (h' := (mi (.ref 1) (.int (-1)) (.ref 2) (.ref 3) (.ref 4) (.ref 5) (.ref 14) (.ref 15) (.ref 16) (.ref 17) .null .null .null .null .null :: [(.inl (0, 3, .inl (fun _ => 0)) : pnE), (.inl (0, 300, .inl (fun _ => 0)) : pnE), (.inl (1, 90, .inr (.inl (fun _ => 0))) : pnE), (.inl (1, 90, .inr (.inl (fun _ => 0))) : pnE), (.inl (4, 8, .inr (.inr (.inr (.inr ptF)))) : pnE), (.inl (1, 90, .inr (.inl (fun _ => 0))) : pnE), (.inl (1, 90, .inr (.inl (fun _ => 0))) : pnE), (.inl (1, 90, .inr (.inl (fun _ => 0))) : pnE), (.inl (1, 90, .inr (.inl (fun _ => 0))) : pnE), (.inl (1, 90, .inr (.inl (fun _ => 0))) : pnE), (.inl (1, 90, .inr (.inl (fun _ => 0))) : pnE), (.inl (1, 90, .inr (.inl (fun _ => 0))) : pnE), (.inl (1, 90, .inr (.inl (fun _ => 0))) : pnE), (.inl (0, 5, .inl (fun _ => 0)) : pnE), (.inl (0, 1500, .inl (fun _ => 0)) : pnE), (.inl (0, 300, .inl (fun _ => 0)) : pnE), (.inl (5, 0, .inr (.inl (fun _ => 0))) : pnE)])) (st' := _) rfl rfl ?_
  refine pn_aload_n (q := 86) dX7_init_85 rfl rfl rfl ?_
  refine pn_iconst (q := 87) (v := nI 0) dX7_init_86 rfl (by decide) ?_
  refine pn_newl5 (q := 89) pw_163 dX7_init_87 rfl rfl (by decide) ?_
  (refine pn_put (q := 92) fX7_44 dX7_init_89 rfl rfl (Nat.le_of_ble_eq_true rfl) (pnF_arr rfl) ?_)
  refine pn_eq (h' := (mi (.ref 1) (.int (-1)) (.ref 2) (.ref 3) (.ref 4) (.ref 5) (.ref 14) (.ref 15) (.ref 16) (.ref 17) (.ref 18) .null .null .null .null :: [(.inl (0, 3, .inl (fun _ => 0)) : pnE), (.inl (0, 300, .inl (fun _ => 0)) : pnE), (.inl (1, 90, .inr (.inl (fun _ => 0))) : pnE), (.inl (1, 90, .inr (.inl (fun _ => 0))) : pnE), (.inl (4, 8, .inr (.inr (.inr (.inr ptF)))) : pnE), (.inl (1, 90, .inr (.inl (fun _ => 0))) : pnE), (.inl (1, 90, .inr (.inl (fun _ => 0))) : pnE), (.inl (1, 90, .inr (.inl (fun _ => 0))) : pnE), (.inl (1, 90, .inr (.inl (fun _ => 0))) : pnE), (.inl (1, 90, .inr (.inl (fun _ => 0))) : pnE), (.inl (1, 90, .inr (.inl (fun _ => 0))) : pnE), (.inl (1, 90, .inr (.inl (fun _ => 0))) : pnE), (.inl (1, 90, .inr (.inl (fun _ => 0))) : pnE), (.inl (0, 5, .inl (fun _ => 0)) : pnE), (.inl (0, 1500, .inl (fun _ => 0)) : pnE), (.inl (0, 300, .inl (fun _ => 0)) : pnE), (.inl (5, 0, .inr (.inl (fun _ => 0))) : pnE), (.inl (5, 0, .inr (.inl (fun _ => 0))) : pnE)])) (st' := _) rfl rfl ?_
  refine pn_aload_n (q := 93) dX7_init_92 rfl rfl rfl ?_
  refine pn_bipush (q := 95) (v := nI 57) dX7_init_93 rfl (by decide) ?_
  refine pn_newi (q := 97) pw_164 dX7_init_95 rfl rfl (by first | decide | omega) ?_
  (refine pn_putF (q := 100) fX7_47 rfl hdeclX7 dX7_init_97 rfl rfl (Nat.le_of_ble_eq_true rfl) (pnF_arr rfl) ?_)
  refine pn_eq (h' := (mi (.ref 1) (.int (-1)) (.ref 2) (.ref 3) (.ref 4) (.ref 5) (.ref 14) (.ref 15) (.ref 16) (.ref 17) (.ref 18) (.ref 19) .null .null .null :: [(.inl (0, 3, .inl (fun _ => 0)) : pnE), (.inl (0, 300, .inl (fun _ => 0)) : pnE), (.inl (1, 90, .inr (.inl (fun _ => 0))) : pnE), (.inl (1, 90, .inr (.inl (fun _ => 0))) : pnE), (.inl (4, 8, .inr (.inr (.inr (.inr ptF)))) : pnE), (.inl (1, 90, .inr (.inl (fun _ => 0))) : pnE), (.inl (1, 90, .inr (.inl (fun _ => 0))) : pnE), (.inl (1, 90, .inr (.inl (fun _ => 0))) : pnE), (.inl (1, 90, .inr (.inl (fun _ => 0))) : pnE), (.inl (1, 90, .inr (.inl (fun _ => 0))) : pnE), (.inl (1, 90, .inr (.inl (fun _ => 0))) : pnE), (.inl (1, 90, .inr (.inl (fun _ => 0))) : pnE), (.inl (1, 90, .inr (.inl (fun _ => 0))) : pnE), (.inl (0, 5, .inl (fun _ => 0)) : pnE), (.inl (0, 1500, .inl (fun _ => 0)) : pnE), (.inl (0, 300, .inl (fun _ => 0)) : pnE), (.inl (5, 0, .inr (.inl (fun _ => 0))) : pnE), (.inl (5, 0, .inr (.inl (fun _ => 0))) : pnE), (.inl (0, 57, .inl (fun _ => 0)) : pnE)])) (st' := _) rfl rfl ?_
  refine pn_aload_n (q := 101) dX7_init_100 rfl rfl rfl ?_
  refine pn_bipush (q := 103) (v := nI 55) dX7_init_101 rfl (by decide) ?_
  refine pn_newl (q := 105) pw_163 dX7_init_103 rfl rfl (by first | decide | omega) ?_
  (refine pn_putF (q := 108) fX7_50 rfl hdeclX7 dX7_init_105 rfl rfl (Nat.le_of_ble_eq_true rfl) (pnF_arr rfl) ?_)
  refine pn_eq (h' := (mi (.ref 1) (.int (-1)) (.ref 2) (.ref 3) (.ref 4) (.ref 5) (.ref 14) (.ref 15) (.ref 16) (.ref 17) (.ref 18) (.ref 19) (.ref 20) .null .null :: [(.inl (0, 3, .inl (fun _ => 0)) : pnE), (.inl (0, 300, .inl (fun _ => 0)) : pnE), (.inl (1, 90, .inr (.inl (fun _ => 0))) : pnE), (.inl (1, 90, .inr (.inl (fun _ => 0))) : pnE), (.inl (4, 8, .inr (.inr (.inr (.inr ptF)))) : pnE), (.inl (1, 90, .inr (.inl (fun _ => 0))) : pnE), (.inl (1, 90, .inr (.inl (fun _ => 0))) : pnE), (.inl (1, 90, .inr (.inl (fun _ => 0))) : pnE), (.inl (1, 90, .inr (.inl (fun _ => 0))) : pnE), (.inl (1, 90, .inr (.inl (fun _ => 0))) : pnE), (.inl (1, 90, .inr (.inl (fun _ => 0))) : pnE), (.inl (1, 90, .inr (.inl (fun _ => 0))) : pnE), (.inl (1, 90, .inr (.inl (fun _ => 0))) : pnE), (.inl (0, 5, .inl (fun _ => 0)) : pnE), (.inl (0, 1500, .inl (fun _ => 0)) : pnE), (.inl (0, 300, .inl (fun _ => 0)) : pnE), (.inl (5, 0, .inr (.inl (fun _ => 0))) : pnE), (.inl (5, 0, .inr (.inl (fun _ => 0))) : pnE), (.inl (0, 57, .inl (fun _ => 0)) : pnE), (.inl (1, 55, .inr (.inl (fun _ => 0))) : pnE)])) (st' := _) rfl rfl ?_
  refine pn_aload_n (q := 109) dX7_init_108 rfl rfl rfl ?_
  refine pn_bipush (q := 111) (v := nI 55) dX7_init_109 rfl (by decide) ?_
  refine pn_newl (q := 113) pw_163 dX7_init_111 rfl rfl (by first | decide | omega) ?_
  (refine pn_putF (q := 116) fX7_53 rfl hdeclX7 dX7_init_113 rfl rfl (Nat.le_of_ble_eq_true rfl) (pnF_arr rfl) ?_)
  refine pn_eq (h' := (mi (.ref 1) (.int (-1)) (.ref 2) (.ref 3) (.ref 4) (.ref 5) (.ref 14) (.ref 15) (.ref 16) (.ref 17) (.ref 18) (.ref 19) (.ref 20) (.ref 21) .null :: [(.inl (0, 3, .inl (fun _ => 0)) : pnE), (.inl (0, 300, .inl (fun _ => 0)) : pnE), (.inl (1, 90, .inr (.inl (fun _ => 0))) : pnE), (.inl (1, 90, .inr (.inl (fun _ => 0))) : pnE), (.inl (4, 8, .inr (.inr (.inr (.inr ptF)))) : pnE), (.inl (1, 90, .inr (.inl (fun _ => 0))) : pnE), (.inl (1, 90, .inr (.inl (fun _ => 0))) : pnE), (.inl (1, 90, .inr (.inl (fun _ => 0))) : pnE), (.inl (1, 90, .inr (.inl (fun _ => 0))) : pnE), (.inl (1, 90, .inr (.inl (fun _ => 0))) : pnE), (.inl (1, 90, .inr (.inl (fun _ => 0))) : pnE), (.inl (1, 90, .inr (.inl (fun _ => 0))) : pnE), (.inl (1, 90, .inr (.inl (fun _ => 0))) : pnE), (.inl (0, 5, .inl (fun _ => 0)) : pnE), (.inl (0, 1500, .inl (fun _ => 0)) : pnE), (.inl (0, 300, .inl (fun _ => 0)) : pnE), (.inl (5, 0, .inr (.inl (fun _ => 0))) : pnE), (.inl (5, 0, .inr (.inl (fun _ => 0))) : pnE), (.inl (0, 57, .inl (fun _ => 0)) : pnE), (.inl (1, 55, .inr (.inl (fun _ => 0))) : pnE), (.inl (1, 55, .inr (.inl (fun _ => 0))) : pnE)])) (st' := _) rfl rfl ?_
  refine pn_aload_n (q := 117) dX7_init_116 rfl rfl rfl ?_
  refine pn_bipush (q := 119) (v := nI 15) dX7_init_117 rfl (by decide) ?_
  refine pn_newi (q := 121) pw_164 dX7_init_119 rfl rfl (by first | decide | omega) ?_
  (refine pn_putF (q := 124) fX7_56 rfl hdeclX7 dX7_init_121 rfl rfl (Nat.le_of_ble_eq_true rfl) (pnF_arr rfl) ?_)
  refine pn_eq (h' := (mi (.ref 1) (.int (-1)) (.ref 2) (.ref 3) (.ref 4) (.ref 5) (.ref 14) (.ref 15) (.ref 16) (.ref 17) (.ref 18) (.ref 19) (.ref 20) (.ref 21) (.ref 22) :: [(.inl (0, 3, .inl (fun _ => 0)) : pnE), (.inl (0, 300, .inl (fun _ => 0)) : pnE), (.inl (1, 90, .inr (.inl (fun _ => 0))) : pnE), (.inl (1, 90, .inr (.inl (fun _ => 0))) : pnE), (.inl (4, 8, .inr (.inr (.inr (.inr ptF)))) : pnE), (.inl (1, 90, .inr (.inl (fun _ => 0))) : pnE), (.inl (1, 90, .inr (.inl (fun _ => 0))) : pnE), (.inl (1, 90, .inr (.inl (fun _ => 0))) : pnE), (.inl (1, 90, .inr (.inl (fun _ => 0))) : pnE), (.inl (1, 90, .inr (.inl (fun _ => 0))) : pnE), (.inl (1, 90, .inr (.inl (fun _ => 0))) : pnE), (.inl (1, 90, .inr (.inl (fun _ => 0))) : pnE), (.inl (1, 90, .inr (.inl (fun _ => 0))) : pnE), (.inl (0, 5, .inl (fun _ => 0)) : pnE), (.inl (0, 1500, .inl (fun _ => 0)) : pnE), (.inl (0, 300, .inl (fun _ => 0)) : pnE), (.inl (5, 0, .inr (.inl (fun _ => 0))) : pnE), (.inl (5, 0, .inr (.inl (fun _ => 0))) : pnE), (.inl (0, 57, .inl (fun _ => 0)) : pnE), (.inl (1, 55, .inr (.inl (fun _ => 0))) : pnE), (.inl (1, 55, .inr (.inl (fun _ => 0))) : pnE), (.inl (0, 15, .inl (fun _ => 0)) : pnE)])) (st' := _) rfl rfl ?_
  refine pn_aload_n (q := 125) dX7_init_124 rfl rfl rfl ?_
  refine pn_get (q := 128) fX7_20 dX7_init_125 rfl rfl rfl ?_
  refine pn_iconst (q := 129) (v := nI 0) dX7_init_128 rfl (by decide) ?_
  refine pn_ldc2 (q := 132) pw_1077 dX7_init_129 rfl ?_; refine pn_eq (h' := _) (st' := .long (lN 3) :: _) rfl rfl ?_
  first | refine pn_last1 (q := 133) dX7_init_132 rfl rfl rfl (by omega) (by first | decide | omega) ?_ | refine pn_last5 (q := 133) dX7_init_132 rfl rfl rfl (by omega) (by first | decide | omega) ?_
  refine pn_aload_n (q := 134) dX7_init_133 rfl rfl rfl ?_
  refine pn_get (q := 137) fX7_20 dX7_init_134 rfl rfl rfl ?_
  refine pn_iconst (q := 138) (v := nI 2) dX7_init_137 rfl (by decide) ?_
  refine pn_ldc2 (q := 141) pw_1077 dX7_init_138 rfl ?_; refine pn_eq (h' := _) (st' := .long (lN 3) :: _) rfl rfl ?_
  first | refine pn_last1 (q := 142) dX7_init_141 rfl rfl rfl (by omega) (by first | decide | omega) ?_ | refine pn_last5 (q := 142) dX7_init_141 rfl rfl rfl (by omega) (by first | decide | omega) ?_
  refine pn_aload_n (q := 143) dX7_init_142 rfl rfl rfl ?_
  refine pn_get (q := 146) fX7_20 dX7_init_143 rfl rfl rfl ?_
  refine pn_bipush (q := 148) (v := nI 29) dX7_init_146 rfl (by decide) ?_
  refine pn_ldc2 (q := 151) pw_1078 dX7_init_148 rfl ?_; refine pn_eq (h' := _) (st' := .long (lN 7) :: _) rfl rfl ?_
  first | refine pn_last1 (q := 152) dX7_init_151 rfl rfl rfl (by omega) (by first | decide | omega) ?_ | refine pn_last5 (q := 152) dX7_init_151 rfl rfl rfl (by omega) (by first | decide | omega) ?_
  refine pn_vret dX7_init_152 rfl ?_
  exact ⟨rfl, rfl⟩
