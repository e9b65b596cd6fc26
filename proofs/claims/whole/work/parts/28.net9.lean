def pnDef : Value → Bool
  | .null => true
  | .int _ => true
  | .long _ => true
  | _ => false
theorem pn_newO {M : pnM} {adK : Nat → Nat} {d : Nat} {Q : pnR → List pnE → Prop} {bc bs : Nat} {h : List pnE} {L : List (Option Value)} {st : List Value} {pc q : Nat} {index ci N : Nat} {C : String} {T : u_T} {ty0 : Nat → FieldType} {fs : List Value} (hcl : Cond.classLink M.1.cls index C ∈ pnG) (hinst : Cond.instantiable C N ∈ pnG) (hini : Cond.initialized C ∈ pnG) (hin : ∀ w ∈ u_ws C T N, w ∈ pnG) (hty : ∀ j, j < N → parseFieldDescriptor (T j).2.2.1 = some (ty0 j)) (hc : vwCl[ci]? = some (C, T, N)) (hfs : ∀ j, j < N → defaultValue (ty0 j) = vp_V fs j) (hfc : fs.all pnDef = true) (hd : decode M.2.1 pc = .ok (.new index, 3)) (hq : pc + 3 = q)
    (kk : pnWP M adK d Q bc bs (h ++ [.inr (ci, fs)]) L (.ref h.length :: st) q) : pnWP M adK d Q (bc + 1) (bs + N) h L st pc :=
  pn_new hcl hinst hini hin hty hc hfs (fun v hv => by
    have := List.all_eq_true.mp hfc v hv
    cases v <;> first | exact Or.inl rfl | exact Or.inr (Or.inl ⟨_, rfl⟩) | exact Or.inr (Or.inr ⟨_, rfl⟩) | cases this) hd hq kk
theorem pn_obj {M : pnM} {adK : Nat → Nat} {d : Nat} {Q : pnR → List pnE → Prop} {bc bs : Nat} {h : List pnE} {L : List (Option Value)} {st : List Value} {pc q : Nat} {index a : Nat} (h1 : Cond.methodLink M.1.cls index Lib.objectInit ∈ pnG) (h2 : Cond.instanceMethod Lib.objectInit ∈ pnG) (h3 : Cond.code Lib.objectInit ⟨#[0xb1]⟩ 1 none ∈ pnG) (hd : decode M.2.1 pc = .ok (.invokespecial index, 3)) (hq : pc + 3 = q) (hd1 : 1 ≤ d) (hw8 : (st.map fun v => v.category).sum ≤ 8) (k : pnWP M adK d Q bc bs h L st q) : pnWP M adK d Q bc bs h L (.ref a :: st) pc := by
  subst hq
  intro p l e R s m args below meth c D τ A b0 adV mc ms n0 σ0 σ mv0 H locs cells slots ls ok w
  have ok2 := ok
  obtain ⟨hx, hb, hr, hml, hown, hts, hlk, hnm, htab, hK, hA, hAb, hb0, hLow, hst, hfr, hlo, hRc, hRs⟩ := ok2
  obtain ⟨w1, w2, w3, w4, w5, w6, w7, w8, w9, w10, w11⟩ := w
  have hroom : 2 * (F0 m pc ls ((Value.ref a :: st).map (pnV σ))).monitorRoom + ((st.map (pnV σ)).map fun v => v.category).sum ≤ 8 := lv_room (by rw [pnCatSum]; exact hw8)
  refine W.objInit hx hb hown (hts _ h1) (hts _ h2) (hts _ h3) rfl (by rw [hml]; exact w9.1) rfl hd (Nat.le_trans hd1 hfr) (by omega) ?_
  exact k p l e R s m args below meth c D τ A b0 adV mc ms n0 σ0 σ mv0 H locs cells slots ls ok ⟨w1, w2, w3, w4, w5, w6, w7, w8.tail, w9, w10, w11⟩
def hNetO (o n : Nat) (g : Int64) (sh k pc bc : Nat) (ps : Nat → Int64) (bs sf : Nat → Int32) : List pnE :=
  [.inr (2, [.int (nI n), .long g, .int (nI sh), .int (nI k), .int (nI pc), .int (nI bc), .ref (o + 1), .ref (o + 2), .ref (o + 3)]), .inl (1, 55, .inr (.inl ps)), .inl (0, 20, .inl bs), .inl (0, 5, .inl sf)]
def hNet0 : List pnE := [.inr (2, [.int (nI 0), .long 0, .int (nI 0), .int (nI 0), .int (nI 0), .int (nI 0), .null, .null, .null])]
set_option maxRecDepth 100000 in
theorem c_NetInit (adK : Nat → Nat) (d : Nat) : pnCt mX2_init adK (d + 1) 3 80 [.ref 0] hNet0 (pnIs (.inl none) (hNet 2 0 0 3 0 0 (fun _ => 0) (fun _ => 0) (fun _ => 0))) := by
  refine pnCt_of (by decide) kX2_init (Nat.le_of_ble_eq_true rfl) rfl (pnCH_b rfl) (pnCS_b rfl) ?_
  refine pn_aload_n (q := 1) dX2_init_0 rfl rfl rfl ?_
  refine pn_obj (q := 4) pw_113 pw_106 pw_107 dX2_init_1 rfl (by omega) (Nat.le_of_ble_eq_true rfl) ?_
  refine pn_aload_n (q := 5) dX2_init_4 rfl rfl rfl ?_
  refine pn_iconst (q := 6) (v := nI 2) dX2_init_5 rfl (by decide) ?_
  refine pn_put (q := 9) fX2_9 dX2_init_6 rfl rfl (Nat.le_of_ble_eq_true rfl) (pnF_int _) ?_
  refine pn_aload_n (q := 10) dX2_init_9 rfl rfl rfl ?_
  refine pn_lconst (q := 11) (v := 0) dX2_init_10 rfl (by decide) ?_
  refine pn_put (q := 14) fX2_15 dX2_init_11 rfl rfl (Nat.le_of_ble_eq_true rfl) (pnF_long _) ?_
  refine pn_aload_n (q := 15) dX2_init_14 rfl rfl rfl ?_
  refine pn_iconst (q := 16) (v := nI 0) dX2_init_15 rfl (by decide) ?_
  refine pn_put (q := 19) fX2_19 dX2_init_16 rfl rfl (Nat.le_of_ble_eq_true rfl) (pnF_int _) ?_
  refine pn_aload_n (q := 20) dX2_init_19 rfl rfl rfl ?_
  refine pn_iconst (q := 21) (v := nI 3) dX2_init_20 rfl (by decide) ?_
  refine pn_put (q := 24) fX2_22 dX2_init_21 rfl rfl (Nat.le_of_ble_eq_true rfl) (pnF_int _) ?_
  refine pn_aload_n (q := 25) dX2_init_24 rfl rfl rfl ?_
  refine pn_iconst (q := 26) (v := nI 0) dX2_init_25 rfl (by decide) ?_
  refine pn_put (q := 29) fX2_25 dX2_init_26 rfl rfl (Nat.le_of_ble_eq_true rfl) (pnF_int _) ?_
  refine pn_aload_n (q := 30) dX2_init_29 rfl rfl rfl ?_
  refine pn_iconst (q := 31) (v := nI 0) dX2_init_30 rfl (by decide) ?_
  refine pn_put (q := 34) fX2_28 dX2_init_31 rfl rfl (Nat.le_of_ble_eq_true rfl) (pnF_int _) ?_
  refine pn_aload_n (q := 35) dX2_init_34 rfl rfl rfl ?_
  refine pn_bipush (q := 37) (v := nI 55) dX2_init_35 rfl (by decide) ?_
  refine pn_newl (q := 39) pw_163 dX2_init_37 rfl rfl (by first | decide | omega) ?_
  refine pn_putF (q := 42) fX2_31 rfl hdeclX2 dX2_init_39 rfl rfl (Nat.le_of_ble_eq_true rfl) (pnF_arr rfl) ?_
  refine pn_aload_n (q := 43) dX2_init_42 rfl rfl rfl ?_
  refine pn_bipush (q := 45) (v := nI 20) dX2_init_43 rfl (by decide) ?_
  refine pn_newi (q := 47) pw_164 dX2_init_45 rfl rfl (by first | decide | omega) ?_
  refine pn_putF (q := 50) fX2_35 rfl hdeclX2 dX2_init_47 rfl rfl (Nat.le_of_ble_eq_true rfl) (pnF_arr rfl) ?_
  refine pn_aload_n (q := 51) dX2_init_50 rfl rfl rfl ?_
  refine pn_iconst (q := 52) (v := nI 5) dX2_init_51 rfl (by decide) ?_
  refine pn_newi (q := 54) pw_164 dX2_init_52 rfl rfl (by first | decide | omega) ?_
  refine pn_putF (q := 57) fX2_39 rfl hdeclX2 dX2_init_54 rfl rfl (Nat.le_of_ble_eq_true rfl) (pnF_arr rfl) ?_
  refine pn_vret dX2_init_57 rfl ?_
  exact ⟨rfl, rfl⟩
set_option maxRecDepth 100000 in
theorem c_empty (adK : Nat → Nat) (d n m : Nat) (g : Int64) (sh k pc bc : Nat) (ps : Nat → Int64) (bs sf : Nat → Int32) : pnCt mX2_empty adK d 0 0 [.ref 0, .int (nI m)] (hNet n g sh k pc bc ps bs sf) (pnIs (.inl none) (hNet m 0 0 3 0 0 ps bs sf)) := by
  refine pnCt_of (by decide) kX2_empty (Nat.le_of_ble_eq_true rfl) rfl (hNet_cl _ _ _ _ _ _ _ _ _) (pnCS_b rfl) ?_
  refine pn_aload_n (q := 1) dX2_empty_0 rfl rfl rfl ?_
  refine pn_iload_n (q := 2) dX2_empty_1 rfl rfl ?_
  refine pn_put (q := 5) fX2_9 dX2_empty_2 rfl rfl (Nat.le_of_ble_eq_true rfl) (pnF_int _) ?_
  refine pn_aload_n (q := 6) dX2_empty_5 rfl rfl rfl ?_
  refine pn_lconst (q := 7) (v := 0) dX2_empty_6 rfl (by decide) ?_
  refine pn_put (q := 10) fX2_15 dX2_empty_7 rfl rfl (Nat.le_of_ble_eq_true rfl) (pnF_long _) ?_
  refine pn_aload_n (q := 11) dX2_empty_10 rfl rfl rfl ?_
  refine pn_iconst (q := 12) (v := nI 0) dX2_empty_11 rfl (by decide) ?_
  refine pn_put (q := 15) fX2_19 dX2_empty_12 rfl rfl (Nat.le_of_ble_eq_true rfl) (pnF_int _) ?_
  refine pn_aload_n (q := 16) dX2_empty_15 rfl rfl rfl ?_
  refine pn_iconst (q := 17) (v := nI 3) dX2_empty_16 rfl (by decide) ?_
  refine pn_put (q := 20) fX2_22 dX2_empty_17 rfl rfl (Nat.le_of_ble_eq_true rfl) (pnF_int _) ?_
  refine pn_aload_n (q := 21) dX2_empty_20 rfl rfl rfl ?_
  refine pn_iconst (q := 22) (v := nI 0) dX2_empty_21 rfl (by decide) ?_
  refine pn_put (q := 25) fX2_25 dX2_empty_22 rfl rfl (Nat.le_of_ble_eq_true rfl) (pnF_int _) ?_
  refine pn_aload_n (q := 26) dX2_empty_25 rfl rfl rfl ?_
  refine pn_iconst (q := 27) (v := nI 0) dX2_empty_26 rfl (by decide) ?_
  refine pn_put (q := 30) fX2_28 dX2_empty_27 rfl rfl (Nat.le_of_ble_eq_true rfl) (pnF_int _) ?_
  refine pn_vret dX2_empty_30 rfl ?_
  exact ⟨rfl, rfl⟩
set_option maxRecDepth 100000 in
theorem c_become (adK : Nat → Nat) (d n : Nat) (g : Int64) (sh k pc bc : Nat) (ps : Nat → Int64) (bs sf : Nat → Int32) (n' : Nat) (g' : Int64) (sh' k' pc' bc' : Nat) (ps' : Nat → Int64) (bs' sf' : Nat → Int32) : pnCt mX2_become adK (d + 1) 0 0 [.ref 0, .ref 4] (hNet n g sh k pc bc ps bs sf ++ hNetO 4 n' g' sh' k' pc' bc' ps' bs' sf') (pnIs (.inl none) (hNet n' g' sh' k' pc' bc' ps' bs' sf ++ hNetO 4 n' g' sh' k' pc' bc' ps' bs' sf')) := by
  refine pnCt_of (by decide) kX2_become (Nat.le_of_ble_eq_true rfl) rfl (pnCH_b rfl) (pnCS_b rfl) ?_
  refine pn_aload_n (q := 1) dX2_become_0 rfl rfl rfl ?_
  refine pn_aload_n (q := 2) dX2_become_1 rfl rfl rfl ?_
  refine pn_get (q := 5) fX2_9 dX2_become_2 rfl rfl rfl ?_
  refine pn_put (q := 8) fX2_9 dX2_become_5 rfl rfl (Nat.le_of_ble_eq_true rfl) (pnF_int _) ?_
  refine pn_aload_n (q := 9) dX2_become_8 rfl rfl rfl ?_
  refine pn_aload_n (q := 10) dX2_become_9 rfl rfl rfl ?_
  refine pn_get (q := 13) fX2_15 dX2_become_10 rfl rfl rfl ?_
  refine pn_put (q := 16) fX2_15 dX2_become_13 rfl rfl (Nat.le_of_ble_eq_true rfl) (pnF_long _) ?_
  refine pn_aload_n (q := 17) dX2_become_16 rfl rfl rfl ?_
  refine pn_aload_n (q := 18) dX2_become_17 rfl rfl rfl ?_
  refine pn_get (q := 21) fX2_19 dX2_become_18 rfl rfl rfl ?_
  refine pn_put (q := 24) fX2_19 dX2_become_21 rfl rfl (Nat.le_of_ble_eq_true rfl) (pnF_int _) ?_
  refine pn_aload_n (q := 25) dX2_become_24 rfl rfl rfl ?_
  refine pn_aload_n (q := 26) dX2_become_25 rfl rfl rfl ?_
  refine pn_get (q := 29) fX2_22 dX2_become_26 rfl rfl rfl ?_
  refine pn_put (q := 32) fX2_22 dX2_become_29 rfl rfl (Nat.le_of_ble_eq_true rfl) (pnF_int _) ?_
  refine pn_aload_n (q := 33) dX2_become_32 rfl rfl rfl ?_
  refine pn_aload_n (q := 34) dX2_become_33 rfl rfl rfl ?_
  refine pn_get (q := 37) fX2_25 dX2_become_34 rfl rfl rfl ?_
  refine pn_put (q := 40) fX2_25 dX2_become_37 rfl rfl (Nat.le_of_ble_eq_true rfl) (pnF_int _) ?_
  refine pn_aload_n (q := 41) dX2_become_40 rfl rfl rfl ?_
  refine pn_aload_n (q := 42) dX2_become_41 rfl rfl rfl ?_
  refine pn_get (q := 45) fX2_28 dX2_become_42 rfl rfl rfl ?_
  refine pn_put (q := 48) fX2_28 dX2_become_45 rfl rfl (Nat.le_of_ble_eq_true rfl) (pnF_int _) ?_
  refine pn_aload_n (q := 49) dX2_become_48 rfl rfl rfl ?_
  refine pn_get (q := 52) fX2_31 dX2_become_49 rfl rfl rfl ?_
  refine pn_iconst (q := 53) (v := nI 0) dX2_become_52 rfl (by decide) ?_
  refine pn_aload_n (q := 54) dX2_become_53 rfl rfl rfl ?_
  refine pn_get (q := 57) fX2_31 dX2_become_54 rfl rfl rfl ?_
  refine pn_iconst (q := 58) (v := nI 0) dX2_become_57 rfl (by decide) ?_
  refine pn_aload_n (q := 59) dX2_become_58 rfl rfl rfl ?_
  refine pn_get (q := 62) fX2_31 dX2_become_59 rfl rfl rfl ?_
  refine pn_alen (q := 63) dX2_become_62 rfl rfl (by decide) ?_
  first | refine pn_copyl (q := 66) pw_517 pw_437 pw_436 pw_95 dX2_become_63 rfl (by omega) (Nat.le_of_ble_eq_true rfl) rfl rfl (by first | decide | omega) (by first | decide | omega) ?_ | refine pn_copyi (q := 66) pw_517 pw_437 pw_436 pw_95 dX2_become_63 rfl (by omega) (Nat.le_of_ble_eq_true rfl) rfl rfl (by first | decide | omega) (by first | decide | omega) ?_
  refine pn_aload_n (q := 67) dX2_become_66 rfl rfl rfl ?_
  refine pn_get (q := 70) fX2_35 dX2_become_67 rfl rfl rfl ?_
  refine pn_iconst (q := 71) (v := nI 0) dX2_become_70 rfl (by decide) ?_
  refine pn_aload_n (q := 72) dX2_become_71 rfl rfl rfl ?_
  refine pn_get (q := 75) fX2_35 dX2_become_72 rfl rfl rfl ?_
  refine pn_iconst (q := 76) (v := nI 0) dX2_become_75 rfl (by decide) ?_
  refine pn_aload_n (q := 77) dX2_become_76 rfl rfl rfl ?_
  refine pn_get (q := 80) fX2_35 dX2_become_77 rfl rfl rfl ?_
  refine pn_alen (q := 81) dX2_become_80 rfl rfl (by decide) ?_
  first | refine pn_copyl (q := 84) pw_517 pw_437 pw_436 pw_95 dX2_become_81 rfl (by omega) (Nat.le_of_ble_eq_true rfl) rfl rfl (by first | decide | omega) (by first | decide | omega) ?_ | refine pn_copyi (q := 84) pw_517 pw_437 pw_436 pw_95 dX2_become_81 rfl (by omega) (Nat.le_of_ble_eq_true rfl) rfl rfl (by first | decide | omega) (by first | decide | omega) ?_
  refine pn_vret dX2_become_84 rfl ?_
  exact ⟨rfl, rfl⟩
/-- the row of shifted nodes, when i of them are laid -/
def sfN (n : Nat) (bN : Nat → Nat) (b s : Nat) (sf : Nat → Int32) : Nat → Nat → Int32
  | 0 => sf
  | i + 1 => upd (sfN n bN b s sf i) i (nI ((bN (b * 5 + i) + s) % n))
theorem sfN_at (n : Nat) (bN : Nat → Nat) (b s : Nat) (sf : Nat → Int32) : ∀ i j, j < i → sfN n bN b s sf i j = nI ((bN (b * 5 + j) + s) % n)
  | 0, j, h => by omega
  | i + 1, j, h => by
    unfold sfN upd
    by_cases e : j = i
    · rw [if_pos e, e]
    · rw [if_neg e]; exact sfN_at n bN b s sf i j (by omega)
set_option maxRecDepth 100000 in
theorem c_shiftedPart (adK : Nat → Nat) (d : Nat) (n : Nat) (g : Int64) (sh k pc bc : Nat) (ps : Nat → Int64) (bN : Nat → Nat) (sf : Nat → Int32) (b s : Nat) (hS : shOk sh k) (hn : n ≤ 11) (hn1 : 1 ≤ n) (hb : b < 4) (hbN : ∀ j, bN j ≤ 30) (hs : s ≤ 1000) : pnCt mX2_shiftedPart adK (d + 4) 0 0 [.ref 0, .int (nI b), .int (nI s)] (hNet n g sh k pc bc ps (fun j => nI (bN j)) sf) (pnIs (.inl (some (.long (lpN n sh k (sfN n bN b s sf 5) 0 (plN sh k))))) (hNet n g sh k pc bc ps (fun j => nI (bN j)) (sfN n bN b s sf 5))) := by
  refine pnCt_of (by decide) kX2_shiftedPart (Nat.le_of_ble_eq_true rfl) rfl (hNet_cl _ _ _ _ _ _ _ _ _) (pnCS_b rfl) ?_
  obtain ⟨b1, b2, b3, b4, b5, b6⟩ := shOk_b hS
  have loop : ∀ (m i : Nat), i + m = 5 → pnWP mX2_shiftedPart adK (d + 4) (pnIs (.inl (some (.long (lpN n sh k (sfN n bN b s sf 5) 0 (plN sh k))))) (hNet n g sh k pc bc ps (fun j => nI (bN j)) (sfN n bN b s sf 5))) 0 0 (hNet n g sh k pc bc ps (fun j => nI (bN j)) (sfN n bN b s sf i)) [some (.ref 0), some (.int (nI b)), some (.int (nI s)), some (.int (nI i))] [] 12 := by
    intro m
    induction m with
    | zero =>
      intro i hi
      have hi5 : i = 5 := by omega
      subst hi5
      refine pn_iload_n (q := 13) dX2_shiftedPart_12 rfl rfl ?_
      refine pn_aload_n (q := 14) dX2_shiftedPart_13 rfl rfl rfl ?_
      refine pn_get (q := 17) fX2_39 dX2_shiftedPart_14 rfl rfl rfl ?_
      refine pn_alen (q := 18) dX2_shiftedPart_17 rfl rfl (by decide) ?_
      first | refine pn_nge (q := 21) (tgt := 48) dX2_shiftedPart_18 (by decide) rfl (by omega) (by omega) (fun hc18 => ?_) (fun hc18 => ?_) | refine pn_icmp_ge (q := 21) (tgt := 48) dX2_shiftedPart_18 (by decide) rfl (fun hc18 => ?_) (fun hc18 => ?_)
      · refine pn_aload_n (q := 49) dX2_shiftedPart_48 rfl rfl rfl ?_
        refine pn_aload_n (q := 50) dX2_shiftedPart_49 rfl rfl rfl ?_
        refine pn_get (q := 53) fX2_39 dX2_shiftedPart_50 rfl rfl rfl ?_
        refine pn_iconst (q := 54) (v := nI 0) dX2_shiftedPart_53 rfl (by decide) ?_
        refine pn_aload_n (q := 55) dX2_shiftedPart_54 rfl rfl rfl ?_
        refine pn_roV1 (q := 58) (c_places adK d n g sh k pc bc ps (fun j => nI (bN j)) (sfN n bN b s sf 5) b1) lkX2_80 dX2_shiftedPart_55 rfl rfl (pnSel_of (I := [0, 1, 2, 3]) rfl rfl) (pnFree_none rfl) rfl rfl rfl (by omega) (Nat.le_of_ble_eq_true rfl) rfl ?_
        refine pn_roV1 (q := 61) (c_linesOfPartS adK d n g sh k pc bc ps (fun j => nI (bN j)) (sfN n bN b s sf 5) 0 (plN sh k) hS hn hn1 (by omega) (by omega)) lkX2_108 dX2_shiftedPart_58 rfl rfl (pnSel_of (I := [0, 1, 2, 3]) rfl rfl) (pnFree_none rfl) rfl rfl rfl (by omega) (Nat.le_of_ble_eq_true rfl) rfl ?_
        refine pn_lret dX2_shiftedPart_61 rfl ?_
        exact ⟨rfl, rfl⟩
      · omega
    | succ m ih =>
      intro i hi
      have h1 := hbN (b * 5 + i)
      have e1 : fmN (nI (bN (b * 5 + i) + s)) n = (bN (b * 5 + i) + s) % n := by
        unfold fmN
        rw [nI_toInt (by omega)]
        omega
      refine pn_iload_n (q := 13) dX2_shiftedPart_12 rfl rfl ?_
      refine pn_aload_n (q := 14) dX2_shiftedPart_13 rfl rfl rfl ?_
      refine pn_get (q := 17) fX2_39 dX2_shiftedPart_14 rfl rfl rfl ?_
      refine pn_alen (q := 18) dX2_shiftedPart_17 rfl rfl (by decide) ?_
      first | refine pn_nge (q := 21) (tgt := 48) dX2_shiftedPart_18 (by decide) rfl (by omega) (by omega) (fun hc18 => ?_) (fun hc18 => ?_) | refine pn_icmp_ge (q := 21) (tgt := 48) dX2_shiftedPart_18 (by decide) rfl (fun hc18 => ?_) (fun hc18 => ?_)
      · omega
      · refine pn_aload_n (q := 22) dX2_shiftedPart_21 rfl rfl rfl ?_
        refine pn_get (q := 25) fX2_39 dX2_shiftedPart_22 rfl rfl rfl ?_
        refine pn_iload_n (q := 26) dX2_shiftedPart_25 rfl rfl ?_
        refine pn_aload_n (q := 27) dX2_shiftedPart_26 rfl rfl rfl ?_
        refine pn_iload_n (q := 28) dX2_shiftedPart_27 rfl rfl ?_
        refine pn_iload_n (q := 29) dX2_shiftedPart_28 rfl rfl ?_
        refine pn_roV1 (q := 32) (c_baseNode adK d n g sh k pc bc ps bN (sfN n bN b s sf i) b i hb (by omega)) lkX2_98 dX2_shiftedPart_29 rfl rfl (pnSel_of (I := [0, 1, 2, 3]) rfl rfl) (pnFree_none rfl) rfl rfl rfl (by omega) (Nat.le_of_ble_eq_true rfl) rfl ?_
        refine pn_iload_n (q := 33) dX2_shiftedPart_32 rfl rfl ?_
        first | with_reducible refine pn_iaddN (q := 34) dX2_shiftedPart_33 rfl ?_ | refine pn_iadd (q := 34) dX2_shiftedPart_33 rfl ?_
        refine pn_aload_n (q := 35) dX2_shiftedPart_34 rfl rfl rfl ?_
        refine pn_get (q := 38) fX2_9 dX2_shiftedPart_35 rfl rfl rfl ?_
        refine pn_roS1 (q := 41) ((by have := c_floorMod adK d (nI (bN (b * 5 + i) + s)) n (by omega) (by omega); rw [e1] at this; exact this)) lkX2_95 dX2_shiftedPart_38 rfl rfl (pnSel_of (I := []) rfl rfl) (pnFree_none rfl) rfl (by omega) (Nat.le_of_ble_eq_true rfl) rfl ?_
        refine pn_iast (q := 42) dX2_shiftedPart_41 rfl rfl rfl (by omega) (by first | decide | omega) ?_
        first | refine pn_iinc1 (q := 45) dX2_shiftedPart_42 rfl rfl (by decide) ?_ | refine pn_iinc (q := 45) (mm := 1) dX2_shiftedPart_42 rfl rfl (by decide) (by decide) ?_
        refine pn_goto (q := 12) dX2_shiftedPart_45 (by decide) ?_
        exact ih (i + 1) (by omega)
  refine pn_aload_n (q := 1) dX2_shiftedPart_0 rfl rfl rfl ?_
  refine pn_get (q := 4) fX2_9 dX2_shiftedPart_1 rfl rfl rfl ?_
  refine pn_iconst (q := 5) (v := nI 1) dX2_shiftedPart_4 rfl (by decide) ?_
  first | refine pn_nge (q := 8) (tgt := 10) dX2_shiftedPart_5 (by decide) rfl (by omega) (by omega) (fun hc5 => ?_) (fun hc5 => ?_) | refine pn_icmp_ge (q := 8) (tgt := 10) dX2_shiftedPart_5 (by decide) rfl (fun hc5 => ?_) (fun hc5 => ?_)
  · refine pn_iconst (q := 11) (v := nI 0) dX2_shiftedPart_10 rfl (by decide) ?_
    refine pn_istore_n (q := 12) dX2_shiftedPart_11 rfl (by decide) ?_
    exact loop 5 0 (by omega)
  · omega
