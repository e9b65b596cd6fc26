theorem pw_670 : (Jvm.Cond.fieldLink "java/lang/String" (38 : Nat) "java/lang/String" "COMPACT_STRINGS" "Z") ∈ pnG := pnG_in (List.mem_of_getElem? (i := 670) (by decide +kernel)) rfl
theorem pw_686 : (Jvm.Cond.fieldLink "java/lang/String" (1053 : Nat) "jdk/internal/util/Preconditions" "SIOOBE_FORMATTER" "Ljava/util/function/BiFunction;") ∈ pnG := pnG_in (List.mem_of_getElem? (i := 686) (by decide +kernel)) rfl
theorem pw_1526 : (Jvm.Cond.fieldLink "java/lang/String" (9 : Nat) "java/lang/String" "value" "[B") ∈ pnG := pnG_in (List.mem_of_getElem? (i := 1526) (by decide +kernel)) rfl
theorem pw_1527 : (Jvm.Cond.fieldLink "java/lang/String" (15 : Nat) "java/lang/String" "coder" "B") ∈ pnG := pnG_in (List.mem_of_getElem? (i := 1527) (by decide +kernel)) rfl
/-! ===== strings that are written in the class and in the reference ===== -/
theorem pn_ldcS {M : pnM} {adK : Nat → Nat} {d : Nat} {Q : pnR → List pnE → Prop} {bc bs : Nat} {h : List pnE} {L : List (Option Value)} {st : List Value} {pc q : Nat} {index j : Nat} {tx : String} (hj : pnStr[j]? = some (M.1.cls, index, tx)) (hd : decode M.2.1 pc = .ok (.ldc index, 2)) (hq : pc + 2 = q) (k : pnWP M adK d Q bc bs h L (.retAddr (adK j) :: st) q) : pnWP M adK d Q bc bs h L st pc := by
  subst hq
  intro p l e R s m args below meth c D τ A b0 adV mc ms n0 σ0 σ mv0 H locs cells slots ls ok w
  have ok2 := ok
  obtain ⟨hx, hb, hr, hml, hown, hts, hlk, hnm, htab, hK, hA, hAb, hb0, hLow, hst, hfr, hlo, hRc, hRs⟩ := ok2
  obtain ⟨w1, w2, w3, w4, w5, w6, w7, w8, w9, w10, w11⟩ := w
  exact va_ldcS hx hb hown (hLow.1 j _ hj).1 hd (k p l e R s m args below meth c D τ A b0 adV mc ms n0 σ0 σ mv0 H locs cells slots ls ok ⟨w1, w2, w3, w4, w5, w6, w7, w8.cons trivial, w9, w10, w11⟩)
theorem pn_getKv {M : pnM} {adK : Nat → Nat} {d : Nat} {Q : pnR → List pnE → Prop} {bc bs : Nat} {h : List pnE} {L : List (Option Value)} {st : List Value} {pc q : Nat} {index j : Nat} {x : String × Nat × String} (hj : pnStr[j]? = some x) (hl : Cond.fieldLink M.1.cls index "java/lang/String" "value" "[B" ∈ pnG) (hd : decode M.2.1 pc = .ok (.getfield index, 3)) (hq : pc + 3 = q) (k : pnWP M adK d Q bc bs h L (.retAddr (adK (j + 1000)) :: st) q) : pnWP M adK d Q bc bs h L (.retAddr (adK j) :: st) pc := by
  subst hq
  intro p l e R s m args below meth c D τ A b0 adV mc ms n0 σ0 σ mv0 H locs cells slots ls ok w
  have ok2 := ok
  obtain ⟨hx, hb, hr, hml, hown, hts, hlk, hnm, htab, hK, hA, hAb, hb0, hLow, hst, hfr, hlo, hRc, hRs⟩ := ok2
  obtain ⟨w1, w2, w3, w4, w5, w6, w7, w8, w9, w10, w11⟩ := w
  exact vk_getf hx hb ((hLow.1 j _ hj).2.2.2.1.narrow hAb) w3 hown (hts _ hl) (fun x h => h) hd (k p l e R s m args below meth c D τ A b0 adV mc ms n0 σ0 σ mv0 H locs cells slots ls ok ⟨w1, w2, w3, w4, w5, w6, w7, w8.tail.cons trivial, w9, w10, w11⟩)
theorem pn_getKc {M : pnM} {adK : Nat → Nat} {d : Nat} {Q : pnR → List pnE → Prop} {bc bs : Nat} {h : List pnE} {L : List (Option Value)} {st : List Value} {pc q : Nat} {index j : Nat} {x : String × Nat × String} (hj : pnStr[j]? = some x) (hl : Cond.fieldLink M.1.cls index "java/lang/String" "coder" "B" ∈ pnG) (hd : decode M.2.1 pc = .ok (.getfield index, 3)) (hq : pc + 3 = q) (k : pnWP M adK d Q bc bs h L (.int (nI 0) :: st) q) : pnWP M adK d Q bc bs h L (.retAddr (adK j) :: st) pc := by
  subst hq
  intro p l e R s m args below meth c D τ A b0 adV mc ms n0 σ0 σ mv0 H locs cells slots ls ok w
  have ok2 := ok
  obtain ⟨hx, hb, hr, hml, hown, hts, hlk, hnm, htab, hK, hA, hAb, hb0, hLow, hst, hfr, hlo, hRc, hRs⟩ := ok2
  obtain ⟨w1, w2, w3, w4, w5, w6, w7, w8, w9, w10, w11⟩ := w
  exact vk_getf hx hb ((hLow.1 j _ hj).2.2.1.narrow hAb) w3 hown (hts _ hl) (fun x h => h) hd (k p l e R s m args below meth c D τ A b0 adV mc ms n0 σ0 σ mv0 H locs cells slots ls ok ⟨w1, w2, w3, w4, w5, w6, w7, w8.tail.cons trivial, w9, w10, w11⟩)
theorem pn_alenK {M : pnM} {adK : Nat → Nat} {d : Nat} {Q : pnR → List pnE → Prop} {bc bs : Nat} {h : List pnE} {L : List (Option Value)} {st : List Value} {pc q : Nat} {j : Nat} {x : String × Nat × String} (hj : pnStr[j]? = some x) (hd : decode M.2.1 pc = .ok (.arraylength, 1)) (hq : pc + 1 = q) (k : pnWP M adK d Q bc bs h L (.int (nI x.2.2.length) :: st) q) : pnWP M adK d Q bc bs h L (.retAddr (adK (j + 1000)) :: st) pc := by
  subst hq
  intro p l e R s m args below meth c D τ A b0 adV mc ms n0 σ0 σ mv0 H locs cells slots ls ok w
  have ok2 := ok
  obtain ⟨hx, hb, hr, hml, hown, hts, hlk, hnm, htab, hK, hA, hAb, hb0, hLow, hst, hfr, hlo, hRc, hRs⟩ := ok2
  obtain ⟨w1, w2, w3, w4, w5, w6, w7, w8, w9, w10, w11⟩ := w
  exact va_tlen hx hb ((hLow.1 j _ hj).2.2.2.2.narrow hAb) w3 (v := nI x.2.2.length) rfl hd (k p l e R s m args below meth c D τ A b0 adV mc ms n0 σ0 σ mv0 H locs cells slots ls ok ⟨w1, w2, w3, w4, w5, w6, w7, w8.tail.cons trivial, w9, w10, w11⟩)
theorem pn_baldK {M : pnM} {adK : Nat → Nat} {d : Nat} {Q : pnR → List pnE → Prop} {bc bs : Nat} {h : List pnE} {L : List (Option Value)} {st : List Value} {pc q : Nat} {j i : Nat} {x : String × Nat × String} (hj : pnStr[j]? = some x) (hi : i < x.2.2.length) (hi9 : i < 2147483648) (hd : decode M.2.1 pc = .ok (.baload, 1)) (hq : pc + 1 = q) (k : pnWP M adK d Q bc bs h L (.int (nI ((x.2.2.toList.getD i 'a').toNat)) :: st) q) : pnWP M adK d Q bc bs h L (.int (nI i) :: .retAddr (adK (j + 1000)) :: st) pc := by
  subst hq
  intro p l e R s m args below meth c D τ A b0 adV mc ms n0 σ0 σ mv0 H locs cells slots ls ok w
  have ok2 := ok
  obtain ⟨hx, hb, hr, hml, hown, hts, hlk, hnm, htab, hK, hA, hAb, hb0, hLow, hst, hfr, hlo, hRc, hRs⟩ := ok2
  obtain ⟨w1, w2, w3, w4, w5, w6, w7, w8, w9, w10, w11⟩ := w
  refine va_tb hx hb ((hLow.1 j _ hj).2.2.2.2.narrow hAb) w3 (i := nI i) ?_ (v := .int (nI ((x.2.2.toList.getD i 'a').toNat))) (by rw [nI_clamp (by omega)]) hd (k p l e R s m args below meth c D τ A b0 adV mc ms n0 σ0 σ mv0 H locs cells slots ls ok ⟨w1, w2, w3, w4, w5, w6, w7, w8.tail.tail.cons trivial, w9, w10, w11⟩)
  intro hq
  rcases hq with hq | hq
  · exact nI_pos (by omega) hq
  · rw [nI_clamp (by omega)] at hq; omega
theorem pn_getsC {M : pnM} {adK : Nat → Nat} {d : Nat} {Q : pnR → List pnE → Prop} {bc bs : Nat} {h : List pnE} {L : List (Option Value)} {st : List Value} {pc q : Nat} {index : Nat} (hl : Cond.fieldLink M.1.cls index "java/lang/String" "COMPACT_STRINGS" "Z" ∈ pnG) (hd : decode M.2.1 pc = .ok (.getstatic index, 3)) (hq : pc + 3 = q) (k : pnWP M adK d Q bc bs h L (.int (nI 1) :: st) q) : pnWP M adK d Q bc bs h L st pc := by
  subst hq
  intro p l e R s m args below meth c D τ A b0 adV mc ms n0 σ0 σ mv0 H locs cells slots ls ok w
  have ok2 := ok
  obtain ⟨hx, hb, hr, hml, hown, hts, hlk, hnm, htab, hK, hA, hAb, hb0, hLow, hst, hfr, hlo, hRc, hRs⟩ := ok2
  obtain ⟨w1, w2, w3, w4, w5, w6, w7, w8, w9, w10, w11⟩ := w
  exact va_gets hx hb (hLow.2.2.2.1.narrow hAb) w3 hown (hts _ hl) (fun x h => h) hd (k p l e R s m args below meth c D τ A b0 adV mc ms n0 σ0 σ mv0 H locs cells slots ls ok ⟨w1, w2, w3, w4, w5, w6, w7, w8.cons trivial, w9, w10, w11⟩)
theorem pn_getsF {M : pnM} {adK : Nat → Nat} {d : Nat} {Q : pnR → List pnE → Prop} {bc bs : Nat} {h : List pnE} {L : List (Option Value)} {st : List Value} {pc q : Nat} {index : Nat} (hl : Cond.fieldLink M.1.cls index "jdk/internal/util/Preconditions" "SIOOBE_FORMATTER" "Ljava/util/function/BiFunction;" ∈ pnG) (hd : decode M.2.1 pc = .ok (.getstatic index, 3)) (hq : pc + 3 = q) (k : ∀ v, (v = .null ∨ ∃ t, v = .retAddr t) → pnWP M adK d Q bc bs h L (v :: st) q) : pnWP M adK d Q bc bs h L st pc := by
  subst hq
  intro p l e R s m args below meth c D τ A b0 adV mc ms n0 σ0 σ mv0 H locs cells slots ls ok w
  have ok2 := ok
  obtain ⟨hx, hb, hr, hml, hown, hts, hlk, hnm, htab, hK, hA, hAb, hb0, hLow, hst, hfr, hlo, hRc, hRs⟩ := ok2
  obtain ⟨w1, w2, w3, w4, w5, w6, w7, w8, w9, w10, w11⟩ := w
  rcases hLow.2.2.2.2.2.1 with hz | ⟨t, hz⟩
  · exact va_gets hx hb (hz.narrow hAb) w3 hown (hts _ hl) (fun x h => h) hd (k .null (Or.inl rfl) p l e R s m args below meth c D τ A b0 adV mc ms n0 σ0 σ mv0 H locs cells slots ls ok ⟨w1, w2, w3, w4, w5, w6, w7, w8.cons trivial, w9, w10, w11⟩)
  · exact va_gets hx hb (hz.narrow hAb) w3 hown (hts _ hl) (fun x h => h) hd (k (.retAddr t) (Or.inr ⟨t, rfl⟩) p l e R s m args below meth c D τ A b0 adV mc ms n0 σ0 σ mv0 H locs cells slots ls ok ⟨w1, w2, w3, w4, w5, w6, w7, w8.cons trivial, w9, w10, w11⟩)
theorem pn_i2c {M : pnM} {adK : Nat → Nat} {d : Nat} {Q : pnR → List pnE → Prop} {bc bs : Nat} {h : List pnE} {L : List (Option Value)} {st : List Value} {pc q : Nat} {x : Int32} (hd : decode M.2.1 pc = .ok (.i2c, 1)) (hq : pc + 1 = q) (k : pnWP M adK d Q bc bs h L (.int (x.toUInt32 % 65536).toInt32 :: st) q) : pnWP M adK d Q bc bs h L (.int x :: st) pc := by
  subst hq
  intro p l e R s m args below meth c D τ A b0 adV mc ms n0 σ0 σ mv0 H locs cells slots ls ok w
  have ok2 := ok
  obtain ⟨hx, hb, hr, hml, hown, hts, hlk, hnm, htab, hK, hA, hAb, hb0, hLow, hst, hfr, hlo, hRc, hRs⟩ := ok2
  obtain ⟨w1, w2, w3, w4, w5, w6, w7, w8, w9, w10, w11⟩ := w
  exact lv_i2c hx hb hd rfl (k p l e R s m args below meth c D τ A b0 adV mc ms n0 σ0 σ mv0 H locs cells slots ls ok ⟨w1, w2, w3, w4, w5, w6, w7, w8.tail.cons trivial, w9, w10, w11⟩)
theorem pn_strV {M M9 : pnM} {adK : Nat → Nat} {d d9 : Nat} {Q : pnR → List pnE → Prop} {bc bs : Nat} {h : List pnE} {L : List (Option Value)} {st st0 av : List Value} {pc q index n j : Nat} {x : String × Nat × String} {v : Value} (hj : pnStr[j]? = some x) (hC : pnCt M9 adK d9 0 0 (.retAddr (adK j) :: av) [] (pnIs (.inl (some v)) [])) (lk : pnLkV M.1.cls index M9 n) (hs9 : M9.1.cls = "java/lang/String") (hd : decode M.2.1 pc = .ok (.invokevirtual index, 3)) (hq : pc + 3 = q) (hn : av.length = n) (hstk : st0 = (av.map (pnRV [])).reverse ++ .retAddr (adK j) :: st) (hdd : d9 + 1 ≤ d) (hw8 : (st.map fun v => v.category).sum ≤ 8) (hf : pnFlat (some v) = true)
    (k : pnWP M adK d Q bc bs h L (v :: st) q) : pnWP M adK d Q bc bs h L st0 pc := by
  subst hq
  intro p l e R s m args below meth c D τ A b0 adV mc ms n0 σ0 σ mv0 H locs cells slots ls ok w
  have ok2 := ok
  obtain ⟨hx, hb, hr, hml, hown, hts, hlk, hnm, htab, hK, hA, hAb, hb0, hLow, hst, hfr, hlo, hRc, hRs⟩ := ok2
  obtain ⟨w1, w2, w3, w4, w5, w6, w7, w8, w9, w10, w11⟩ := w
  obtain ⟨⟨l1, l2, l3, l4, l5⟩, l6, l7, l8⟩ := lk
  have hs : pnSel h [] [] := pnSel_of (I := []) rfl rfl
  have hmv : pnFree h L st [] [] := pnFree_none rfl
  obtain ⟨hP9, hD9⟩ := pn_cut w1 w2 hs hAb
  have hpay : ∀ U : State, U.heap = H → s.WarmedH U.vm → va_Pc ((.retAddr (adK j) :: av).map (pnV (fun k => σ (([] : List Nat).getD k 0)))) (pnB adK adV D τ b0 H.size (fun k => σ (([] : List Nat).getD k 0)) []) ((.retAddr (adK j) :: av).map (pnV (fun k => σ (([] : List Nat).getD k 0)))).toArray U := fun U hU hW =>
    ⟨rfl, by rw [hU], by rw [hU]; exact hP9, va_K.moved hW.alike hK, hD9, Nat.le_trans hb0 w3.1, by rw [hU]; exact pnLow.warm hW (fun q h1 h2 => w3.2.1 q h1 (fun h3 => h2 (hAb q h3))) hLow⟩
  have hlocals : 8 + (M9.2.2.1 + 11) + 64 * d9 ≤ R.locals := by omega
  obtain ⟨hG, hWs⟩ := pnWs_good l3 l2
  subst hstk
  have w8r : pnCS h.length st := fun x hx9 => w8 x (List.mem_append_right _ (List.mem_cons_of_mem _ hx9))
  have hroom : 2 * (F0 m pc ls (st.map (pnV σ))).monitorRoom + ((st.map (pnV σ)).map fun v => v.category).sum ≤ 8 := lv_room (by rw [pnCatSum]; exact hw8)
  refine pn_after (Q' := pnIs (.inl (some v)) []) (a9 := (List.map (pnV (fun k => σ (([] : List Nat).getD k 0))) (.retAddr (adK j) :: av)).toArray) ok ⟨w1, w2, w3, w4, w5, w6, w7, w8r, w9, w10, w11⟩ hs hmv (bc' := bc) (bs' := bs) (mc' := 0) (ms' := 0) (Nat.le_refl _) (Nat.le_refl _) ?_ (fun r h' hq _ => ?_) (fun E h' hq _ => by cases hq.1)
  · refine vx_runV (As := av.map (pnV (fun k => σ (([] : List Nat).getD k 0)))) (rest := st.map (pnV σ)) ⟨hx, hb, hml, hown, hts⟩ (hC l D τ adV b0 H.size (fun k => σ (([] : List Nat).getD k 0)) hst) ⟨callB_of n hts hG hWs rfl rfl (hts _ l1) (hts _ l6) l4 ⟨Nat.le_trans hdd hfr, hlocals⟩, hts _ l7, hts _ l8⟩ ⟨pnB_blind, ?_, hpay⟩ rfl (by rw [List.length_map]; exact hn) w9.1 (by show List.map (pnV σ) _ = _; rw [pnStk]; rfl) hroom hd ⟨by omega, by omega⟩
    rw [hs9]
    exact va_Orecv ((hLow.1 j _ hj).2.1.narrow hAb) w3
  · obtain ⟨e1, e2⟩ := hq
    subst e2
    cases e1
    rw [pnBack_id hs, pnRes_flat hf]
    exact k
theorem sh0 {x : Int32} : x >>> (nI 0 &&& 31) = x := by rw [show nI 0 &&& 31 = 0 from rfl]; exact Int32.shiftRight_zero
theorem ch_and : ∀ c : Nat, c < 128 → nI c &&& nI 255 = nI c ∧ ((nI c).toUInt32 % 65536).toInt32 = nI c := by decide +kernel
set_option maxRecDepth 100000 in
theorem c_coder (adK : Nat → Nat) (d j : Nat) (x : String × Nat × String) (hj : pnStr[j]? = some x) : pnCt mJ0_coder_7d493 adK d 0 0 [.retAddr (adK j)] [] (pnIs (.inl (some (.int (nI 0)))) []) := by
  refine pnCt_ofF (by decide +kernel) kJ0_coder_7d493 (Nat.le_of_ble_eq_true rfl) rfl (pnCH_b rfl) (pnCS_b rfl) ?_
  refine pn_getsC (q := 3) pw_670 dJ0_coder_7d493_0 rfl ?_
  first | refine pn_zeq (q := 6) (tgt := 13) dJ0_coder_7d493_3 (by decide) rfl (by omega) (fun hc3 => ?_) (fun hc3 => ?_) | refine pn_if_eq (q := 6) (tgt := 13) dJ0_coder_7d493_3 (by decide) rfl (fun hc3 => ?_) (fun hc3 => ?_)
  · omega
  · refine pn_aload_n (q := 7) dJ0_coder_7d493_6 rfl rfl rfl ?_
    refine pn_getKc (q := 10) hj pw_1527 dJ0_coder_7d493_7 rfl ?_
    refine pn_goto (q := 14) dJ0_coder_7d493_10 (by decide) ?_
    exact pn_zret dJ0_coder_7d493_14 rfl rfl ⟨rfl, rfl⟩
set_option maxRecDepth 100000 in
theorem c_isLatin1 (adK : Nat → Nat) (d j : Nat) (x : String × Nat × String) (hj : pnStr[j]? = some x) : pnCt mJ0_isLatin1_aae02 adK d 0 0 [.retAddr (adK j)] [] (pnIs (.inl (some (.int (nB true)))) []) := by
  refine pnCt_ofF (by decide +kernel) kJ0_isLatin1_aae02 (Nat.le_of_ble_eq_true rfl) rfl (pnCH_b rfl) (pnCS_b rfl) ?_
  refine pn_getsC (q := 3) pw_670 dJ0_isLatin1_aae02_0 rfl ?_
  first | refine pn_zeq (q := 6) (tgt := 17) dJ0_isLatin1_aae02_3 (by decide) rfl (by omega) (fun hc3 => ?_) (fun hc3 => ?_) | refine pn_if_eq (q := 6) (tgt := 17) dJ0_isLatin1_aae02_3 (by decide) rfl (fun hc3 => ?_) (fun hc3 => ?_)
  · omega
  · refine pn_aload_n (q := 7) dJ0_isLatin1_aae02_6 rfl rfl rfl ?_
    refine pn_getKc (q := 10) hj pw_1527 dJ0_isLatin1_aae02_7 rfl ?_
    first | refine pn_zne (q := 13) (tgt := 17) dJ0_isLatin1_aae02_10 (by decide) rfl (by omega) (fun hc10 => ?_) (fun hc10 => ?_) | refine pn_if_ne (q := 13) (tgt := 17) dJ0_isLatin1_aae02_10 (by decide) rfl (fun hc10 => ?_) (fun hc10 => ?_)
    · omega
    · refine pn_iconst (q := 14) (v := nI 1) dJ0_isLatin1_aae02_13 rfl (by decide) ?_
      refine pn_goto (q := 18) dJ0_isLatin1_aae02_14 (by decide) ?_
      refine pn_tret (b := true) _ ?_ dJ0_isLatin1_aae02_18 rfl ?_
      · rfl
      · exact ⟨rfl, rfl⟩
set_option maxRecDepth 100000 in
theorem c_strlen (adK : Nat → Nat) (d j : Nat) (x : String × Nat × String) (hj : pnStr[j]? = some x) : pnCt mJ0_length_8abf5 adK (d + 1) 0 0 [.retAddr (adK j)] [] (pnIs (.inl (some (.int (nI x.2.2.length)))) []) := by
  refine pnCt_ofF (by decide +kernel) kJ0_length_8abf5 (Nat.le_of_ble_eq_true rfl) rfl (pnCH_b rfl) (pnCS_b rfl) ?_
  refine pn_aload_n (q := 1) dJ0_length_8abf5_0 rfl rfl rfl ?_
  refine pn_getKv (q := 4) hj pw_1526 dJ0_length_8abf5_1 rfl ?_
  refine pn_alenK (q := 5) hj dJ0_length_8abf5_4 rfl ?_
  refine pn_aload_n (q := 6) dJ0_length_8abf5_5 rfl rfl rfl ?_
  refine pn_strV (q := 9) hj (c_coder adK d j x hj) lkJ0_335 rfl dJ0_length_8abf5_6 rfl rfl rfl (by omega) (Nat.le_of_ble_eq_true rfl) rfl ?_
  refine pn_ishr (q := 10) dJ0_length_8abf5_9 rfl ?_
  refine pn_iret dJ0_length_8abf5_10 rfl ?_
  exact ⟨by rw [sh0], rfl⟩
set_option maxRecDepth 100000 in
theorem c_pcheck (adK : Nat → Nat) (d i n : Nat) (v : Value) (hv : v = .null ∨ ∃ t, v = .retAddr t) (hi : i < n) (hn : n < 2147483648) : pnCt mJ3_checkIndex_8e157 adK d 0 0 [.int (nI i), .int (nI n), v] [] (pnIs (.inl (some (.int (nI i)))) []) := by
  have hv2 : pnCV 0 v := by rcases hv with e | ⟨t, e⟩ <;> subst e <;> trivial
  have hv3 : (lg_sl [.int (nI i), .int (nI n), v]).length ≤ 3 := by rcases hv with e | ⟨t, e⟩ <;> subst e <;> exact Nat.le_of_ble_eq_true rfl
  have hv4 : pnArgs [.int (nI i), .int (nI n), v] = [some (.int (nI i)), some (.int (nI n)), some v] := by rcases hv with e | ⟨t, e⟩ <;> subst e <;> rfl
  refine pnCt_ofF (by decide +kernel) kJ3_checkIndex_8e157 hv3 rfl (pnCH_b rfl) (pnCS.cons (n := 0) (v := .int (nI i)) trivial (pnCS.cons (n := 0) (v := .int (nI n)) trivial (pnCS.cons hv2 (fun x hx => nomatch hx)))) ?_
  rw [hv4]
  refine pn_iload_n (q := 1) dJ3_checkIndex_8e157_0 rfl rfl ?_
  first | refine pn_zlt (q := 4) (tgt := 9) dJ3_checkIndex_8e157_1 (by decide) rfl (by omega) (fun hc1 => ?_) (fun hc1 => ?_) | refine pn_if_lt (q := 4) (tgt := 9) dJ3_checkIndex_8e157_1 (by decide) rfl (fun hc1 => ?_) (fun hc1 => ?_)
  · exact hc1.elim
  · refine pn_iload_n (q := 5) dJ3_checkIndex_8e157_4 rfl rfl ?_
    refine pn_iload_n (q := 6) dJ3_checkIndex_8e157_5 rfl rfl ?_
    first | refine pn_nlt (q := 9) (tgt := 16) dJ3_checkIndex_8e157_6 (by decide) rfl (by omega) (by omega) (fun hc6 => ?_) (fun hc6 => ?_) | refine pn_icmp_lt (q := 9) (tgt := 16) dJ3_checkIndex_8e157_6 (by decide) rfl (fun hc6 => ?_) (fun hc6 => ?_)
    · refine pn_iload_n (q := 17) dJ3_checkIndex_8e157_16 rfl rfl ?_
      refine pn_iret dJ3_checkIndex_8e157_17 rfl ?_
      exact ⟨rfl, rfl⟩
    · omega
set_option maxRecDepth 100000 in
theorem c_scheck (adK : Nat → Nat) (d i n : Nat) (hi : i < n) (hn : n < 2147483648) : pnCt mJ0_checkIndex_df160 adK (d + 1) 0 0 [.int (nI i), .int (nI n)] [] (pnIs (.inl none) []) := by
  refine pnCt_ofF (by decide +kernel) kJ0_checkIndex_df160 (Nat.le_of_ble_eq_true rfl) rfl (pnCH_b rfl) (pnCS_b rfl) ?_
  refine pn_iload_n (q := 1) dJ0_checkIndex_df160_0 rfl rfl ?_
  refine pn_iload_n (q := 2) dJ0_checkIndex_df160_1 rfl rfl ?_
  refine pn_getsF (q := 5) pw_686 dJ0_checkIndex_df160_2 rfl (fun v hv => ?_)
  have C := c_pcheck adK d i n v hv hi hn
  rcases hv with e | ⟨t, e⟩
  · subst e
    refine pn_roS1 (q := 8) (C) lkJ0_1059 dJ0_checkIndex_df160_5 rfl rfl (pnSel_of (I := []) rfl rfl) (pnFree_none rfl) rfl (by omega) (Nat.le_of_ble_eq_true rfl) rfl ?_
    refine pn_pop (q := 9) dJ0_checkIndex_df160_8 rfl rfl ?_
    refine pn_vret dJ0_checkIndex_df160_9 rfl ?_
    exact ⟨rfl, rfl⟩
  · subst e
    refine pn_roS1 (q := 8) (C) lkJ0_1059 dJ0_checkIndex_df160_5 rfl rfl (pnSel_of (I := []) rfl rfl) (pnFree_none rfl) rfl (by omega) (Nat.le_of_ble_eq_true rfl) rfl ?_
    refine pn_pop (q := 9) dJ0_checkIndex_df160_8 rfl rfl ?_
    refine pn_vret dJ0_checkIndex_df160_9 rfl ?_
    exact ⟨rfl, rfl⟩
set_option maxRecDepth 100000 in
theorem c_lat1 (adK : Nat → Nat) (d j i : Nat) (x : String × Nat × String) (hj : pnStr[j]? = some x) (hi : i < x.2.2.length) (hx : x.2.2.length < 1000) (hc : (x.2.2.toList.getD i 'a').toNat < 128) : pnCt mJ1_charAt_3b067 adK (d + 2) 0 0 [.retAddr (adK (j + 1000)), .int (nI i)] [] (pnIs (.inl (some (.int (nI ((x.2.2.toList.getD i 'a').toNat))))) []) := by
  refine pnCt_ofF (by decide +kernel) kJ1_charAt_3b067 (Nat.le_of_ble_eq_true rfl) rfl (pnCH_b rfl) (pnCS_b rfl) ?_
  have h1 := ch_and _ hc
  refine pn_iload_n (q := 1) dJ1_charAt_3b067_0 rfl rfl ?_
  refine pn_aload_n (q := 2) dJ1_charAt_3b067_1 rfl rfl rfl ?_
  refine pn_alenK (q := 3) hj dJ1_charAt_3b067_2 rfl ?_
  refine pn_roS0 (q := 6) (c_scheck adK d i x.2.2.length hi (by omega)) lkJ1_9 dJ1_charAt_3b067_3 rfl rfl (pnSel_of (I := []) rfl rfl) (pnFree_none rfl) rfl (by omega) (Nat.le_of_ble_eq_true rfl) ?_
  refine pn_aload_n (q := 7) dJ1_charAt_3b067_6 rfl rfl rfl ?_
  refine pn_iload_n (q := 8) dJ1_charAt_3b067_7 rfl rfl ?_
  refine pn_baldK (q := 9) hj hi (by omega) dJ1_charAt_3b067_8 rfl ?_
  refine pn_sipush (q := 12) (v := nI 255) dJ1_charAt_3b067_9 rfl (by decide) ?_
  refine pn_iand (q := 13) dJ1_charAt_3b067_12 rfl ?_; rw [h1.1]
  refine pn_i2c (q := 14) dJ1_charAt_3b067_13 rfl ?_; rw [h1.2]
  exact pn_zret dJ1_charAt_3b067_14 rfl (congrArg Value.int h1.2) ⟨rfl, rfl⟩
set_option maxRecDepth 100000 in
theorem c_charAt (adK : Nat → Nat) (d j i : Nat) (x : String × Nat × String) (hj : pnStr[j]? = some x) (hi : i < x.2.2.length) (hx : x.2.2.length < 1000) (hc : (x.2.2.toList.getD i 'a').toNat < 128) : pnCt mJ0_charAt_5068e adK (d + 3) 0 0 [.retAddr (adK j), .int (nI i)] [] (pnIs (.inl (some (.int (nI ((x.2.2.toList.getD i 'a').toNat))))) []) := by
  refine pnCt_ofF (by decide +kernel) kJ0_charAt_5068e (Nat.le_of_ble_eq_true rfl) rfl (pnCH_b rfl) (pnCS_b rfl) ?_
  have h1 := ch_and _ hc
  refine pn_aload_n (q := 1) dJ0_charAt_5068e_0 rfl rfl rfl ?_
  refine pn_strV (q := 4) hj (c_isLatin1 adK d j x hj) lkJ0_492 rfl dJ0_charAt_5068e_1 rfl rfl rfl (by omega) (Nat.le_of_ble_eq_true rfl) rfl ?_
  refine pn_beq (q := 7) (tgt := 16) dJ0_charAt_5068e_4 (by decide) rfl (fun hc4 => ?_) (fun hc4 => ?_)
  · cases hc4
  · refine pn_aload_n (q := 8) dJ0_charAt_5068e_7 rfl rfl rfl ?_
    refine pn_getKv (q := 11) hj pw_1526 dJ0_charAt_5068e_8 rfl ?_
    refine pn_iload_n (q := 12) dJ0_charAt_5068e_11 rfl rfl ?_
    refine pn_roS1 (q := 15) (c_lat1 adK d j i x hj hi hx hc) lkJ0_495 dJ0_charAt_5068e_12 rfl rfl (pnSel_of (I := []) rfl rfl) (pnFree_none rfl) rfl (by omega) (Nat.le_of_ble_eq_true rfl) rfl ?_
    exact pn_zret dJ0_charAt_5068e_15 rfl (congrArg Value.int h1.2) ⟨rfl, rfl⟩
