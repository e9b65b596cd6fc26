theorem pn_bud {M : pnM} {adK : Nat → Nat} {d : Nat} {Q : pnR → List pnE → Prop} {bc bs : Nat} {h : List pnE} {L : List (Option Value)} {st : List Value} {pc : Nat} {bc' bs' : Nat} (k : pnWP M adK d Q bc' bs' h L st pc) (h1 : bc' ≤ bc) (h2 : bs' ≤ bs) : pnWP M adK d Q bc bs h L st pc := by
  intro p l e R s m args below meth c D τ A b0 adV mc ms n0 σ0 σ mv0 H locs cells slots ls ok w
  obtain ⟨w1, w2, w3, w4, w5, w6, w7, w8, w9, w10, w11⟩ := w
  exact k p l e R s m args below meth c D τ A b0 adV mc ms n0 σ0 σ mv0 H locs cells slots ls ok ⟨w1, w2, w3, w4, w5, w6, w7, w8, w9, by omega, by omega⟩
theorem xf_iae : Bundle.fit "java/lang/IllegalArgumentException" = true := by decide +kernel
theorem xf_ise : Bundle.fit "java/lang/IllegalStateException" = true := by decide +kernel
theorem xf_nse : Bundle.fit "java/util/NoSuchElementException" = true := by decide +kernel
theorem pn_idVX {M M9 : pnM} {adK : Nat → Nat} {d d9 : Nat} {Q : pnR → List pnE → Prop} {bc bs : Nat} {h : List pnE} {L : List (Option Value)} {st st0 av : List Value} {pc q index n : Nat} {k0 : Nat} {ci : Nat} {fs : List Value} {E : String} {hc' : List pnE} {mc9 ms9 : Nat} (hC : pnCt M9 adK d9 mc9 ms9 (.ref k0 :: av) h (pnIs (.inr E) hc')) (lk : pnLkV M.1.cls index M9 n) (hd : decode M.2.1 pc = .ok (.invokevirtual index, 3)) (hq : pc + 3 = q) (hn : av.length = n) (hcl : pnCH h) (hcl' : pnCH hc') (hlen : h.length ≤ hc'.length) (hfr : pnFrI L st h 0 = true) (hk0 : h[k0]? = some (.inr (ci, fs))) (hci : (vwCl[ci]?).map (fun x => x.1) = some M9.1.cls) (hca : av.all (pnCVb h.length) = true) (hstk : st0 = av.reverse ++ .ref k0 :: st) (hdd : d9 + 1 ≤ d) (hbc : mc9 ≤ bc) (hbs : ms9 ≤ bs) (hw8 : (st.map fun v => v.category).sum ≤ 8) (hh : M.2.2.2.2 = [])
    (hQ : Q (.inr E) hc') : pnWP M adK d Q bc bs h L st0 pc := by
  subst hq
  have hk1 : k0 < h.length := (List.getElem?_eq_some_iff.mp hk0).1
  have hav : av.map (pnRV (List.range h.length)) = av := by
    conv => rhs; rw [← List.map_id av]
    exact List.map_congr_left (fun v hv => pnRV_id (pnCV_b (List.all_eq_true.mp hca v hv)))
  refine pn_callV (I := List.range h.length) hC lk hd hn (pnSel_id hcl) (pnFree_id hfr) hk0 hci (by rw [hav, pnRg hk1]; exact hstk) hdd (bc9 := 0) (bs9 := 0) (by omega) (by omega) hw8 (fun r h' hq _ => by cases hq.1) (fun E9 h' hq _ => ?_)
  obtain ⟨e1, e2⟩ := hq
  subst e2
  cases e1
  rw [pnBack_rg hcl' hlen]
  exact ⟨hh, hQ⟩
/-! ===== the world of a PartedNet ===== -/
abbrev AS : Type := Nat × Nat × (Nat → NS)
abbrev QS : Type := Nat × Nat × RS
abbrev CS : Type := Nat × Nat × (Nat → Int64) × (Nat → Nat) × Int64 × Nat × Nat × Nat × Int64 × Nat × (Nat → Nat)
abbrev WS : Type := Nat × Nat × Bool × Nat × (Nat → Int64) × (Nat → Nat) × Bool × Int64 × Nat × Nat × Nat
abbrev SS : Type := Nat × (Nat → Int32) × (Nat → Int32)
def IA : List Nat := [6, 7, 8, 9, 10, 11, 12, 13, 14, 15, 16, 17, 18, 19, 20, 21, 22, 23, 24, 25, 26, 27, 28, 29, 30, 31, 32, 33, 34, 35, 36, 37, 38, 39, 2, 3, 4, 5]
def IR : List Nat := [40, 41, 42, 43, 44, 46, 47, 48, 1, 45]
def hPr (Q : QS) : List pnE := .inr (3, [.ref 41, .int Q.2.2.1, .int (nI Q.2.2.2.1), .ref (IR.getD Q.1 0), .int (nI Q.2.1), .int (nI Q.2.2.2.2.1), .int (nI Q.2.2.2.2.2.1), .int (nI Q.2.2.2.2.2.2.1), .int (nI Q.2.2.2.2.2.2.2.1), .int (nB Q.2.2.2.2.2.2.2.2.1), .int (nI Q.2.2.2.2.2.2.2.2.2.1), .int (nI Q.2.2.2.2.2.2.2.2.2.2.1), .ref 46, .ref 47, .ref 48]) :: (hNS 41 Q.2.2.2.2.2.2.2.2.2.2.2.1 ++ [.inl (2, 0, .inl (fun _ => 0)), .inl (0, 250, .inl Q.2.2.2.2.2.2.2.2.2.2.2.2.1), .inl (0, 50, .inl (fun j => nI (Q.2.2.2.2.2.2.2.2.2.2.2.2.2.1 j))), .inl (0, 4, .inl (fun j => nI (Q.2.2.2.2.2.2.2.2.2.2.2.2.2.2 j)))])
def hPa (A : AS) : List pnE := .inr (0, [.int (nI A.1), .int (nI A.2.1), .ref 7]) :: .inl (3, 8, .inr (.inr (.inr (.inr (fun j => (slF j).map (fun k => IA.getD k 0)))))) :: (hNS 8 (A.2.2 0) ++ (hNS 12 (A.2.2 1) ++ (hNS 16 (A.2.2 2) ++ (hNS 20 (A.2.2 3) ++ (hNS 24 (A.2.2 4) ++ (hNS 28 (A.2.2 5) ++ (hNS 32 (A.2.2 6) ++ (hNS 36 (A.2.2 7)))))))))
def hPc (C : CS) : List pnE := hCatO 49 C.1 C.2.1 C.2.2.1 (fun j => nI (C.2.2.2.1 j)) C.2.2.2.2.1 C.2.2.2.2.2.1 C.2.2.2.2.2.2.1 C.2.2.2.2.2.2.2.1 C.2.2.2.2.2.2.2.2.1 C.2.2.2.2.2.2.2.2.2.1 (fun j => nI (C.2.2.2.2.2.2.2.2.2.2 j))
def hPw (W : WS) : List pnE := [.inr (5, [.int (nI W.1), .int (nI W.2.1), .int (nB W.2.2.1), .int (nI W.2.2.2.1), .ref 54, .ref 55, .int (nB W.2.2.2.2.2.2.1), .long W.2.2.2.2.2.2.2.1, .int (nI W.2.2.2.2.2.2.2.2.1), .int (nI W.2.2.2.2.2.2.2.2.2.1), .int (nI W.2.2.2.2.2.2.2.2.2.2)]), .inl (1, 55, .inr (.inl W.2.2.2.2.1)), .inl (0, 55, .inl (fun j => nI (W.2.2.2.2.2.1 j)))]
def hPs (Z : SS) : List pnE := [.inr (4, [.ref 57, .ref 58, .int (nI Z.1)]), .inl (0, 14, .inl Z.2.1), .inl (0, 14, .inl Z.2.2)]
def hP (b : Nat → Int32) (tp : Nat) (fp : Int32) (N : NS) (A : AS) (Q : QS) (C : CS) (W : WS) (Z : SS) (ask : Nat → Int32) (rf : Nat → Nat) : List pnE :=
  .inr (6, [.ref 1, .int (nI tp), .int fp, .ref 2, .ref 6, .ref 40, .ref 49, .ref 53, .ref 56, .ref 59, .ref 60]) :: .inl (2, 300, .inl b) :: (hNS 2 N ++ (hPa A ++ (hPr Q ++ (hPc C ++ (hPw W ++ (hPs Z ++ [.inl (0, 5, .inl ask), .inl (0, 3, .inl (fun j => nI (rf j)))]))))))
theorem hP_cl {b : Nat → Int32} {tp : Nat} {fp : Int32} {N : NS} {A : AS} {Q : QS} {C : CS} {W : WS} {Z : SS} {ask : Nat → Int32} {rf : Nat → Nat} (hq : Q.1 = 8 ∨ Q.1 = 9) : pnCH (hP b tp fp N A Q C W Z ask rf) := by
  obtain ⟨q, Q'⟩ := Q
  have hl : ∀ g ∈ pnRefs (hP b tp fp N A (q, Q') C W Z ask rf), ∀ j x, g j = some x → x < 61 := fun g hg j x e => by
    have hg : g ∈ [fun j => (slF j).map (fun k => IA.getD k 0)] := hg
    rw [List.mem_singleton] at hg
    subst hg
    cases hs : slF j with
    | none => have e : (slF j).map (fun k => IA.getD k 0) = some x := e; rw [hs] at e; cases e
    | some y =>
      have e : (slF j).map (fun k => IA.getD k 0) = some x := e
      rw [hs] at e
      have e : IA.getD y 0 = x := Option.some.inj e
      have hy := slF_lt hs
      rw [← e]
      exact (show ∀ y, y < 34 → IA.getD y 0 < 61 by decide) y hy
  have hq : q = 8 ∨ q = 9 := hq
  rcases hq with e | e <;> subst e <;> exact pnCH_q rfl hl
set_option maxRecDepth 100000 in
theorem p_fault (adK : Nat → Nat) (d : Nat) (b : Nat → Int32) (tp : Nat) (fp : Int32) (N : NS) (A : AS) (Q : QS) (C : CS) (W : WS) (Z : SS) (ask : Nat → Int32) (rf : Nat → Nat) (hq : Q.1 = 8 ∨ Q.1 = 9) : pnCt mX6_fault adK d 0 0 [.ref 0] (hP b tp fp N A Q C W Z ask rf) (pnIs (.inl (some (.int fp))) (hP b tp fp N A Q C W Z ask rf)) := by
  refine pnCt_of (by decide) kX6_fault (Nat.le_of_ble_eq_true rfl) rfl (hP_cl hq) (pnCS_b rfl) ?_
  refine pn_aload_n (q := 1) dX6_fault_0 rfl rfl rfl ?_
  refine pn_get (q := 4) fX6_17 dX6_fault_1 rfl rfl rfl ?_
  refine pn_iret dX6_fault_4 rfl ?_
  exact ⟨rfl, rfl⟩
set_option maxRecDepth 100000 in
theorem p_left (adK : Nat → Nat) (d : Nat) (b : Nat → Int32) (tp : Nat) (fp : Int32) (N : NS) (A : AS) (Q : QS) (C : CS) (W : WS) (Z : SS) (ask : Nat → Int32) (rf : Nat → Nat) (hq : Q.1 = 8 ∨ Q.1 = 9) (hpc : N.2.2.2.2.1 ≤ 55) : pnCt mX6_left adK (d + 1) 0 0 [.ref 0] (hP b tp fp N A Q C W Z ask rf) (pnIs (.inl (some (.long (lfN N.2.2.2.2.2.2.1 N.2.1 N.2.2.2.2.1)))) (hP b tp fp N A Q C W Z ask rf)) := by
  refine pnCt_of (by decide) kX6_left (Nat.le_of_ble_eq_true rfl) rfl (hP_cl hq) (pnCS_b rfl) ?_
  refine pn_aload_n (q := 1) dX6_left_0 rfl rfl rfl ?_
  refine pn_get (q := 4) fX6_23 dX6_left_1 rfl rfl rfl ?_
  refine pn_roV1 (q := 7) (c_leftLines adK d N.1 N.2.1 N.2.2.1 N.2.2.2.1 N.2.2.2.2.1 N.2.2.2.2.2.1 N.2.2.2.2.2.2.1 N.2.2.2.2.2.2.2.1 N.2.2.2.2.2.2.2.2 hpc) lkX6_104 dX6_left_4 rfl rfl (pnSel_of (I := [2, 3, 4, 5]) rfl rfl) (pnFree_none rfl) rfl rfl rfl (by omega) (Nat.le_of_ble_eq_true rfl) rfl ?_
  refine pn_lret dX6_left_7 rfl ?_
  exact ⟨rfl, rfl⟩
set_option maxRecDepth 100000 in
theorem p_requirePart (adK : Nat → Nat) (d : Nat) (b : Nat → Int32) (tp : Nat) (fp : Int32) (N : NS) (A : AS) (Q : QS) (C : CS) (W : WS) (Z : SS) (ask : Nat → Int32) (rf : Nat → Nat) (hq : Q.1 = 8 ∨ Q.1 = 9) (x : Int32) (hpc : N.2.2.2.2.1 ≤ 55) (hx : hasN N.2.2.2.2.1 x = true) : pnCt mX6_requirePart adK (d + 1) 0 0 [.ref 0, .int x] (hP b tp fp N A Q C W Z ask rf) (pnIs (.inl none) (hP b tp fp N A Q C W Z ask rf)) := by
  refine pnCt_of (by decide) kX6_requirePart (Nat.le_of_ble_eq_true rfl) rfl (hP_cl hq) (pnCS_b rfl) ?_
  have C0 := c_hasPart adK d N.1 N.2.1 N.2.2.1 N.2.2.2.1 N.2.2.2.2.1 N.2.2.2.2.2.1 N.2.2.2.2.2.2.1 N.2.2.2.2.2.2.2.1 N.2.2.2.2.2.2.2.2 x hpc
  rw [hx] at C0
  refine pn_aload_n (q := 1) dX6_requirePart_0 rfl rfl rfl ?_
  refine pn_get (q := 4) fX6_23 dX6_requirePart_1 rfl rfl rfl ?_
  refine pn_iload_n (q := 5) dX6_requirePart_4 rfl rfl ?_
  refine pn_roV1 (q := 8) (C0) lkX6_167 dX6_requirePart_5 rfl rfl (pnSel_of (I := [2, 3, 4, 5]) rfl rfl) (pnFree_none rfl) rfl rfl rfl (by omega) (Nat.le_of_ble_eq_true rfl) rfl ?_
  refine pn_bne (q := 11) (tgt := 31) dX6_requirePart_8 (by decide) rfl (fun hc8 => ?_) (fun hc8 => ?_)
  · refine pn_vret dX6_requirePart_31 rfl ?_
    exact ⟨rfl, rfl⟩
  · cases hc8
set_option maxRecDepth 100000 in
theorem p_requirePartX (adK : Nat → Nat) (d : Nat) (b : Nat → Int32) (tp : Nat) (fp : Int32) (N : NS) (A : AS) (Q : QS) (C : CS) (W : WS) (Z : SS) (ask : Nat → Int32) (rf : Nat → Nat) (hq : Q.1 = 8 ∨ Q.1 = 9) (x : Int32) (hpc : N.2.2.2.2.1 ≤ 55) (hx : hasN N.2.2.2.2.1 x = false) : pnCt mX6_requirePart adK (d + 6) 1 6 [.ref 0, .int x] (hP b tp fp N A Q C W Z ask rf) (pnIs (.inr "java/util/NoSuchElementException") (hP b tp fp N A Q C W Z ask (updN rf 0 (rf 0 + 1)))) := by
  refine pnCt_of (by decide) kX6_requirePart (Nat.le_of_ble_eq_true rfl) rfl (hP_cl hq) (pnCS_b rfl) ?_
  have C0 := c_hasPart adK d N.1 N.2.1 N.2.2.1 N.2.2.2.1 N.2.2.2.2.1 N.2.2.2.2.2.1 N.2.2.2.2.2.2.1 N.2.2.2.2.2.2.2.1 N.2.2.2.2.2.2.2.2 x hpc
  rw [hx] at C0
  refine pn_aload_n (q := 1) dX6_requirePart_0 rfl rfl rfl ?_
  refine pn_get (q := 4) fX6_23 dX6_requirePart_1 rfl rfl rfl ?_
  refine pn_iload_n (q := 5) dX6_requirePart_4 rfl rfl ?_
  refine pn_roV1 (q := 8) (C0) lkX6_167 dX6_requirePart_5 rfl rfl (pnSel_of (I := [2, 3, 4, 5]) rfl rfl) (pnFree_none rfl) rfl rfl rfl (by omega) (Nat.le_of_ble_eq_true rfl) rfl ?_
  refine pn_bne (q := 11) (tgt := 31) dX6_requirePart_8 (by decide) rfl (fun hc8 => ?_) (fun hc8 => ?_)
  · cases hc8
  · refine pn_aload_n (q := 12) dX6_requirePart_11 rfl rfl rfl ?_
    refine pn_get (q := 15) fX6_66 dX6_requirePart_12 rfl rfl rfl ?_
    refine pn_iconst (q := 16) (v := nI 0) dX6_requirePart_15 rfl (by decide) ?_
    first | refine pn_dup2 (q := 17) dX6_requirePart_16 rfl rfl rfl ?_ | refine pn_dup2l (q := 17) dX6_requirePart_16 rfl ?_
    refine pn_iald (q := 18) dX6_requirePart_17 rfl rfl rfl (by omega) (by first | decide | omega) ?_
    refine pn_iconst (q := 19) (v := nI 1) dX6_requirePart_18 rfl (by decide) ?_
    first | with_reducible refine pn_iaddN (q := 20) dX6_requirePart_19 rfl ?_ | refine pn_iadd (q := 20) dX6_requirePart_19 rfl ?_
    refine pn_iast (q := 21) dX6_requirePart_20 rfl rfl rfl (by omega) (by first | decide | omega) ?_; rw [updN_nI]
    refine pn_bud (bc' := 0 + 1) (bs' := 0 + 6) ?_ (by omega) (by omega)
    exact pn_thrNS (j := 14) rfl xf_nse pw_841 pw_98 (pnOkW_of xw_nse) xg_nse dX6_requirePart_21 dX6_requirePart_24 dX6_requirePart_25 dX6_requirePart_27 dX6_requirePart_30 rfl (by omega) (Nat.le_of_ble_eq_true rfl) (⟨rfl, rfl⟩)
