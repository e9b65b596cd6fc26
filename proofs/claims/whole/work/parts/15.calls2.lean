/-! ===== calls whose end is known ===== -/
def pnIs (r0 : pnR) (h0 : List pnE) : pnR → List pnE → Prop := fun r h' => r = r0 ∧ h' = h0
theorem pnBack_same {h : List pnE} {I : List Nat} {h' : List pnE} (hl : I.length = h'.length) : pnBack h I h' = pnPut h I (h'.map (pnRC I)) := by
  have e : pnJ I h.length h'.length = I := by unfold pnJ; rw [hl, Nat.sub_self]; simp
  unfold pnBack
  rw [e, hl, List.take_length, List.drop_length]
  simp
theorem pnJ_same {I : List Nat} {n m : Nat} (hl : I.length = m) : pnJ I n m = I := by unfold pnJ; rw [hl, Nat.sub_self]; simp
theorem pnPut_id : ∀ (I : List Nat) (h cs : List pnE), (∀ (k : Nat) (c : pnE), cs[k]? = some c → ∀ i, I[k]? = some i → h[i]? = some c) → pnPut h I cs = h
  | [], h, cs, _ => by cases cs <;> rfl
  | i :: I, h, [], _ => rfl
  | i :: I, h, c :: cs, hh => by
    have h0 := hh 0 c rfl i rfl
    have e : h.set i c = h := by
      apply List.ext_getElem?
      intro j
      rw [List.getElem?_set]
      split
      · next e => subst e; rw [h0, if_pos (List.getElem?_eq_some_iff.mp h0).1]
      · rfl
    show pnPut (h.set i c) I cs = h
    rw [e]
    exact pnPut_id I h cs (fun k c9 h9 i9 h8 => hh (k + 1) c9 h9 i9 h8)
theorem pnBack_id {h : List pnE} {I : List Nat} {hc : List pnE} (hs : pnSel h I hc) : pnBack h I hc = h := by
  rw [pnBack_same hs.1]
  refine pnPut_id I h _ (fun k c e i hi => ?_)
  rw [List.getElem?_map] at e
  cases hk : hc[k]? with
  | none => rw [hk] at e; cases e
  | some c9 =>
    rw [hk] at e
    have := hs.2.2 k c9 hk
    rw [show I.getD k 0 = i by simp [List.getD, hi]] at this
    rw [this]; exact e
def pnFlat : Option Value → Bool
  | some (.ref _) => false
  | _ => true
theorem pnRes_flat {J : List Nat} {r : Option Value} (h : pnFlat r = true) : pnRes J r = r.toList := by
  cases r with
  | none => rfl
  | some v => cases v <;> first | rfl | cases h
theorem pn_roV {M M9 : pnM} {adK : Nat → Nat} {d d9 : Nat} {Q : pnR → List pnE → Prop} {bc bs : Nat} {h hc : List pnE} {I : List Nat} {L : List (Option Value)} {st st0 av : List Value} {pc q index n : Nat} {k0 : Nat} {ci : Nat} {fs : List Value} {r0 : Option Value} (hC : pnCt M9 adK d9 0 0 (.ref k0 :: av) hc (pnIs (.inl r0) hc)) (lk : pnLkV M.1.cls index M9 n) (hd : decode M.2.1 pc = .ok (.invokevirtual index, 3)) (hq : pc + 3 = q) (hn : av.length = n) (hs : pnSel h I hc) (hmv : pnFree h L st I hc) (hk0 : hc[k0]? = some (.inr (ci, fs))) (hci : (vwCl[ci]?).map (fun x => x.1) = some M9.1.cls) (hstk : st0 = (av.map (pnRV I)).reverse ++ .ref (I.getD k0 0) :: st) (hdd : d9 + 1 ≤ d) (hw8 : (st.map fun v => v.category).sum ≤ 8) (hf : pnFlat r0 = true)
    (k : pnWP M adK d Q bc bs h L (r0.toList ++ st) q) : pnWP M adK d Q bc bs h L st0 pc := by
  subst hq
  refine pn_callV hC lk hd hn hs hmv hk0 hci hstk hdd (bc9 := bc) (bs9 := bs) (Nat.le_refl _) (Nat.le_refl _) hw8 (fun r h' hq _ => ?_) (fun E h' hq _ => by cases hq.1)
  obtain ⟨e1, e2⟩ := hq
  subst e2
  cases e1
  rw [pnBack_id hs, pnRes_flat hf]
  exact k
theorem pn_upV {M M9 : pnM} {adK : Nat → Nat} {d d9 : Nat} {Q : pnR → List pnE → Prop} {bc bs : Nat} {h hc : List pnE} {I : List Nat} {L : List (Option Value)} {st st0 av : List Value} {pc q index n : Nat} {k0 : Nat} {ci : Nat} {fs : List Value} {r0 : Option Value} {hc' : List pnE} {mc9 ms9 bc9 bs9 : Nat} (hC : pnCt M9 adK d9 mc9 ms9 (.ref k0 :: av) hc (pnIs (.inl r0) hc')) (lk : pnLkV M.1.cls index M9 n) (hd : decode M.2.1 pc = .ok (.invokevirtual index, 3)) (hq : pc + 3 = q) (hn : av.length = n) (hs : pnSel h I hc) (hmv : pnFree h L st I hc) (hk0 : hc[k0]? = some (.inr (ci, fs))) (hci : (vwCl[ci]?).map (fun x => x.1) = some M9.1.cls) (hstk : st0 = (av.map (pnRV I)).reverse ++ .ref (I.getD k0 0) :: st) (hdd : d9 + 1 ≤ d) (hbc : bc9 + mc9 ≤ bc) (hbs : bs9 + ms9 ≤ bs) (hw8 : (st.map fun v => v.category).sum ≤ 8) (hf : pnFlat r0 = true)
    (k : pnWP M adK d Q bc9 bs9 (pnBack h I hc') L (r0.toList ++ st) q) : pnWP M adK d Q bc bs h L st0 pc := by
  subst hq
  refine pn_callV hC lk hd hn hs hmv hk0 hci hstk hdd (bc9 := bc9) (bs9 := bs9) hbc hbs hw8 (fun r h' hq _ => ?_) (fun E h' hq _ => by cases hq.1)
  obtain ⟨e1, e2⟩ := hq
  subst e2
  cases e1
  rw [pnRes_flat hf]
  exact k
theorem pn_roS {M M9 : pnM} {adK : Nat → Nat} {d d9 : Nat} {Q : pnR → List pnE → Prop} {bc bs : Nat} {h hc : List pnE} {I : List Nat} {L : List (Option Value)} {st st0 av : List Value} {pc q index n : Nat} {r0 : Option Value} (hC : pnCt M9 adK d9 0 0 av hc (pnIs (.inl r0) hc)) (lk : pnLkS M.1.cls index M9 n) (hd : decode M.2.1 pc = .ok (.invokestatic index, 3)) (hq : pc + 3 = q) (hn : av.length = n) (hs : pnSel h I hc) (hmv : pnFree h L st I hc) (hstk : st0 = (av.map (pnRV I)).reverse ++ st) (hdd : d9 + 1 ≤ d) (hw8 : (st.map fun v => v.category).sum ≤ 8) (hf : pnFlat r0 = true)
    (k : pnWP M adK d Q bc bs h L (r0.toList ++ st) q) : pnWP M adK d Q bc bs h L st0 pc := by
  subst hq
  refine pn_callS hC lk hd hn hs hmv hstk hdd (bc9 := bc) (bs9 := bs) (Nat.le_refl _) (Nat.le_refl _) hw8 (fun r h' hq _ => ?_) (fun E h' hq _ => by cases hq.1)
  obtain ⟨e1, e2⟩ := hq
  subst e2
  cases e1
  rw [pnBack_id hs, pnRes_flat hf]
  exact k
theorem pn_upS {M M9 : pnM} {adK : Nat → Nat} {d d9 : Nat} {Q : pnR → List pnE → Prop} {bc bs : Nat} {h hc : List pnE} {I : List Nat} {L : List (Option Value)} {st st0 av : List Value} {pc q index n : Nat} {r0 : Option Value} {hc' : List pnE} {mc9 ms9 bc9 bs9 : Nat} (hC : pnCt M9 adK d9 mc9 ms9 av hc (pnIs (.inl r0) hc')) (lk : pnLkS M.1.cls index M9 n) (hd : decode M.2.1 pc = .ok (.invokestatic index, 3)) (hq : pc + 3 = q) (hn : av.length = n) (hs : pnSel h I hc) (hmv : pnFree h L st I hc) (hstk : st0 = (av.map (pnRV I)).reverse ++ st) (hdd : d9 + 1 ≤ d) (hbc : bc9 + mc9 ≤ bc) (hbs : bs9 + ms9 ≤ bs) (hw8 : (st.map fun v => v.category).sum ≤ 8) (hf : pnFlat r0 = true)
    (k : pnWP M adK d Q bc9 bs9 (pnBack h I hc') L (r0.toList ++ st) q) : pnWP M adK d Q bc bs h L st0 pc := by
  subst hq
  refine pn_callS hC lk hd hn hs hmv hstk hdd (bc9 := bc9) (bs9 := bs9) hbc hbs hw8 (fun r h' hq _ => ?_) (fun E h' hq _ => by cases hq.1)
  obtain ⟨e1, e2⟩ := hq
  subst e2
  cases e1
  rw [pnRes_flat hf]
  exact k
theorem pn_roI {M M9 : pnM} {adK : Nat → Nat} {d d9 : Nat} {Q : pnR → List pnE → Prop} {bc bs : Nat} {h hc : List pnE} {I : List Nat} {L : List (Option Value)} {st st0 av : List Value} {pc q index n : Nat} {k0 : Nat} {r0 : Option Value} (hC : pnCt M9 adK d9 0 0 (.ref k0 :: av) hc (pnIs (.inl r0) hc)) (lk : pnLkI M.1.cls index M9 n) (hd : decode M.2.1 pc = .ok (.invokespecial index, 3)) (hq : pc + 3 = q) (hn : av.length = n) (hs : pnSel h I hc) (hmv : pnFree h L st I hc) (hstk : st0 = (av.map (pnRV I)).reverse ++ .ref (I.getD k0 0) :: st) (hdd : d9 + 1 ≤ d) (hw8 : (st.map fun v => v.category).sum ≤ 8) (hf : pnFlat r0 = true)
    (k : pnWP M adK d Q bc bs h L (r0.toList ++ st) q) : pnWP M adK d Q bc bs h L st0 pc := by
  subst hq
  refine pn_callI hC lk hd hn hs hmv hstk hdd (bc9 := bc) (bs9 := bs) (Nat.le_refl _) (Nat.le_refl _) hw8 (fun r h' hq _ => ?_) (fun E h' hq _ => by cases hq.1)
  obtain ⟨e1, e2⟩ := hq
  subst e2
  cases e1
  rw [pnBack_id hs, pnRes_flat hf]
  exact k
theorem pn_upI {M M9 : pnM} {adK : Nat → Nat} {d d9 : Nat} {Q : pnR → List pnE → Prop} {bc bs : Nat} {h hc : List pnE} {I : List Nat} {L : List (Option Value)} {st st0 av : List Value} {pc q index n : Nat} {k0 : Nat} {r0 : Option Value} {hc' : List pnE} {mc9 ms9 bc9 bs9 : Nat} (hC : pnCt M9 adK d9 mc9 ms9 (.ref k0 :: av) hc (pnIs (.inl r0) hc')) (lk : pnLkI M.1.cls index M9 n) (hd : decode M.2.1 pc = .ok (.invokespecial index, 3)) (hq : pc + 3 = q) (hn : av.length = n) (hs : pnSel h I hc) (hmv : pnFree h L st I hc) (hstk : st0 = (av.map (pnRV I)).reverse ++ .ref (I.getD k0 0) :: st) (hdd : d9 + 1 ≤ d) (hbc : bc9 + mc9 ≤ bc) (hbs : bs9 + ms9 ≤ bs) (hw8 : (st.map fun v => v.category).sum ≤ 8) (hf : pnFlat r0 = true)
    (k : pnWP M adK d Q bc9 bs9 (pnBack h I hc') L (r0.toList ++ st) q) : pnWP M adK d Q bc bs h L st0 pc := by
  subst hq
  refine pn_callI hC lk hd hn hs hmv hstk hdd (bc9 := bc9) (bs9 := bs9) hbc hbs hw8 (fun r h' hq _ => ?_) (fun E h' hq _ => by cases hq.1)
  obtain ⟨e1, e2⟩ := hq
  subst e2
  cases e1
  rw [pnRes_flat hf]
  exact k
theorem pn_roIN {M M9 : pnM} {adK : Nat → Nat} {d d9 : Nat} {Q : pnR → List pnE → Prop} {bc bs : Nat} {h hc : List pnE} {I : List Nat} {L : List (Option Value)} {st st0 av : List Value} {pc q index n : Nat} {k0 : Nat} {r0 : Option Value} (hC : pnCt M9 adK d9 0 0 (.ref k0 :: av) hc (pnIs (.inl r0) hc)) (lk : pnLkIN M.1.cls index M9 n) (hd : decode M.2.1 pc = .ok (.invokespecial index, 3)) (hq : pc + 3 = q) (hn : av.length = n) (hs : pnSel h I hc) (hmv : pnFree h L st I hc) (hstk : st0 = (av.map (pnRV I)).reverse ++ .ref (I.getD k0 0) :: st) (hdd : d9 + 1 ≤ d) (hw8 : (st.map fun v => v.category).sum ≤ 8) (hf : pnFlat r0 = true)
    (k : pnWP M adK d Q bc bs h L (r0.toList ++ st) q) : pnWP M adK d Q bc bs h L st0 pc := by
  subst hq
  refine pn_callIN hC lk hd hn hs hmv hstk hdd (bc9 := bc) (bs9 := bs) (Nat.le_refl _) (Nat.le_refl _) hw8 (fun r h' hq _ => ?_) (fun E h' hq _ => by cases hq.1)
  obtain ⟨e1, e2⟩ := hq
  subst e2
  cases e1
  rw [pnBack_id hs, pnRes_flat hf]
  exact k
theorem pn_upIN {M M9 : pnM} {adK : Nat → Nat} {d d9 : Nat} {Q : pnR → List pnE → Prop} {bc bs : Nat} {h hc : List pnE} {I : List Nat} {L : List (Option Value)} {st st0 av : List Value} {pc q index n : Nat} {k0 : Nat} {r0 : Option Value} {hc' : List pnE} {mc9 ms9 bc9 bs9 : Nat} (hC : pnCt M9 adK d9 mc9 ms9 (.ref k0 :: av) hc (pnIs (.inl r0) hc')) (lk : pnLkIN M.1.cls index M9 n) (hd : decode M.2.1 pc = .ok (.invokespecial index, 3)) (hq : pc + 3 = q) (hn : av.length = n) (hs : pnSel h I hc) (hmv : pnFree h L st I hc) (hstk : st0 = (av.map (pnRV I)).reverse ++ .ref (I.getD k0 0) :: st) (hdd : d9 + 1 ≤ d) (hbc : bc9 + mc9 ≤ bc) (hbs : bs9 + ms9 ≤ bs) (hw8 : (st.map fun v => v.category).sum ≤ 8) (hf : pnFlat r0 = true)
    (k : pnWP M adK d Q bc9 bs9 (pnBack h I hc') L (r0.toList ++ st) q) : pnWP M adK d Q bc bs h L st0 pc := by
  subst hq
  refine pn_callIN hC lk hd hn hs hmv hstk hdd (bc9 := bc9) (bs9 := bs9) hbc hbs hw8 (fun r h' hq _ => ?_) (fun E h' hq _ => by cases hq.1)
  obtain ⟨e1, e2⟩ := hq
  subst e2
  cases e1
  rw [pnRes_flat hf]
  exact k
theorem pn_roSN {M M9 : pnM} {adK : Nat → Nat} {d d9 : Nat} {Q : pnR → List pnE → Prop} {bc bs : Nat} {h hc : List pnE} {I : List Nat} {L : List (Option Value)} {st st0 av : List Value} {pc q index n : Nat} {r0 : Option Value} (hC : pnCt M9 adK d9 0 0 av hc (pnIs (.inl r0) hc)) (lk : pnLkSN M.1.cls index M9 n) (hd : decode M.2.1 pc = .ok (.invokestatic index, 3)) (hq : pc + 3 = q) (hn : av.length = n) (hs : pnSel h I hc) (hmv : pnFree h L st I hc) (hstk : st0 = (av.map (pnRV I)).reverse ++ st) (hdd : d9 + 1 ≤ d) (hw8 : (st.map fun v => v.category).sum ≤ 8) (hf : pnFlat r0 = true)
    (k : pnWP M adK d Q bc bs h L (r0.toList ++ st) q) : pnWP M adK d Q bc bs h L st0 pc := by
  subst hq
  refine pn_callSN hC lk hd hn hs hmv hstk hdd (bc9 := bc) (bs9 := bs) (Nat.le_refl _) (Nat.le_refl _) hw8 (fun r h' hq _ => ?_) (fun E h' hq _ => by cases hq.1)
  obtain ⟨e1, e2⟩ := hq
  subst e2
  cases e1
  rw [pnBack_id hs, pnRes_flat hf]
  exact k
theorem pn_upSN {M M9 : pnM} {adK : Nat → Nat} {d d9 : Nat} {Q : pnR → List pnE → Prop} {bc bs : Nat} {h hc : List pnE} {I : List Nat} {L : List (Option Value)} {st st0 av : List Value} {pc q index n : Nat} {r0 : Option Value} {hc' : List pnE} {mc9 ms9 bc9 bs9 : Nat} (hC : pnCt M9 adK d9 mc9 ms9 av hc (pnIs (.inl r0) hc')) (lk : pnLkSN M.1.cls index M9 n) (hd : decode M.2.1 pc = .ok (.invokestatic index, 3)) (hq : pc + 3 = q) (hn : av.length = n) (hs : pnSel h I hc) (hmv : pnFree h L st I hc) (hstk : st0 = (av.map (pnRV I)).reverse ++ st) (hdd : d9 + 1 ≤ d) (hbc : bc9 + mc9 ≤ bc) (hbs : bs9 + ms9 ≤ bs) (hw8 : (st.map fun v => v.category).sum ≤ 8) (hf : pnFlat r0 = true)
    (k : pnWP M adK d Q bc9 bs9 (pnBack h I hc') L (r0.toList ++ st) q) : pnWP M adK d Q bc bs h L st0 pc := by
  subst hq
  refine pn_callSN hC lk hd hn hs hmv hstk hdd (bc9 := bc9) (bs9 := bs9) hbc hbs hw8 (fun r h' hq _ => ?_) (fun E h' hq _ => by cases hq.1)
  obtain ⟨e1, e2⟩ := hq
  subst e2
  cases e1
  rw [pnRes_flat hf]
  exact k
