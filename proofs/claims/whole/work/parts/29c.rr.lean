theorem pn_rrV {M M9 : pnM} {adK : Nat → Nat} {d d9 : Nat} {Q : pnR → List pnE → Prop} {bc bs : Nat} {h hc : List pnE} {I : List Nat} {L : List (Option Value)} {st st0 av : List Value} {pc q index n : Nat} {k0 : Nat} {ci : Nat} {fs : List Value} {x : Nat} {hc' : List pnE} {mc9 ms9 bc9 bs9 : Nat} (hC : pnCt M9 adK d9 mc9 ms9 (.ref k0 :: av) hc (pnIs (.inl (some (.ref x))) hc')) (lk : pnLkV M.1.cls index M9 n) (hd : decode M.2.1 pc = .ok (.invokevirtual index, 3)) (hq : pc + 3 = q) (hn : av.length = n) (hs : pnSel h I hc) (hmv : pnFree h L st I hc) (hk0 : hc[k0]? = some (.inr (ci, fs))) (hci : (vwCl[ci]?).map (fun x => x.1) = some M9.1.cls) (hstk : st0 = (av.map (pnRV I)).reverse ++ .ref (I.getD k0 0) :: st) (hdd : d9 + 1 ≤ d) (hbc : bc9 + mc9 ≤ bc) (hbs : bs9 + ms9 ≤ bs) (hw8 : (st.map fun v => v.category).sum ≤ 8)
    (k : pnWP M adK d Q bc9 bs9 (pnBack h I hc') L (.ref ((pnJ I h.length hc'.length).getD x 0) :: st) q) : pnWP M adK d Q bc bs h L st0 pc := by
  subst hq
  refine pn_callV hC lk hd hn hs hmv hk0 hci hstk hdd (bc9 := bc9) (bs9 := bs9) hbc hbs hw8 (fun r h' hq _ => ?_) (fun E h' hq _ => by cases hq.1)
  obtain ⟨e1, e2⟩ := hq
  subst e2
  cases e1
  exact k
theorem pn_rrS {M M9 : pnM} {adK : Nat → Nat} {d d9 : Nat} {Q : pnR → List pnE → Prop} {bc bs : Nat} {h hc : List pnE} {I : List Nat} {L : List (Option Value)} {st st0 av : List Value} {pc q index n : Nat} {x : Nat} {hc' : List pnE} {mc9 ms9 bc9 bs9 : Nat} (hC : pnCt M9 adK d9 mc9 ms9 av hc (pnIs (.inl (some (.ref x))) hc')) (lk : pnLkS M.1.cls index M9 n) (hd : decode M.2.1 pc = .ok (.invokestatic index, 3)) (hq : pc + 3 = q) (hn : av.length = n) (hs : pnSel h I hc) (hmv : pnFree h L st I hc) (hstk : st0 = (av.map (pnRV I)).reverse ++ st) (hdd : d9 + 1 ≤ d) (hbc : bc9 + mc9 ≤ bc) (hbs : bs9 + ms9 ≤ bs) (hw8 : (st.map fun v => v.category).sum ≤ 8)
    (k : pnWP M adK d Q bc9 bs9 (pnBack h I hc') L (.ref ((pnJ I h.length hc'.length).getD x 0) :: st) q) : pnWP M adK d Q bc bs h L st0 pc := by
  subst hq
  refine pn_callS hC lk hd hn hs hmv hstk hdd (bc9 := bc9) (bs9 := bs9) hbc hbs hw8 (fun r h' hq _ => ?_) (fun E h' hq _ => by cases hq.1)
  obtain ⟨e1, e2⟩ := hq
  subst e2
  cases e1
  exact k
def pnExP {S : Type} (P : S → Prop) (r0 : S → Option Value) (hf : S → List pnE) : pnR → List pnE → Prop := fun r h' => ∃ x : S, P x ∧ r = .inl (r0 x) ∧ h' = hf x
theorem pn_ePV0 {M M9 : pnM} {adK : Nat → Nat} {d d9 : Nat} {Q : pnR → List pnE → Prop} {bc bs : Nat} {h hc : List pnE} {I : List Nat} {L : List (Option Value)} {st st0 av : List Value} {pc q index n : Nat} {k0 : Nat} {ci : Nat} {fs : List Value} {S : Type} {P : S → Prop} {hf : S → List pnE} {mc9 ms9 bc9 bs9 : Nat} (hC : pnCt M9 adK d9 mc9 ms9 (.ref k0 :: av) hc (pnExP P (fun _ => none) hf)) (lk : pnLkV M.1.cls index M9 n) (hd : decode M.2.1 pc = .ok (.invokevirtual index, 3)) (hq : pc + 3 = q) (hn : av.length = n) (hs : pnSel h I hc) (hmv : pnFree h L st I hc) (hk0 : hc[k0]? = some (.inr (ci, fs))) (hci : (vwCl[ci]?).map (fun x => x.1) = some M9.1.cls) (hstk : st0 = (av.map (pnRV I)).reverse ++ .ref (I.getD k0 0) :: st) (hdd : d9 + 1 ≤ d) (hbc : bc9 + mc9 ≤ bc) (hbs : bs9 + ms9 ≤ bs) (hw8 : (st.map fun v => v.category).sum ≤ 8)
    (k : ∀ x, P x → pnWP M adK d Q bc9 bs9 (pnBack h I (hf x)) L st q) : pnWP M adK d Q bc bs h L st0 pc := by
  subst hq
  refine pn_callV hC lk hd hn hs hmv hk0 hci hstk hdd (bc9 := bc9) (bs9 := bs9) hbc hbs hw8 (fun r h' hq _ => ?_) (fun E h' hq _ => by obtain ⟨x, -, e1, -⟩ := hq; cases e1)
  obtain ⟨x, e0, e1, e2⟩ := hq
  subst e2
  cases e1
  exact k x e0
theorem pn_ePV1 {M M9 : pnM} {adK : Nat → Nat} {d d9 : Nat} {Q : pnR → List pnE → Prop} {bc bs : Nat} {h hc : List pnE} {I : List Nat} {L : List (Option Value)} {st st0 av : List Value} {pc q index n : Nat} {k0 : Nat} {ci : Nat} {fs : List Value} {S : Type} {P : S → Prop} {v : S → Value} {hf : S → List pnE} {mc9 ms9 bc9 bs9 : Nat} (hC : pnCt M9 adK d9 mc9 ms9 (.ref k0 :: av) hc (pnExP P (fun x => some (v x)) hf)) (lk : pnLkV M.1.cls index M9 n) (hd : decode M.2.1 pc = .ok (.invokevirtual index, 3)) (hq : pc + 3 = q) (hn : av.length = n) (hs : pnSel h I hc) (hmv : pnFree h L st I hc) (hk0 : hc[k0]? = some (.inr (ci, fs))) (hci : (vwCl[ci]?).map (fun x => x.1) = some M9.1.cls) (hstk : st0 = (av.map (pnRV I)).reverse ++ .ref (I.getD k0 0) :: st) (hdd : d9 + 1 ≤ d) (hbc : bc9 + mc9 ≤ bc) (hbs : bs9 + ms9 ≤ bs) (hw8 : (st.map fun v => v.category).sum ≤ 8) (hfl : ∀ x, pnFlat (some (v x)) = true)
    (k : ∀ x, P x → pnWP M adK d Q bc9 bs9 (pnBack h I (hf x)) L (v x :: st) q) : pnWP M adK d Q bc bs h L st0 pc := by
  subst hq
  refine pn_callV hC lk hd hn hs hmv hk0 hci hstk hdd (bc9 := bc9) (bs9 := bs9) hbc hbs hw8 (fun r h' hq _ => ?_) (fun E h' hq _ => by obtain ⟨x, -, e1, -⟩ := hq; cases e1)
  obtain ⟨x, e0, e1, e2⟩ := hq
  subst e2
  cases e1
  rw [pnRes_flat (hfl x)]
  exact k x e0
