def pnEx {S : Type} (r0 : S → Option Value) (hf : S → List pnE) : pnR → List pnE → Prop := fun r h' => ∃ x : S, r = .inl (r0 x) ∧ h' = hf x
theorem pn_exV {M M9 : pnM} {adK : Nat → Nat} {d d9 : Nat} {Q : pnR → List pnE → Prop} {bc bs : Nat} {h hc : List pnE} {I : List Nat} {L : List (Option Value)} {st st0 av : List Value} {pc q index n : Nat} {k0 : Nat} {ci : Nat} {fs : List Value} {S : Type} {r0 : S → Option Value} {hf : S → List pnE} {mc9 ms9 bc9 bs9 : Nat} (hC : pnCt M9 adK d9 mc9 ms9 (.ref k0 :: av) hc (pnEx r0 hf)) (lk : pnLkV M.1.cls index M9 n) (hd : decode M.2.1 pc = .ok (.invokevirtual index, 3)) (hq : pc + 3 = q) (hn : av.length = n) (hs : pnSel h I hc) (hmv : pnFree h L st I hc) (hk0 : hc[k0]? = some (.inr (ci, fs))) (hci : (vwCl[ci]?).map (fun x => x.1) = some M9.1.cls) (hstk : st0 = (av.map (pnRV I)).reverse ++ .ref (I.getD k0 0) :: st) (hdd : d9 + 1 ≤ d) (hbc : bc9 + mc9 ≤ bc) (hbs : bs9 + ms9 ≤ bs) (hw8 : (st.map fun v => v.category).sum ≤ 8) (hfl : ∀ x, pnFlat (r0 x) = true)
    (k : ∀ x, pnWP M adK d Q bc9 bs9 (pnBack h I (hf x)) L ((r0 x).toList ++ st) q) : pnWP M adK d Q bc bs h L st0 pc := by
  subst hq
  refine pn_callV hC lk hd hn hs hmv hk0 hci hstk hdd (bc9 := bc9) (bs9 := bs9) hbc hbs hw8 (fun r h' hq _ => ?_) (fun E h' hq _ => by obtain ⟨x, e1, -⟩ := hq; cases e1)
  obtain ⟨x, e1, e2⟩ := hq
  subst e2
  cases e1
  rw [pnRes_flat (hfl x)]
  exact k x
theorem pn_exS {M M9 : pnM} {adK : Nat → Nat} {d d9 : Nat} {Q : pnR → List pnE → Prop} {bc bs : Nat} {h hc : List pnE} {I : List Nat} {L : List (Option Value)} {st st0 av : List Value} {pc q index n : Nat} {S : Type} {r0 : S → Option Value} {hf : S → List pnE} {mc9 ms9 bc9 bs9 : Nat} (hC : pnCt M9 adK d9 mc9 ms9 av hc (pnEx r0 hf)) (lk : pnLkS M.1.cls index M9 n) (hd : decode M.2.1 pc = .ok (.invokestatic index, 3)) (hq : pc + 3 = q) (hn : av.length = n) (hs : pnSel h I hc) (hmv : pnFree h L st I hc) (hstk : st0 = (av.map (pnRV I)).reverse ++ st) (hdd : d9 + 1 ≤ d) (hbc : bc9 + mc9 ≤ bc) (hbs : bs9 + ms9 ≤ bs) (hw8 : (st.map fun v => v.category).sum ≤ 8) (hfl : ∀ x, pnFlat (r0 x) = true)
    (k : ∀ x, pnWP M adK d Q bc9 bs9 (pnBack h I (hf x)) L ((r0 x).toList ++ st) q) : pnWP M adK d Q bc bs h L st0 pc := by
  subst hq
  refine pn_callS hC lk hd hn hs hmv hstk hdd (bc9 := bc9) (bs9 := bs9) hbc hbs hw8 (fun r h' hq _ => ?_) (fun E h' hq _ => by obtain ⟨x, e1, -⟩ := hq; cases e1)
  obtain ⟨x, e1, e2⟩ := hq
  subst e2
  cases e1
  rw [pnRes_flat (hfl x)]
  exact k x
theorem pn_exI {M M9 : pnM} {adK : Nat → Nat} {d d9 : Nat} {Q : pnR → List pnE → Prop} {bc bs : Nat} {h hc : List pnE} {I : List Nat} {L : List (Option Value)} {st st0 av : List Value} {pc q index n : Nat} {k0 : Nat} {S : Type} {r0 : S → Option Value} {hf : S → List pnE} {mc9 ms9 bc9 bs9 : Nat} (hC : pnCt M9 adK d9 mc9 ms9 (.ref k0 :: av) hc (pnEx r0 hf)) (lk : pnLkI M.1.cls index M9 n) (hd : decode M.2.1 pc = .ok (.invokespecial index, 3)) (hq : pc + 3 = q) (hn : av.length = n) (hs : pnSel h I hc) (hmv : pnFree h L st I hc) (hstk : st0 = (av.map (pnRV I)).reverse ++ .ref (I.getD k0 0) :: st) (hdd : d9 + 1 ≤ d) (hbc : bc9 + mc9 ≤ bc) (hbs : bs9 + ms9 ≤ bs) (hw8 : (st.map fun v => v.category).sum ≤ 8) (hfl : ∀ x, pnFlat (r0 x) = true)
    (k : ∀ x, pnWP M adK d Q bc9 bs9 (pnBack h I (hf x)) L ((r0 x).toList ++ st) q) : pnWP M adK d Q bc bs h L st0 pc := by
  subst hq
  refine pn_callI hC lk hd hn hs hmv hstk hdd (bc9 := bc9) (bs9 := bs9) hbc hbs hw8 (fun r h' hq _ => ?_) (fun E h' hq _ => by obtain ⟨x, e1, -⟩ := hq; cases e1)
  obtain ⟨x, e1, e2⟩ := hq
  subst e2
  cases e1
  rw [pnRes_flat (hfl x)]
  exact k x
theorem pn_exIN {M M9 : pnM} {adK : Nat → Nat} {d d9 : Nat} {Q : pnR → List pnE → Prop} {bc bs : Nat} {h hc : List pnE} {I : List Nat} {L : List (Option Value)} {st st0 av : List Value} {pc q index n : Nat} {k0 : Nat} {S : Type} {r0 : S → Option Value} {hf : S → List pnE} {mc9 ms9 bc9 bs9 : Nat} (hC : pnCt M9 adK d9 mc9 ms9 (.ref k0 :: av) hc (pnEx r0 hf)) (lk : pnLkIN M.1.cls index M9 n) (hd : decode M.2.1 pc = .ok (.invokespecial index, 3)) (hq : pc + 3 = q) (hn : av.length = n) (hs : pnSel h I hc) (hmv : pnFree h L st I hc) (hstk : st0 = (av.map (pnRV I)).reverse ++ .ref (I.getD k0 0) :: st) (hdd : d9 + 1 ≤ d) (hbc : bc9 + mc9 ≤ bc) (hbs : bs9 + ms9 ≤ bs) (hw8 : (st.map fun v => v.category).sum ≤ 8) (hfl : ∀ x, pnFlat (r0 x) = true)
    (k : ∀ x, pnWP M adK d Q bc9 bs9 (pnBack h I (hf x)) L ((r0 x).toList ++ st) q) : pnWP M adK d Q bc bs h L st0 pc := by
  subst hq
  refine pn_callIN hC lk hd hn hs hmv hstk hdd (bc9 := bc9) (bs9 := bs9) hbc hbs hw8 (fun r h' hq _ => ?_) (fun E h' hq _ => by obtain ⟨x, e1, -⟩ := hq; cases e1)
  obtain ⟨x, e1, e2⟩ := hq
  subst e2
  cases e1
  rw [pnRes_flat (hfl x)]
  exact k x
theorem pn_exSN {M M9 : pnM} {adK : Nat → Nat} {d d9 : Nat} {Q : pnR → List pnE → Prop} {bc bs : Nat} {h hc : List pnE} {I : List Nat} {L : List (Option Value)} {st st0 av : List Value} {pc q index n : Nat} {S : Type} {r0 : S → Option Value} {hf : S → List pnE} {mc9 ms9 bc9 bs9 : Nat} (hC : pnCt M9 adK d9 mc9 ms9 av hc (pnEx r0 hf)) (lk : pnLkSN M.1.cls index M9 n) (hd : decode M.2.1 pc = .ok (.invokestatic index, 3)) (hq : pc + 3 = q) (hn : av.length = n) (hs : pnSel h I hc) (hmv : pnFree h L st I hc) (hstk : st0 = (av.map (pnRV I)).reverse ++ st) (hdd : d9 + 1 ≤ d) (hbc : bc9 + mc9 ≤ bc) (hbs : bs9 + ms9 ≤ bs) (hw8 : (st.map fun v => v.category).sum ≤ 8) (hfl : ∀ x, pnFlat (r0 x) = true)
    (k : ∀ x, pnWP M adK d Q bc9 bs9 (pnBack h I (hf x)) L ((r0 x).toList ++ st) q) : pnWP M adK d Q bc bs h L st0 pc := by
  subst hq
  refine pn_callSN hC lk hd hn hs hmv hstk hdd (bc9 := bc9) (bs9 := bs9) hbc hbs hw8 (fun r h' hq _ => ?_) (fun E h' hq _ => by obtain ⟨x, e1, -⟩ := hq; cases e1)
  obtain ⟨x, e1, e2⟩ := hq
  subst e2
  cases e1
  rw [pnRes_flat (hfl x)]
  exact k x
