/-! ===== calls whose world is the caller's whole world ===== -/
theorem pnRg {n k : Nat} (h : k < n) : (List.range n).getD k 0 = k := by
  rw [List.getD_eq_getElem?_getD, List.getElem?_range h]; rfl
theorem pnRV_id {n : Nat} {v : Value} (h : pnCV n v) : pnRV (List.range n) v = v := by
  cases v <;> first | rfl | exact congrArg Value.ref (pnRg h)
theorem pnRC_id {n : Nat} {c : pnE} (h : pnCC n c) : pnRC (List.range n) c = c := by
  match c, h with
  | .inl (t, m, .inr (.inr (.inr (.inr g)))), h =>
    show (Sum.inl (t, m, .inr (.inr (.inr (.inr (fun j => (g j).map (fun k => (List.range n).getD k 0)))))) : pnE) = _
    congr 7
    funext j
    cases e : g j with
    | none => rfl
    | some x => exact congrArg some (pnRg (h j x e))
  | .inr (ci, fs), h =>
    show (Sum.inr (ci, fs.map (pnRV (List.range n))) : pnE) = Sum.inr (ci, fs)
    congr 2
    conv => rhs; rw [← List.map_id fs]
    exact List.map_congr_left (fun v hv => pnRV_id (h v hv))
  | .inl (_, _, .inl _), _ => rfl
  | .inl (_, _, .inr (.inl _)), _ => rfl
  | .inl (_, _, .inr (.inr (.inl _))), _ => rfl
  | .inl (_, _, .inr (.inr (.inr (.inl _)))), _ => rfl
theorem pnSel_id {h : List pnE} (hcl : pnCH h) : pnSel h (List.range h.length) h := by
  refine ⟨List.length_range, fun i j hi hj e => ?_, fun k c hk => ?_⟩
  · rw [List.length_range] at hi hj
    rw [pnRg hi, pnRg hj] at e
    exact e
  · have hlt : k < h.length := (List.getElem?_eq_some_iff.mp hk).1
    rw [pnRg hlt, hk, pnRC_id (hcl k c hk)]
theorem pnPut_get : ∀ (I : List Nat) (h cs : List pnE) (i : Nat), i ∉ I → (pnPut h I cs)[i]? = h[i]?
  | [], h, cs, i, _ => by cases cs <;> rfl
  | a :: I, h, [], i, _ => rfl
  | a :: I, h, c :: cs, i, hi => by
    have h1 : i ≠ a := fun e => hi (by rw [e]; exact List.mem_cons_self)
    have h2 : i ∉ I := fun e => hi (List.mem_cons_of_mem _ e)
    show (pnPut (h.set a c) I cs)[i]? = h[i]?
    rw [pnPut_get I (h.set a c) cs i h2, List.getElem?_set_ne (fun e => h1 e.symm)]
theorem pnPut_rg : ∀ (m n : Nat) (h cs : List pnE), cs.length = m → n + m = h.length → pnPut h (List.range' n m) cs = h.take n ++ cs
  | 0, n, h, cs, e1, e2 => by
    have : cs = [] := List.eq_nil_of_length_eq_zero e1
    subst this
    rw [List.append_nil, List.take_of_length_le (by omega)]
    rfl
  | m + 1, n, h, [], e1, e2 => by cases e1
  | m + 1, n, h, c :: cs, e1, e2 => by
    show pnPut (h.set n c) (List.range' (n + 1) m) cs = _
    rw [pnPut_rg m (n + 1) (h.set n c) cs (by simpa using e1) (by rw [List.length_set]; omega)]
    rw [List.take_succ, List.getElem?_set_self (by omega), List.take_set_of_le (by omega)]
    simp
theorem pnBack_rg {h h' : List pnE} (hcl : pnCH h') (hlen : h.length ≤ h'.length) : pnBack h (List.range h.length) h' = h' := by
  have hJ : pnJ (List.range h.length) h.length h'.length = List.range h'.length := by
    unfold pnJ
    rw [List.length_range, List.range_eq_range', List.range_eq_range']
    have := List.range'_append_1 (s := 0) (m := h.length) (n := h'.length - h.length)
    rw [Nat.zero_add] at this
    rw [this]
    congr 1
    omega
  have hm : ∀ l : List pnE, (∀ c ∈ l, c ∈ h') → l.map (pnRC (List.range h'.length)) = l := fun l hl => by
    conv => rhs; rw [← List.map_id l]
    refine List.map_congr_left (fun c hc => ?_)
    obtain ⟨k, hk⟩ := List.getElem?_of_mem (hl c hc)
    exact pnRC_id (hcl k c hk)
  unfold pnBack
  rw [hJ, List.length_range, hm _ (fun c hc => List.mem_of_mem_take hc), hm _ (fun c hc => List.mem_of_mem_drop hc), List.range_eq_range', pnPut_rg h.length 0 h (h'.take h.length) (by rw [List.length_take]; omega) (by omega)]
  rw [List.take_zero, List.nil_append, List.take_append_drop]
def pnFrI (L : List (Option Value)) (st : List Value) : List pnE → Nat → Bool
  | c :: cs, i => (match pnIs5 c with | true => pnNoL i L && st.all (pnNoV i) | false => true) && pnFrI L st cs (i + 1)
  | _, _ => true
theorem pnFrI_of {L : List (Option Value)} {st : List Value} : ∀ {hc : List pnE} {i : Nat}, pnFrI L st hc i = true → ∀ k, pnAt5 hc k = true → pnNoL (i + k) L = true ∧ st.all (pnNoV (i + k)) = true
  | [], i, _, k, e => by unfold pnAt5 at e; simp at e
  | c :: cs, i, h9, 0, e => by
    unfold pnFrI at h9
    have e : pnIs5 c = true := e
    rw [e, Bool.and_eq_true, Bool.and_eq_true] at h9
    exact h9.1
  | c :: cs, i, h9, k + 1, e => by
    unfold pnFrI at h9
    rw [Bool.and_eq_true] at h9
    have := pnFrI_of (hc := cs) (i := i + 1) h9.2 k e
    rw [show i + (k + 1) = i + 1 + k by omega]
    exact this
theorem pnFree_id {h : List pnE} {L : List (Option Value)} {st : List Value} (e : pnFrI L st h 0 = true) : pnFree h L st (List.range h.length) h := by
  have key := pnFrI_of e
  have hlt : ∀ k, pnAt5 h k = true → k < h.length := fun k hk => by
    unfold pnAt5 at hk
    cases e9 : h[k]? with
    | none => rw [e9] at hk; cases hk
    | some c => exact (List.getElem?_eq_some_iff.mp e9).1
  refine ⟨fun i c hi hI => ?_, fun i v hi => ?_, fun v hvs => ?_⟩
  · exact (hI (List.mem_range.mpr (List.getElem?_eq_some_iff.mp hi).1)).elim
  · cases v <;> first | trivial | skip
    next x =>
      intro k hk
      have h1 := (key k hk).1
      rw [Nat.zero_add] at h1
      rw [pnRg (hlt k hk)]
      exact pnNoL_of h1 i _ hi
  · cases v <;> first | trivial | skip
    next x =>
      intro k hk
      have h1 := (key k hk).2
      rw [Nat.zero_add] at h1
      rw [pnRg (hlt k hk)]
      exact pnNoV_of (List.all_eq_true.mp h1 _ hvs)
theorem pn_idV {M M9 : pnM} {adK : Nat → Nat} {d d9 : Nat} {Q : pnR → List pnE → Prop} {bc bs : Nat} {h : List pnE} {L : List (Option Value)} {st st0 av : List Value} {pc q index n : Nat} {k0 : Nat} {ci : Nat} {fs : List Value} {r : Option Value} {hc' : List pnE} {mc9 ms9 bc9 bs9 : Nat} (hC : pnCt M9 adK d9 mc9 ms9 (.ref k0 :: av) h (pnIs (.inl r) hc')) (lk : pnLkV M.1.cls index M9 n) (hd : decode M.2.1 pc = .ok (.invokevirtual index, 3)) (hq : pc + 3 = q) (hn : av.length = n) (hcl : pnCH h) (hcl' : pnCH hc') (hlen : h.length ≤ hc'.length) (hfr : pnFrI L st h 0 = true) (hk0 : h[k0]? = some (.inr (ci, fs))) (hci : (vwCl[ci]?).map (fun x => x.1) = some M9.1.cls) (hca : av.all (pnCVb h.length) = true) (hr : r.toList.all (pnCVb hc'.length) = true) (hstk : st0 = av.reverse ++ .ref k0 :: st) (hdd : d9 + 1 ≤ d) (hbc : bc9 + mc9 ≤ bc) (hbs : bs9 + ms9 ≤ bs) (hw8 : (st.map fun v => v.category).sum ≤ 8)
    (k : pnWP M adK d Q bc9 bs9 hc' L (r.toList ++ st) q) : pnWP M adK d Q bc bs h L st0 pc := by
  subst hq
  have hk1 : k0 < h.length := (List.getElem?_eq_some_iff.mp hk0).1
  have hav : av.map (pnRV (List.range h.length)) = av := by
    conv => rhs; rw [← List.map_id av]
    exact List.map_congr_left (fun v hv => pnRV_id (pnCV_b (List.all_eq_true.mp hca v hv)))
  refine pn_callV (I := List.range h.length) hC lk hd hn (pnSel_id hcl) (pnFree_id hfr) hk0 hci (by rw [hav, pnRg hk1]; exact hstk) hdd (bc9 := bc9) (bs9 := bs9) hbc hbs hw8 (fun r9 h' hq _ => ?_) (fun E h' hq _ => by cases hq.1)
  obtain ⟨e1, e2⟩ := hq
  subst e2
  cases e1
  rw [pnBack_rg hcl' hlen]
  have hJ : pnJ (List.range h.length) h.length h'.length = List.range h'.length := by
    unfold pnJ
    rw [List.length_range, List.range_eq_range', List.range_eq_range']
    have := List.range'_append_1 (s := 0) (m := h.length) (n := h'.length - h.length)
    rw [Nat.zero_add] at this
    rw [this]
    congr 1
    omega
  rw [hJ]
  cases r with
  | none => exact k
  | some v =>
    show pnWP M adK d Q bc9 bs9 h' L (pnRV (List.range h'.length) v :: st) (pc + 3)
    rw [pnRV_id (pnCV_b (List.all_eq_true.mp hr v (by simp)))]
    exact k
