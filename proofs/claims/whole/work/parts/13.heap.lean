/-! ===== the rules of the heap ===== -/
def pnFld (own : String) (index ci k : Nat) (ty : FieldType) (fin : Bool) : Prop := ∃ (C : String) (T : u_T) (N : Nat) (ty0 : Nat → FieldType), vwCl[ci]? = some (C, T, N) ∧ k < N ∧ (∀ w ∈ u_ws C T N, w ∈ pnG) ∧ (∀ j, j < N → parseFieldDescriptor (T j).2.2.1 = some (ty0 j)) ∧ (∀ a, a < N → ∀ b, b < N → a ≠ b → (T a).2.1 ≠ (T b).2.1) ∧ Cond.fieldLink own index (T k).1 (T k).2.1 (T k).2.2.1 ∈ pnG ∧ ty0 k = ty ∧ (T k).2.2.2 = fin ∧ (T k).1 = C
def pnFits (ty : FieldType) (v : Value) : Prop := ∀ σ : Nat → Nat, narrow ty (pnV σ v) = pnV σ v ∧ fits ty (pnV σ v) = true
theorem pnF_int (x : Int32) : pnFits .int (.int x) := fun _ => ⟨rfl, rfl⟩
theorem pnF_long (x : Int64) : pnFits .long (.long x) := fun _ => ⟨rfl, rfl⟩
theorem pnF_bool {x : Int32} (h : x = 0 ∨ x = 1) : pnFits .boolean (.int x) := fun _ => by
  rcases h with h | h <;> subst h <;> exact ⟨rfl, rfl⟩
theorem pnF_obj {C : String} {v : Value} (h : pnIsR v = true) : pnFits (.object C) v := fun _ => by
  cases v <;> first | exact ⟨rfl, rfl⟩ | cases h
theorem pnF_arr {t : FieldType} {v : Value} (h : pnIsR v = true) : pnFits (.array t) v := fun _ => by
  cases v <;> first | exact ⟨rfl, rfl⟩ | cases h
theorem pn_get {M : pnM} {adK : Nat → Nat} {d : Nat} {Q : pnR → List pnE → Prop} {bc bs : Nat} {h : List pnE} {L : List (Option Value)} {st : List Value} {pc q : Nat} {index ci k a : Nat} {ty : FieldType} {fin : Bool} {fs : List Value} {v : Value} (lk : pnFld M.1.cls index ci k ty fin) (hd : decode M.2.1 pc = .ok (.getfield index, 3)) (hq : pc + 3 = q) (he : h[a]? = some (.inr (ci, fs))) (hv : fs[k]? = some v) (kk : pnWP M adK d Q bc bs h L (v :: st) q) : pnWP M adK d Q bc bs h L (.ref a :: st) pc := by
  subst hq
  intro p l e R s m args below meth c D τ A b0 adV mc ms n0 σ0 σ mv0 H locs cells slots ls ok w
  have ok2 := ok
  obtain ⟨hx, hb, hr, hml, hown, hts, hlk, hnm, htab, hK, hA, hAb, hb0, hLow, hst, hfr, hlo, hRc, hRs⟩ := ok2
  obtain ⟨w1, w2, w3, w4, w5, w6, w7, w8, w9, w10, w11⟩ := w
  obtain ⟨C, T, N, ty0, hc, hk, hin, hty, hnn, hlink, -⟩ := lk
  refine va_get (v := pnV σ v) hx hb hts hin hown hK w1 a (pnW_at he) hc k hk (hts _ hlink) (fun _ h9 => h9) (by show (fs.map (pnV σ))[k]? = _; rw [List.getElem?_map, hv]; rfl) hd ?_
  exact kk p l e R s m args below meth c D τ A b0 adV mc ms n0 σ0 σ mv0 H locs cells slots ls ok ⟨w1, w2, w3, w4, w5, w6, w7, w8.tail.cons (w6 a _ he v (List.mem_of_getElem? hv)), w9, w10, w11⟩
theorem pn_put {M : pnM} {adK : Nat → Nat} {d : Nat} {Q : pnR → List pnE → Prop} {bc bs : Nat} {h : List pnE} {L : List (Option Value)} {st : List Value} {pc q : Nat} {index ci k a : Nat} {ty : FieldType} {fs : List Value} {v : Value} (lk : pnFld M.1.cls index ci k ty false) (hd : decode M.2.1 pc = .ok (.putfield index, 3)) (hq : pc + 3 = q) (he : h[a]? = some (.inr (ci, fs))) (hl : k < fs.length) (hf : pnFits ty v) (kk : pnWP M adK d Q bc bs (h.set a (.inr (ci, fs.set k v))) L st q) : pnWP M adK d Q bc bs h L (v :: .ref a :: st) pc := by
  subst hq
  intro p l e R s m args below meth c D τ A b0 adV mc ms n0 σ0 σ mv0 H locs cells slots ls ok w
  have ok2 := ok
  obtain ⟨hx, hb, hr, hml, hown, hts, hlk, hnm, htab, hK, hA, hAb, hb0, hLow, hst, hfr, hlo, hRc, hRs⟩ := ok2
  obtain ⟨w1, w2, w3, w4, w5, w6, w7, w8, w9, w10, w11⟩ := w
  obtain ⟨C, T, N, ty0, hc, hk, hin, hty, hnn, hlink, hty9, hfin, hCC⟩ := lk
  refine va_put hx hb hts hin ty0 hty hnn hown hK w1 w2 w3 a (pnW_at he) hc k hk (hts _ hlink) (fun _ h9 => h9) hfin (ty := ty) (by rw [hty k hk, hty9]) (hf σ).1 (hf σ).2 (by rw [List.length_map]; exact hl) hd (fun H1 locs1 g1 g2 g3 => ?_)
  have e1 : (pnW τ σ h).set a (σ a, .inr (ci, (fs.map (pnV σ)).set k (pnV σ v))) = pnW τ σ (h.set a (.inr (ci, fs.set k v))) := by
    rw [← pnW_set]; show _ = (pnW τ σ h).set a (σ a, .inr (ci, (fs.set k v).map (pnV σ))); rw [List.map_set]
  rw [e1] at g1 g2
  exact kk p l e R s m args below meth c D τ A b0 adV mc ms n0 σ0 σ mv0 H1 locs1 cells slots ls ok ⟨g1, g2, g3, by rw [List.length_set]; exact w4, w5.set he (fun e => by cases e) (fun _ => rfl), w6.set a (fun x hx9 => by
    rcases List.mem_or_eq_of_mem_set hx9 with h9 | h9
    · exact w6 a _ he x h9
    · rw [h9]; exact w8.head), by rw [List.length_set]; exact w7, by rw [List.length_set]; exact w8.tail.tail, w9, w10, w11⟩
theorem pn_putF {M : pnM} {adK : Nat → Nat} {d : Nat} {Q : pnR → List pnE → Prop} {bc bs : Nat} {h : List pnE} {L : List (Option Value)} {st : List Value} {pc q : Nat} {index ci k a : Nat} {ty : FieldType} {fs : List Value} {v : Value} (lk : pnFld M.1.cls index ci k ty true) (hin2 : M.1.name = "<init>") (hdecl : ∀ C T N, vwCl[ci]? = some (C, T, N) → C = M.1.cls) (hd : decode M.2.1 pc = .ok (.putfield index, 3)) (hq : pc + 3 = q) (he : h[a]? = some (.inr (ci, fs))) (hl : k < fs.length) (hf : pnFits ty v) (kk : pnWP M adK d Q bc bs (h.set a (.inr (ci, fs.set k v))) L st q) : pnWP M adK d Q bc bs h L (v :: .ref a :: st) pc := by
  subst hq
  intro p l e R s m args below meth c D τ A b0 adV mc ms n0 σ0 σ mv0 H locs cells slots ls ok w
  have ok2 := ok
  obtain ⟨hx, hb, hr, hml, hown, hts, hlk, hnm, htab, hK, hA, hAb, hb0, hLow, hst, hfr, hlo, hRc, hRs⟩ := ok2
  obtain ⟨w1, w2, w3, w4, w5, w6, w7, w8, w9, w10, w11⟩ := w
  obtain ⟨C, T, N, ty0, hc, hk, hin, hty, hnn, hlink, hty9, hfin, hCC⟩ := lk
  refine va_putF hx hb hts hin ty0 hty hnn hown hK w1 w2 w3 a (pnW_at he) hc k hk (hts _ hlink) (fun _ h9 => h9) hfin (by rw [hnm]; exact hin2) (hCC.trans (hdecl C T N hc)) (ty := ty) (by rw [hty k hk, hty9]) (hf σ).1 (hf σ).2 (by rw [List.length_map]; exact hl) hd (fun H1 locs1 g1 g2 g3 => ?_)
  have e1 : (pnW τ σ h).set a (σ a, .inr (ci, (fs.map (pnV σ)).set k (pnV σ v))) = pnW τ σ (h.set a (.inr (ci, fs.set k v))) := by
    rw [← pnW_set]; show _ = (pnW τ σ h).set a (σ a, .inr (ci, (fs.set k v).map (pnV σ))); rw [List.map_set]
  rw [e1] at g1 g2
  exact kk p l e R s m args below meth c D τ A b0 adV mc ms n0 σ0 σ mv0 H1 locs1 cells slots ls ok ⟨g1, g2, g3, by rw [List.length_set]; exact w4, w5.set he (fun e => by cases e) (fun _ => rfl), w6.set a (fun x hx9 => by
    rcases List.mem_or_eq_of_mem_set hx9 with h9 | h9
    · exact w6 a _ he x h9
    · rw [h9]; exact w8.head), by rw [List.length_set]; exact w7, by rw [List.length_set]; exact w8.tail.tail, w9, w10, w11⟩
theorem pn_iald {M : pnM} {adK : Nat → Nat} {d : Nat} {Q : pnR → List pnE → Prop} {bc bs : Nat} {h : List pnE} {L : List (Option Value)} {st : List Value} {pc q : Nat} {a n j : Nat} {f : Nat → Int32} {i : Int32} (hd : decode M.2.1 pc = .ok (.iaload, 1)) (hq : pc + 1 = q) (he : h[a]? = some (.inl (0, n, .inl f))) (hi : i = nI j) (hj : j < n) (hn : n < 2147483648) (kk : pnWP M adK d Q bc bs h L (.int (f j) :: st) q) : pnWP M adK d Q bc bs h L (.int i :: .ref a :: st) pc := by
  subst hq
  subst hi
  intro p l e R s m args below meth c D τ A b0 adV mc ms n0 σ0 σ mv0 H locs cells slots ls ok w
  have ok2 := ok
  obtain ⟨hx, hb, hr, hml, hown, hts, hlk, hnm, htab, hK, hA, hAb, hb0, hLow, hst, hfr, hlo, hRc, hRs⟩ := ok2
  obtain ⟨w1, w2, w3, w4, w5, w6, w7, w8, w9, w10, w11⟩ := w
  have hj9 : (nI j).toNatClampNeg = j := nI_clamp (by omega)
  refine va_iald hx hb hK w1 a 0 (pnW_at he) rfl (vp_in_nI hj hn) hd ?_
  rw [hj9]
  exact kk p l e R s m args below meth c D τ A b0 adV mc ms n0 σ0 σ mv0 H locs cells slots ls ok ⟨w1, w2, w3, w4, w5, w6, w7, w8.tail.tail.cons trivial, w9, w10, w11⟩
theorem pn_bald {M : pnM} {adK : Nat → Nat} {d : Nat} {Q : pnR → List pnE → Prop} {bc bs : Nat} {h : List pnE} {L : List (Option Value)} {st : List Value} {pc q : Nat} {a n j : Nat} {f : Nat → Int32} {i : Int32} (hd : decode M.2.1 pc = .ok (.baload, 1)) (hq : pc + 1 = q) (he : h[a]? = some (.inl (2, n, .inl f))) (hi : i = nI j) (hj : j < n) (hn : n < 2147483648) (kk : pnWP M adK d Q bc bs h L (.int (f j) :: st) q) : pnWP M adK d Q bc bs h L (.int i :: .ref a :: st) pc := by
  subst hq
  subst hi
  intro p l e R s m args below meth c D τ A b0 adV mc ms n0 σ0 σ mv0 H locs cells slots ls ok w
  have ok2 := ok
  obtain ⟨hx, hb, hr, hml, hown, hts, hlk, hnm, htab, hK, hA, hAb, hb0, hLow, hst, hfr, hlo, hRc, hRs⟩ := ok2
  obtain ⟨w1, w2, w3, w4, w5, w6, w7, w8, w9, w10, w11⟩ := w
  have hj9 : (nI j).toNatClampNeg = j := nI_clamp (by omega)
  refine va_bald hx hb hK w1 a 2 (pnW_at he) rfl (vp_in_nI hj hn) hd ?_
  rw [hj9]
  exact kk p l e R s m args below meth c D τ A b0 adV mc ms n0 σ0 σ mv0 H locs cells slots ls ok ⟨w1, w2, w3, w4, w5, w6, w7, w8.tail.tail.cons trivial, w9, w10, w11⟩
theorem pn_lald1 {M : pnM} {adK : Nat → Nat} {d : Nat} {Q : pnR → List pnE → Prop} {bc bs : Nat} {h : List pnE} {L : List (Option Value)} {st : List Value} {pc q : Nat} {a n j : Nat} {f : Nat → Int64} {i : Int32} (hd : decode M.2.1 pc = .ok (.laload, 1)) (hq : pc + 1 = q) (he : h[a]? = some (.inl (1, n, .inr (.inl f)))) (hi : i = nI j) (hj : j < n) (hn : n < 2147483648) (kk : pnWP M adK d Q bc bs h L (.long (f j) :: st) q) : pnWP M adK d Q bc bs h L (.int i :: .ref a :: st) pc := by
  subst hq
  subst hi
  intro p l e R s m args below meth c D τ A b0 adV mc ms n0 σ0 σ mv0 H locs cells slots ls ok w
  have ok2 := ok
  obtain ⟨hx, hb, hr, hml, hown, hts, hlk, hnm, htab, hK, hA, hAb, hb0, hLow, hst, hfr, hlo, hRc, hRs⟩ := ok2
  obtain ⟨w1, w2, w3, w4, w5, w6, w7, w8, w9, w10, w11⟩ := w
  have hj9 : (nI j).toNatClampNeg = j := nI_clamp (by omega)
  refine va_lald hx hb hK w1 a 1 (pnW_at he) rfl (vp_in_nI hj hn) hd ?_
  rw [hj9]
  exact kk p l e R s m args below meth c D τ A b0 adV mc ms n0 σ0 σ mv0 H locs cells slots ls ok ⟨w1, w2, w3, w4, w5, w6, w7, w8.tail.tail.cons trivial, w9, w10, w11⟩
theorem pn_lald5 {M : pnM} {adK : Nat → Nat} {d : Nat} {Q : pnR → List pnE → Prop} {bc bs : Nat} {h : List pnE} {L : List (Option Value)} {st : List Value} {pc q : Nat} {a n j : Nat} {f : Nat → Int64} {i : Int32} (hd : decode M.2.1 pc = .ok (.laload, 1)) (hq : pc + 1 = q) (he : h[a]? = some (.inl (5, n, .inr (.inl f)))) (hi : i = nI j) (hj : j < n) (hn : n < 2147483648) (kk : pnWP M adK d Q bc bs h L (.long (f j) :: st) q) : pnWP M adK d Q bc bs h L (.int i :: .ref a :: st) pc := by
  subst hq
  subst hi
  intro p l e R s m args below meth c D τ A b0 adV mc ms n0 σ0 σ mv0 H locs cells slots ls ok w
  have ok2 := ok
  obtain ⟨hx, hb, hr, hml, hown, hts, hlk, hnm, htab, hK, hA, hAb, hb0, hLow, hst, hfr, hlo, hRc, hRs⟩ := ok2
  obtain ⟨w1, w2, w3, w4, w5, w6, w7, w8, w9, w10, w11⟩ := w
  have hj9 : (nI j).toNatClampNeg = j := nI_clamp (by omega)
  refine va_lald hx hb hK w1 a 5 (pnW_at he) rfl (vp_in_nI hj hn) hd ?_
  rw [hj9]
  exact kk p l e R s m args below meth c D τ A b0 adV mc ms n0 σ0 σ mv0 H locs cells slots ls ok ⟨w1, w2, w3, w4, w5, w6, w7, w8.tail.tail.cons trivial, w9, w10, w11⟩
theorem pn_lald6 {M : pnM} {adK : Nat → Nat} {d : Nat} {Q : pnR → List pnE → Prop} {bc bs : Nat} {h : List pnE} {L : List (Option Value)} {st : List Value} {pc q : Nat} {a n j : Nat} {f : Nat → Int64} {i : Int32} (hd : decode M.2.1 pc = .ok (.laload, 1)) (hq : pc + 1 = q) (he : h[a]? = some (.inl (6, n, .inr (.inl f)))) (hi : i = nI j) (hj : j < n) (hn : n < 2147483648) (kk : pnWP M adK d Q bc bs h L (.long (f j) :: st) q) : pnWP M adK d Q bc bs h L (.int i :: .ref a :: st) pc := by
  subst hq
  subst hi
  intro p l e R s m args below meth c D τ A b0 adV mc ms n0 σ0 σ mv0 H locs cells slots ls ok w
  have ok2 := ok
  obtain ⟨hx, hb, hr, hml, hown, hts, hlk, hnm, htab, hK, hA, hAb, hb0, hLow, hst, hfr, hlo, hRc, hRs⟩ := ok2
  obtain ⟨w1, w2, w3, w4, w5, w6, w7, w8, w9, w10, w11⟩ := w
  have hj9 : (nI j).toNatClampNeg = j := nI_clamp (by omega)
  refine va_lald hx hb hK w1 a 6 (pnW_at he) rfl (vp_in_nI hj hn) hd ?_
  rw [hj9]
  exact kk p l e R s m args below meth c D τ A b0 adV mc ms n0 σ0 σ mv0 H locs cells slots ls ok ⟨w1, w2, w3, w4, w5, w6, w7, w8.tail.tail.cons trivial, w9, w10, w11⟩
theorem pn_iast {M : pnM} {adK : Nat → Nat} {d : Nat} {Q : pnR → List pnE → Prop} {bc bs : Nat} {h : List pnE} {L : List (Option Value)} {st : List Value} {pc q : Nat} {a n j : Nat} {f : Nat → Int32} {i : Int32} {x : Int32} (hd : decode M.2.1 pc = .ok (.iastore, 1)) (hq : pc + 1 = q) (he : h[a]? = some (.inl (0, n, .inl f))) (hi : i = nI j) (hj : j < n) (hn : n < 2147483648) (kk : pnWP M adK d Q bc bs (h.set a (.inl (0, n, .inl (upd f j x)))) L st q) : pnWP M adK d Q bc bs h L (.int x :: .int i :: .ref a :: st) pc := by
  subst hq
  subst hi
  intro p l e R s m args below meth c D τ A b0 adV mc ms n0 σ0 σ mv0 H locs cells slots ls ok w
  have ok2 := ok
  obtain ⟨hx, hb, hr, hml, hown, hts, hlk, hnm, htab, hK, hA, hAb, hb0, hLow, hst, hfr, hlo, hRc, hRs⟩ := ok2
  obtain ⟨w1, w2, w3, w4, w5, w6, w7, w8, w9, w10, w11⟩ := w
  have hj9 : (nI j).toNatClampNeg = j := nI_clamp (by omega)
  refine va_iast hx hb hK w1 w2 w3 a 0 (pnW_at he) rfl (vp_in_nI hj hn) hd (fun H1 locs1 g1 g2 g3 => ?_)
  rw [hj9] at g1 g2
  have e1 := pnW_set τ σ h a (.inl (0, n, .inl (upd f j x)))
  have g1 : va_P D vwCl (pnW τ σ (h.set a (.inl (0, n, .inl (upd f j x))))) H1 := e1 ▸ g1
  have g2 : va_D A (pnW τ σ (h.set a (.inl (0, n, .inl (upd f j x))))) := e1 ▸ g2
  exact kk p l e R s m args below meth c D τ A b0 adV mc ms n0 σ0 σ mv0 H1 locs1 cells slots ls ok ⟨g1, g2, g3, by rw [List.length_set]; exact w4, w5.set he (fun e => e) (fun e => e), w6.set a trivial, by rw [List.length_set]; exact w7, by rw [List.length_set]; exact w8.tail.tail.tail, w9, w10, w11⟩
theorem pn_bast {M : pnM} {adK : Nat → Nat} {d : Nat} {Q : pnR → List pnE → Prop} {bc bs : Nat} {h : List pnE} {L : List (Option Value)} {st : List Value} {pc q : Nat} {a n j : Nat} {f : Nat → Int32} {i : Int32} {x : Int32} (hd : decode M.2.1 pc = .ok (.bastore, 1)) (hq : pc + 1 = q) (he : h[a]? = some (.inl (2, n, .inl f))) (hi : i = nI j) (hj : j < n) (hn : n < 2147483648) (kk : pnWP M adK d Q bc bs (h.set a (.inl (2, n, .inl (upd f j (vp_nar .byte x))))) L st q) : pnWP M adK d Q bc bs h L (.int x :: .int i :: .ref a :: st) pc := by
  subst hq
  subst hi
  intro p l e R s m args below meth c D τ A b0 adV mc ms n0 σ0 σ mv0 H locs cells slots ls ok w
  have ok2 := ok
  obtain ⟨hx, hb, hr, hml, hown, hts, hlk, hnm, htab, hK, hA, hAb, hb0, hLow, hst, hfr, hlo, hRc, hRs⟩ := ok2
  obtain ⟨w1, w2, w3, w4, w5, w6, w7, w8, w9, w10, w11⟩ := w
  have hj9 : (nI j).toNatClampNeg = j := nI_clamp (by omega)
  refine va_bast hx hb hK w1 w2 w3 a 2 (pnW_at he) rfl (vp_in_nI hj hn) hd (fun H1 locs1 g1 g2 g3 => ?_)
  rw [hj9] at g1 g2
  have e1 := pnW_set τ σ h a (.inl (2, n, .inl (upd f j (vp_nar .byte x))))
  have g1 : va_P D vwCl (pnW τ σ (h.set a (.inl (2, n, .inl (upd f j (vp_nar .byte x)))))) H1 := e1 ▸ g1
  have g2 : va_D A (pnW τ σ (h.set a (.inl (2, n, .inl (upd f j (vp_nar .byte x)))))) := e1 ▸ g2
  exact kk p l e R s m args below meth c D τ A b0 adV mc ms n0 σ0 σ mv0 H1 locs1 cells slots ls ok ⟨g1, g2, g3, by rw [List.length_set]; exact w4, w5.set he (fun e => e) (fun e => e), w6.set a trivial, by rw [List.length_set]; exact w7, by rw [List.length_set]; exact w8.tail.tail.tail, w9, w10, w11⟩
theorem pn_last1 {M : pnM} {adK : Nat → Nat} {d : Nat} {Q : pnR → List pnE → Prop} {bc bs : Nat} {h : List pnE} {L : List (Option Value)} {st : List Value} {pc q : Nat} {a n j : Nat} {f : Nat → Int64} {i : Int32} {x : Int64} (hd : decode M.2.1 pc = .ok (.lastore, 1)) (hq : pc + 1 = q) (he : h[a]? = some (.inl (1, n, .inr (.inl f)))) (hi : i = nI j) (hj : j < n) (hn : n < 2147483648) (kk : pnWP M adK d Q bc bs (h.set a (.inl (1, n, .inr (.inl (vp_updL f j x))))) L st q) : pnWP M adK d Q bc bs h L (.long x :: .int i :: .ref a :: st) pc := by
  subst hq
  subst hi
  intro p l e R s m args below meth c D τ A b0 adV mc ms n0 σ0 σ mv0 H locs cells slots ls ok w
  have ok2 := ok
  obtain ⟨hx, hb, hr, hml, hown, hts, hlk, hnm, htab, hK, hA, hAb, hb0, hLow, hst, hfr, hlo, hRc, hRs⟩ := ok2
  obtain ⟨w1, w2, w3, w4, w5, w6, w7, w8, w9, w10, w11⟩ := w
  have hj9 : (nI j).toNatClampNeg = j := nI_clamp (by omega)
  refine va_last hx hb hK w1 w2 w3 a 1 (pnW_at he) rfl (vp_in_nI hj hn) hd (fun H1 locs1 g1 g2 g3 => ?_)
  rw [hj9] at g1 g2
  have e1 := pnW_set τ σ h a (.inl (1, n, .inr (.inl (vp_updL f j x))))
  have g1 : va_P D vwCl (pnW τ σ (h.set a (.inl (1, n, .inr (.inl (vp_updL f j x)))))) H1 := e1 ▸ g1
  have g2 : va_D A (pnW τ σ (h.set a (.inl (1, n, .inr (.inl (vp_updL f j x)))))) := e1 ▸ g2
  exact kk p l e R s m args below meth c D τ A b0 adV mc ms n0 σ0 σ mv0 H1 locs1 cells slots ls ok ⟨g1, g2, g3, by rw [List.length_set]; exact w4, w5.set he (fun e => e) (fun e => e), w6.set a trivial, by rw [List.length_set]; exact w7, by rw [List.length_set]; exact w8.tail.tail.tail, w9, w10, w11⟩
theorem pn_last5 {M : pnM} {adK : Nat → Nat} {d : Nat} {Q : pnR → List pnE → Prop} {bc bs : Nat} {h : List pnE} {L : List (Option Value)} {st : List Value} {pc q : Nat} {a n j : Nat} {f : Nat → Int64} {i : Int32} {x : Int64} (hd : decode M.2.1 pc = .ok (.lastore, 1)) (hq : pc + 1 = q) (he : h[a]? = some (.inl (5, n, .inr (.inl f)))) (hi : i = nI j) (hj : j < n) (hn : n < 2147483648) (kk : pnWP M adK d Q bc bs (h.set a (.inl (5, n, .inr (.inl (vp_updL f j x))))) L st q) : pnWP M adK d Q bc bs h L (.long x :: .int i :: .ref a :: st) pc := by
  subst hq
  subst hi
  intro p l e R s m args below meth c D τ A b0 adV mc ms n0 σ0 σ mv0 H locs cells slots ls ok w
  have ok2 := ok
  obtain ⟨hx, hb, hr, hml, hown, hts, hlk, hnm, htab, hK, hA, hAb, hb0, hLow, hst, hfr, hlo, hRc, hRs⟩ := ok2
  obtain ⟨w1, w2, w3, w4, w5, w6, w7, w8, w9, w10, w11⟩ := w
  have hj9 : (nI j).toNatClampNeg = j := nI_clamp (by omega)
  refine va_last hx hb hK w1 w2 w3 a 5 (pnW_at he) rfl (vp_in_nI hj hn) hd (fun H1 locs1 g1 g2 g3 => ?_)
  rw [hj9] at g1 g2
  have e1 := pnW_set τ σ h a (.inl (5, n, .inr (.inl (vp_updL f j x))))
  have g1 : va_P D vwCl (pnW τ σ (h.set a (.inl (5, n, .inr (.inl (vp_updL f j x)))))) H1 := e1 ▸ g1
  have g2 : va_D A (pnW τ σ (h.set a (.inl (5, n, .inr (.inl (vp_updL f j x)))))) := e1 ▸ g2
  exact kk p l e R s m args below meth c D τ A b0 adV mc ms n0 σ0 σ mv0 H1 locs1 cells slots ls ok ⟨g1, g2, g3, by rw [List.length_set]; exact w4, w5.set he (fun e => e) (fun e => e), w6.set a trivial, by rw [List.length_set]; exact w7, by rw [List.length_set]; exact w8.tail.tail.tail, w9, w10, w11⟩
theorem pn_alen {M : pnM} {adK : Nat → Nat} {d : Nat} {Q : pnR → List pnE → Prop} {bc bs : Nat} {h : List pnE} {L : List (Option Value)} {st : List Value} {pc q : Nat} {a t n : Nat} {y : (Nat → Int32) ⊕ (Nat → Int64) ⊕ (Nat → UInt32) ⊕ (Nat → UInt64) ⊕ (Nat → Option Nat)} (hd : decode M.2.1 pc = .ok (.arraylength, 1)) (hq : pc + 1 = q) (he : h[a]? = some (.inl (t, n, y))) (ht : t < 7) (kk : pnWP M adK d Q bc bs h L (.int (nI n) :: st) q) : pnWP M adK d Q bc bs h L (.ref a :: st) pc := by
  subst hq
  intro p l e R s m args below meth c D τ A b0 adV mc ms n0 σ0 σ mv0 H locs cells slots ls ok w
  have ok2 := ok
  obtain ⟨hx, hb, hr, hml, hown, hts, hlk, hnm, htab, hK, hA, hAb, hb0, hLow, hst, hfr, hlo, hRc, hRs⟩ := ok2
  obtain ⟨w1, w2, w3, w4, w5, w6, w7, w8, w9, w10, w11⟩ := w
  have hx1 : (pnA σ (n, y)).1 = n := by
    match y with
    | .inl f => rfl
    | .inr (.inl f) => rfl
    | .inr (.inr (.inl f)) => rfl
    | .inr (.inr (.inr (.inl f))) => rfl
    | .inr (.inr (.inr (.inr g))) => rfl
  obtain ⟨ty, ht9⟩ : ∃ ty, (pnT τ)[t]? = some (τ t, ty) := by
    match t, ht with
    | 0, _ => exact ⟨_, rfl⟩
    | 1, _ => exact ⟨_, rfl⟩
    | 2, _ => exact ⟨_, rfl⟩
    | 3, _ => exact ⟨_, rfl⟩
    | 4, _ => exact ⟨_, rfl⟩
    | 5, _ => exact ⟨_, rfl⟩
    | 6, _ => exact ⟨_, rfl⟩
  refine va_alen (v := nI n) hx hb hK w1 a t (pnW_at he) ht9 (by rw [hx1]; rfl) hd ?_
  exact kk p l e R s m args below meth c D τ A b0 adV mc ms n0 σ0 σ mv0 H locs cells slots ls ok ⟨w1, w2, w3, w4, w5, w6, w7, w8.tail.cons trivial, w9, w10, w11⟩
def pnRf : Option Nat → Value
  | none => .null
  | some k => .ref k
theorem pnRf_V (σ : Nat → Nat) (r : Option Nat) : pnV σ (pnRf r) = va_rf (r.map σ) := by cases r <;> rfl
theorem pn_aald {M : pnM} {adK : Nat → Nat} {d : Nat} {Q : pnR → List pnE → Prop} {bc bs : Nat} {h : List pnE} {L : List (Option Value)} {st : List Value} {pc q : Nat} {a n j t : Nat} {f : Nat → Option Nat} {i : Int32} (ht : t = 3 ∨ t = 4) (hd : decode M.2.1 pc = .ok (.aaload, 1)) (hq : pc + 1 = q) (he : h[a]? = some (.inl (t, n, .inr (.inr (.inr (.inr f)))))) (hi : i = nI j) (hj : j < n) (hn : n < 2147483648) (kk : pnWP M adK d Q bc bs h L (pnRf (f j) :: st) q) : pnWP M adK d Q bc bs h L (.int i :: .ref a :: st) pc := by
  subst hq
  subst hi
  intro p l e R s m args below meth c D τ A b0 adV mc ms n0 σ0 σ mv0 H locs cells slots ls ok w
  have ok2 := ok
  obtain ⟨hx, hb, hr, hml, hown, hts, hlk, hnm, htab, hK, hA, hAb, hb0, hLow, hst, hfr, hlo, hRc, hRs⟩ := ok2
  obtain ⟨w1, w2, w3, w4, w5, w6, w7, w8, w9, w10, w11⟩ := w
  have hj9 : (nI j).toNatClampNeg = j := nI_clamp (by omega)
  have hcl : pnCV h.length (pnRf (f j)) := by
    cases hf : f j with
    | none => trivial
    | some k => exact w6 a _ he j k hf
  have k9 := kk p l e R s m args below meth c D τ A b0 adV mc ms n0 σ0 σ mv0 H locs cells slots ls ok ⟨w1, w2, w3, w4, w5, w6, w7, w8.tail.tail.cons hcl, w9, w10, w11⟩
  have hr9 := pnRf_V σ (f j)
  rcases ht with ht | ht
  · subst ht
    refine va_aldq hx hb hK w1 a 3 (C := "PartedNet$Net") (pnW_at he) rfl (vp_in_nI hj hn) hd ?_
    rw [hj9]
    show W p l e R s m args below meth c H locs cells slots _ (F0 m (pc + 1) ls (va_rf ((f j).map σ) :: st.map (pnV σ)))
    rw [← hr9]
    exact k9
  · subst ht
    have hP := w1 a _ (pnW_at he)
    have hlt : (nI j).toNatClampNeg < n := by rw [hj9]; exact hj
    refine W.aald (v := va_rf ((f j).map σ)) (ty := .array .long) hx hb hP ((hK.2 4 (τ 4, .array .long) rfl).1 n (fun j => va_rf ((f j).map σ))) rfl (fun q => by cases q) (by show ¬ ((nI j) < 0 ∨ (arrV _ _ _).slots.size ≤ _); rw [arrV_size]; exact vp_in_nI hj hn) (by show (arrV (τ 4) n (fun j => va_rf ((f j).map σ))).slots[_]? = _; rw [arrV_read _ _ hlt, hj9]) rfl rfl hd ?_
    rw [← hr9]
    exact k9
theorem pn_aast {M : pnM} {adK : Nat → Nat} {d : Nat} {Q : pnR → List pnE → Prop} {bc bs : Nat} {h : List pnE} {L : List (Option Value)} {st : List Value} {pc q : Nat} {a n j b : Nat} {f : Nat → Option Nat} {i : Int32} {fs : List Value} (hd : decode M.2.1 pc = .ok (.aastore, 1)) (hq : pc + 1 = q) (he : h[a]? = some (.inl (3, n, .inr (.inr (.inr (.inr f)))))) (hb9 : h[b]? = some (.inr (2, fs))) (hi : i = nI j) (hj : j < n) (hn : n < 2147483648) (kk : pnWP M adK d Q bc bs (h.set a (.inl (3, n, .inr (.inr (.inr (.inr (va_up f j (some b)))))))) L st q) : pnWP M adK d Q bc bs h L (.ref b :: .int i :: .ref a :: st) pc := by
  subst hq
  subst hi
  intro p l e R s m args below meth c D τ A b0 adV mc ms n0 σ0 σ mv0 H locs cells slots ls ok w
  have ok2 := ok
  obtain ⟨hx, hb, hr, hml, hown, hts, hlk, hnm, htab, hK, hA, hAb, hb0, hLow, hst, hfr, hlo, hRc, hRs⟩ := ok2
  obtain ⟨w1, w2, w3, w4, w5, w6, w7, w8, w9, w10, w11⟩ := w
  have hj9 : (nI j).toNatClampNeg = j := nI_clamp (by omega)
  refine va_astq hx hb hK w1 w2 w3 a 3 b 2 (r := (RX2, TX2, 9)) (pnW_at he) rfl (pnW_at hb9) rfl (vp_in_nI hj hn) hd (fun H1 locs1 g1 g2 g3 => ?_)
  rw [hj9] at g1 g2
  have e0 : (va_up (fun j => (f j).map σ) j (some (σ b))) = fun i => (va_up f j (some b) i).map σ := by
    funext i
    unfold va_up
    split <;> rfl
  have e1 := pnW_set τ σ h a (.inl (3, n, .inr (.inr (.inr (.inr (va_up f j (some b)))))))
  rw [e0] at g1 g2
  have g1 : va_P D vwCl (pnW τ σ (h.set a (.inl (3, n, .inr (.inr (.inr (.inr (va_up f j (some b))))))))) H1 := e1 ▸ g1
  have g2 : va_D A (pnW τ σ (h.set a (.inl (3, n, .inr (.inr (.inr (.inr (va_up f j (some b))))))))) := e1 ▸ g2
  exact kk p l e R s m args below meth c D τ A b0 adV mc ms n0 σ0 σ mv0 H1 locs1 cells slots ls ok ⟨g1, g2, g3, by rw [List.length_set]; exact w4, w5.set he (fun e => by cases e) (fun _ => rfl), w6.set a (fun i9 k9 h9 => by
    unfold va_up at h9
    split at h9
    · cases h9; exact w8.head
    · exact w6 a _ he i9 k9 h9), by rw [List.length_set]; exact w7, by rw [List.length_set]; exact w8.tail.tail.tail, w9, w10, w11⟩
/-! a cell more -/
theorem pn_grow {nL : Nat} {D : va_G} {τ : Nat → ClassId} {A : Nat → Prop} {H0 : Heap} {n0 : Nat} {σ0 σ : Nat → Nat} {mv0 : Nat → Bool} {mc ms bc bs N : Nat} {h : List pnE} {L : List (Option Value)} {st : List Value} {H : Heap} {locs : List Loc} {cells slots : Nat} {ls : Array Slot}
    (w : pnIn nL D τ A H0 n0 σ0 σ mv0 mc ms (bc + 1) (bs + N) h L st H locs cells slots ls) (c : pnE) (hc : pnCC (h.length + 1) c) (q9 : Nat) (H1 : Heap) (e : va_E) (he : ∀ σ' : Nat → Nat, (∀ k, k < h.length → σ' k = σ k) → σ' h.length = q9 → pnC τ σ' c = e) (hP : va_P D vwCl (pnW τ σ h ++ [(q9, e)]) H1) (hD : va_D A (pnW τ σ h ++ [(q9, e)])) (hS : va_S A H0 H1 locs) :
    ∃ σ' : Nat → Nat, (∀ k, k < h.length → σ' k = σ k) ∧ σ' h.length = q9 ∧ pnIn nL D τ A H0 n0 σ0 σ' mv0 mc ms bc bs (h ++ [c]) L (.ref h.length :: st) H1 locs (cells + 1) (slots + N) ls ∧ st.map (pnV σ') = st.map (pnV σ) := by
  obtain ⟨w1, w2, w3, w4, w5, w6, w7, w8, w9, w10, w11⟩ := w
  refine ⟨fun k => if k = h.length then q9 else σ k, ?_⟩
  have hσ : ∀ k, k < h.length → (fun k => if k = h.length then q9 else σ k) k = σ k := fun k hk => if_neg (Nat.ne_of_lt hk)
  have hσ2 : (fun k => if k = h.length then q9 else σ k) h.length = q9 := if_pos rfl
  generalize (fun k => if k = h.length then q9 else σ k) = σ' at hσ hσ2
  have e1 : pnW τ σ h ++ [(q9, e)] = pnW τ σ' (h ++ [c]) := by
    rw [← pnW_eq w6 hσ]
    exact pnW_push τ σ' h q9 c (fun _ _ => trivial) e (he σ' hσ hσ2).symm hσ2
  rw [e1] at hP hD
  have hlen : (h ++ [c]).length = h.length + 1 := by rw [List.length_append, List.length_singleton]
  refine ⟨hσ, hσ2, ⟨hP, hD, hS, by omega, w5.push w4 hσ, w6.push hc, by rw [hlen]; exact w7.mono (Nat.le_succ _), by rw [hlen]; exact (w8.mono (Nat.le_succ _)).cons (Nat.lt_succ_self _), w9.sub (fun _ _ e9 => e9) (fun i v e9 => pnV_eq hσ (w7 i v e9)), by omega, by omega⟩, pnS_eq w8 hσ⟩
theorem pn_new {M : pnM} {adK : Nat → Nat} {d : Nat} {Q : pnR → List pnE → Prop} {bc bs : Nat} {h : List pnE} {L : List (Option Value)} {st : List Value} {pc q : Nat} {index ci N : Nat} {C : String} {T : u_T} {ty0 : Nat → FieldType} {fs : List Value} (hcl : Cond.classLink M.1.cls index C ∈ pnG) (hinst : Cond.instantiable C N ∈ pnG) (hini : Cond.initialized C ∈ pnG) (hin : ∀ w ∈ u_ws C T N, w ∈ pnG) (hty : ∀ j, j < N → parseFieldDescriptor (T j).2.2.1 = some (ty0 j)) (hc : vwCl[ci]? = some (C, T, N)) (hfs : ∀ j, j < N → defaultValue (ty0 j) = vp_V fs j) (hfc : ∀ v ∈ fs, v = .null ∨ (∃ x, v = .int x) ∨ ∃ x, v = .long x) (hd : decode M.2.1 pc = .ok (.new index, 3)) (hq : pc + 3 = q)
    (kk : pnWP M adK d Q bc bs (h ++ [.inr (ci, fs)]) L (.ref h.length :: st) q) : pnWP M adK d Q (bc + 1) (bs + N) h L st pc := by
  subst hq
  intro p l e R s m args below meth c D τ A b0 adV mc ms n0 σ0 σ mv0 H locs cells slots ls ok w
  have ok2 := ok
  obtain ⟨hx, hb, hr, hml, hown, hts, hlk, hnm, htab, hK, hA, hAb, hb0, hLow, hst, hfr, hlo, hRc, hRs⟩ := ok2
  obtain ⟨w1, w2, w3, w4, w5, w6, w7, w8, w9, w10, w11⟩ := w
  have hfm : ∀ σ' : Nat → Nat, fs.map (pnV σ') = fs := fun σ' => by
    have : ∀ v ∈ fs, pnV σ' v = v := fun v hv => by
      rcases hfc v hv with e | ⟨x, e⟩ | ⟨x, e⟩ <;> rw [e] <;> rfl
    rw [List.map_congr_left this, List.map_id']
  refine va_new hx hb hts hin ty0 hty hown (hts _ hcl) (hts _ hinst) (hts _ hini) hK w1 w2 w3 hA hc hfs (by omega) (by omega) hd (fun q9 H1 g1 g2 g3 => ?_)
  obtain ⟨σ', hσ, hσ2, w', hst'⟩ := pn_grow ⟨w1, w2, w3, w4, w5, w6, w7, w8, w9, w10, w11⟩ (.inr (ci, fs)) (fun v hv => by
    rcases hfc v hv with e | ⟨x, e⟩ | ⟨x, e⟩ <;> rw [e] <;> trivial) q9 H1 (.inr (ci, fs)) (fun σ' _ _ => by show (Sum.inr (ci, fs.map (pnV σ')) : va_E) = _; rw [hfm]) g1 g2 g3
  have k9 := kk p l e R s m args below meth c D τ A b0 adV mc ms n0 σ0 σ' mv0 H1 locs (cells + 1) (slots + N) ls ok w'
  rw [List.map_cons, hst', show pnV σ' (.ref h.length) = .ref q9 by show Value.ref (σ' h.length) = _; rw [hσ2]] at k9
  exact k9
theorem pn_newi {M : pnM} {adK : Nat → Nat} {d : Nat} {Q : pnR → List pnE → Prop} {bc bs : Nat} {h : List pnE} {L : List (Option Value)} {st : List Value} {pc q : Nat} {N : Nat} {i : Int32} (harr : Cond.arrayClass .int ∈ pnG) (hd : decode M.2.1 pc = .ok (.newarray .int, 2)) (hq : pc + 2 = q) (hi : i = nI N) (hN : N ≤ 60000)
    (kk : pnWP M adK d Q bc bs (h ++ [.inl (0, N, .inl (fun _ => 0))]) L (.ref h.length :: st) q) : pnWP M adK d Q (bc + 1) (bs + N) h L (.int i :: st) pc := by
  subst hq
  subst hi
  intro p l e R s m args below meth c D τ A b0 adV mc ms n0 σ0 σ mv0 H locs cells slots ls ok w
  have ok2 := ok
  obtain ⟨hx, hb, hr, hml, hown, hts, hlk, hnm, htab, hK, hA, hAb, hb0, hLow, hst, hfr, hlo, hRc, hRs⟩ := ok2
  obtain ⟨w1, w2, w3, w4, w5, w6, w7, w8, w9, w10, w11⟩ := w
  refine va_newa (atype := .int) (ty := .int) (N' := N) (a0 := (N, .inl (fun _ => 0))) hx hb (hts _ harr) rfl hK w1 w2 w3 hA (fun cA => rfl) (nI_pos (by omega)) (nI_clamp (by omega)) (by show N * _ ≤ _; simp [componentBytes]; omega) (by omega) (by omega) hd (fun q9 cA H1 g0 g1 g2 g3 => ?_)
  have hcA : cA = τ 0 := by
    have h1 := (g0.2 7 (cA, .int) rfl).2
    have h2 := (hK.2 0 (τ 0, .int) rfl).2
    exact Option.some.inj ((show s.vm.findClass _ = some cA from h1).symm.trans (show s.vm.findClass _ = some (τ 0) from h2))
  subst hcA
  obtain ⟨σ', hσ, hσ2, w', hst'⟩ := pn_grow ⟨w1, w2, w3, w4, w5, w6, w7, w8.tail, w9, w10, w11⟩ (.inl (0, N, .inl (fun _ => 0))) trivial q9 H1 (.inl (τ 0, N, .inl (fun _ => 0))) (fun σ' _ _ => rfl) g1 g2 g3
  have k9 := kk p l e R s m args below meth c D τ A b0 adV mc ms n0 σ0 σ' mv0 H1 locs (cells + 1) (slots + N) ls ok w'
  rw [List.map_cons, hst', show pnV σ' (.ref h.length) = .ref q9 by show Value.ref (σ' h.length) = _; rw [hσ2]] at k9
  exact k9
theorem pn_newl {M : pnM} {adK : Nat → Nat} {d : Nat} {Q : pnR → List pnE → Prop} {bc bs : Nat} {h : List pnE} {L : List (Option Value)} {st : List Value} {pc q : Nat} {N : Nat} {i : Int32} (harr : Cond.arrayClass .long ∈ pnG) (hd : decode M.2.1 pc = .ok (.newarray .long, 2)) (hq : pc + 2 = q) (hi : i = nI N) (hN : N ≤ 60000)
    (kk : pnWP M adK d Q bc bs (h ++ [.inl (1, N, .inr (.inl (fun _ => 0)))]) L (.ref h.length :: st) q) : pnWP M adK d Q (bc + 1) (bs + N) h L (.int i :: st) pc := by
  subst hq
  subst hi
  intro p l e R s m args below meth c D τ A b0 adV mc ms n0 σ0 σ mv0 H locs cells slots ls ok w
  have ok2 := ok
  obtain ⟨hx, hb, hr, hml, hown, hts, hlk, hnm, htab, hK, hA, hAb, hb0, hLow, hst, hfr, hlo, hRc, hRs⟩ := ok2
  obtain ⟨w1, w2, w3, w4, w5, w6, w7, w8, w9, w10, w11⟩ := w
  refine va_newa (atype := .long) (ty := .long) (N' := N) (a0 := (N, .inr (.inl (fun _ => 0)))) hx hb (hts _ harr) rfl hK w1 w2 w3 hA (fun cA => rfl) (nI_pos (by omega)) (nI_clamp (by omega)) (by show N * _ ≤ _; simp [componentBytes]; omega) (by omega) (by omega) hd (fun q9 cA H1 g0 g1 g2 g3 => ?_)
  have hcA : cA = τ 1 := by
    have h1 := (g0.2 7 (cA, .long) rfl).2
    have h2 := (hK.2 1 (τ 1, .long) rfl).2
    exact Option.some.inj ((show s.vm.findClass _ = some cA from h1).symm.trans (show s.vm.findClass _ = some (τ 1) from h2))
  subst hcA
  obtain ⟨σ', hσ, hσ2, w', hst'⟩ := pn_grow ⟨w1, w2, w3, w4, w5, w6, w7, w8.tail, w9, w10, w11⟩ (.inl (1, N, .inr (.inl (fun _ => 0)))) trivial q9 H1 (.inl (τ 1, N, .inr (.inl (fun _ => 0)))) (fun σ' _ _ => rfl) g1 g2 g3
  have k9 := kk p l e R s m args below meth c D τ A b0 adV mc ms n0 σ0 σ' mv0 H1 locs (cells + 1) (slots + N) ls ok w'
  rw [List.map_cons, hst', show pnV σ' (.ref h.length) = .ref q9 by show Value.ref (σ' h.length) = _; rw [hσ2]] at k9
  exact k9
theorem pn_newl5 {M : pnM} {adK : Nat → Nat} {d : Nat} {Q : pnR → List pnE → Prop} {bc bs : Nat} {h : List pnE} {L : List (Option Value)} {st : List Value} {pc q : Nat} {N : Nat} {i : Int32} (harr : Cond.arrayClass .long ∈ pnG) (hd : decode M.2.1 pc = .ok (.newarray .long, 2)) (hq : pc + 2 = q) (hi : i = nI N) (hN : N ≤ 60000)
    (kk : pnWP M adK d Q bc bs (h ++ [.inl (5, N, .inr (.inl (fun _ => 0)))]) L (.ref h.length :: st) q) : pnWP M adK d Q (bc + 1) (bs + N) h L (.int i :: st) pc := by
  subst hq
  subst hi
  intro p l e R s m args below meth c D τ A b0 adV mc ms n0 σ0 σ mv0 H locs cells slots ls ok w
  have ok2 := ok
  obtain ⟨hx, hb, hr, hml, hown, hts, hlk, hnm, htab, hK, hA, hAb, hb0, hLow, hst, hfr, hlo, hRc, hRs⟩ := ok2
  obtain ⟨w1, w2, w3, w4, w5, w6, w7, w8, w9, w10, w11⟩ := w
  refine va_newa (atype := .long) (ty := .long) (N' := N) (a0 := (N, .inr (.inl (fun _ => 0)))) hx hb (hts _ harr) rfl hK w1 w2 w3 hA (fun cA => rfl) (nI_pos (by omega)) (nI_clamp (by omega)) (by show N * _ ≤ _; simp [componentBytes]; omega) (by omega) (by omega) hd (fun q9 cA H1 g0 g1 g2 g3 => ?_)
  have hcA : cA = τ 5 := by
    have h1 := (g0.2 7 (cA, .long) rfl).2
    have h2 := (hK.2 5 (τ 5, .long) rfl).2
    exact Option.some.inj ((show s.vm.findClass _ = some cA from h1).symm.trans (show s.vm.findClass _ = some (τ 5) from h2))
  subst hcA
  obtain ⟨σ', hσ, hσ2, w', hst'⟩ := pn_grow ⟨w1, w2, w3, w4, w5, w6, w7, w8.tail, w9, w10, w11⟩ (.inl (5, N, .inr (.inl (fun _ => 0)))) trivial q9 H1 (.inl (τ 5, N, .inr (.inl (fun _ => 0)))) (fun σ' _ _ => rfl) g1 g2 g3
  have k9 := kk p l e R s m args below meth c D τ A b0 adV mc ms n0 σ0 σ' mv0 H1 locs (cells + 1) (slots + N) ls ok w'
  rw [List.map_cons, hst', show pnV σ' (.ref h.length) = .ref q9 by show Value.ref (σ' h.length) = _; rw [hσ2]] at k9
  exact k9
theorem pn_newl6 {M : pnM} {adK : Nat → Nat} {d : Nat} {Q : pnR → List pnE → Prop} {bc bs : Nat} {h : List pnE} {L : List (Option Value)} {st : List Value} {pc q : Nat} {N : Nat} {i : Int32} (harr : Cond.arrayClass .long ∈ pnG) (hd : decode M.2.1 pc = .ok (.newarray .long, 2)) (hq : pc + 2 = q) (hi : i = nI N) (hN : N ≤ 60000)
    (kk : pnWP M adK d Q bc bs (h ++ [.inl (6, N, .inr (.inl (fun _ => 0)))]) L (.ref h.length :: st) q) : pnWP M adK d Q (bc + 1) (bs + N) h L (.int i :: st) pc := by
  subst hq
  subst hi
  intro p l e R s m args below meth c D τ A b0 adV mc ms n0 σ0 σ mv0 H locs cells slots ls ok w
  have ok2 := ok
  obtain ⟨hx, hb, hr, hml, hown, hts, hlk, hnm, htab, hK, hA, hAb, hb0, hLow, hst, hfr, hlo, hRc, hRs⟩ := ok2
  obtain ⟨w1, w2, w3, w4, w5, w6, w7, w8, w9, w10, w11⟩ := w
  refine va_newa (atype := .long) (ty := .long) (N' := N) (a0 := (N, .inr (.inl (fun _ => 0)))) hx hb (hts _ harr) rfl hK w1 w2 w3 hA (fun cA => rfl) (nI_pos (by omega)) (nI_clamp (by omega)) (by show N * _ ≤ _; simp [componentBytes]; omega) (by omega) (by omega) hd (fun q9 cA H1 g0 g1 g2 g3 => ?_)
  have hcA : cA = τ 6 := by
    have h1 := (g0.2 7 (cA, .long) rfl).2
    have h2 := (hK.2 6 (τ 6, .long) rfl).2
    exact Option.some.inj ((show s.vm.findClass _ = some cA from h1).symm.trans (show s.vm.findClass _ = some (τ 6) from h2))
  subst hcA
  obtain ⟨σ', hσ, hσ2, w', hst'⟩ := pn_grow ⟨w1, w2, w3, w4, w5, w6, w7, w8.tail, w9, w10, w11⟩ (.inl (6, N, .inr (.inl (fun _ => 0)))) trivial q9 H1 (.inl (τ 6, N, .inr (.inl (fun _ => 0)))) (fun σ' _ _ => rfl) g1 g2 g3
  have k9 := kk p l e R s m args below meth c D τ A b0 adV mc ms n0 σ0 σ' mv0 H1 locs (cells + 1) (slots + N) ls ok w'
  rw [List.map_cons, hst', show pnV σ' (.ref h.length) = .ref q9 by show Value.ref (σ' h.length) = _; rw [hσ2]] at k9
  exact k9
theorem pn_newb {M : pnM} {adK : Nat → Nat} {d : Nat} {Q : pnR → List pnE → Prop} {bc bs : Nat} {h : List pnE} {L : List (Option Value)} {st : List Value} {pc q : Nat} {N : Nat} {i : Int32} (harr : Cond.arrayClass .byte ∈ pnG) (hd : decode M.2.1 pc = .ok (.newarray .byte, 2)) (hq : pc + 2 = q) (hi : i = nI N) (hN : N ≤ 60000)
    (kk : pnWP M adK d Q bc bs (h ++ [.inl (2, N, .inl (fun _ => 0))]) L (.ref h.length :: st) q) : pnWP M adK d Q (bc + 1) (bs + N) h L (.int i :: st) pc := by
  subst hq
  subst hi
  intro p l e R s m args below meth c D τ A b0 adV mc ms n0 σ0 σ mv0 H locs cells slots ls ok w
  have ok2 := ok
  obtain ⟨hx, hb, hr, hml, hown, hts, hlk, hnm, htab, hK, hA, hAb, hb0, hLow, hst, hfr, hlo, hRc, hRs⟩ := ok2
  obtain ⟨w1, w2, w3, w4, w5, w6, w7, w8, w9, w10, w11⟩ := w
  refine va_newa (atype := .byte) (ty := .byte) (N' := N) (a0 := (N, .inl (fun _ => 0))) hx hb (hts _ harr) rfl hK w1 w2 w3 hA (fun cA => rfl) (nI_pos (by omega)) (nI_clamp (by omega)) (by show N * _ ≤ _; simp [componentBytes]; omega) (by omega) (by omega) hd (fun q9 cA H1 g0 g1 g2 g3 => ?_)
  have hcA : cA = τ 2 := by
    have h1 := (g0.2 7 (cA, .byte) rfl).2
    have h2 := (hK.2 2 (τ 2, .byte) rfl).2
    exact Option.some.inj ((show s.vm.findClass _ = some cA from h1).symm.trans (show s.vm.findClass _ = some (τ 2) from h2))
  subst hcA
  obtain ⟨σ', hσ, hσ2, w', hst'⟩ := pn_grow ⟨w1, w2, w3, w4, w5, w6, w7, w8.tail, w9, w10, w11⟩ (.inl (2, N, .inl (fun _ => 0))) trivial q9 H1 (.inl (τ 2, N, .inl (fun _ => 0))) (fun σ' _ _ => rfl) g1 g2 g3
  have k9 := kk p l e R s m args below meth c D τ A b0 adV mc ms n0 σ0 σ' mv0 H1 locs (cells + 1) (slots + N) ls ok w'
  rw [List.map_cons, hst', show pnV σ' (.ref h.length) = .ref q9 by show Value.ref (σ' h.length) = _; rw [hσ2]] at k9
  exact k9
/-! ===== ends ===== -/
theorem pn_zret {M : pnM} {adK : Nat → Nat} {d : Nat} {Q : pnR → List pnE → Prop} {bc bs : Nat} {h : List pnE} {L : List (Option Value)} {pc : Nat} {x : Int32} {ty : FieldType} (hd : decode M.2.1 pc = .ok (.ireturn, 1)) (hr9 : M.2.2.2.1 = some ty) (hn : narrow ty (.int x) = .int x) (hQ : Q (.inl (some (.int x))) h) : pnWP M adK d Q bc bs h L [.int x] pc := by
  intro p l e R s m args below meth c D τ A b0 adV mc ms n0 σ0 σ mv0 H locs cells slots ls ok w
  have ok2 := ok
  obtain ⟨hx, hb, hr, hml, hown, hts, hlk, hnm, htab, hK, hA, hAb, hb0, hLow, hst, hfr, hlo, hRc, hRs⟩ := ok2
  obtain ⟨w1, w2, w3, w4, w5, w6, w7, w8, w9, w10, w11⟩ := w
  refine vx_ret (W.widen (k := mc) (n := ms) (by omega) (by omega) (W.zret hx hb (hr.trans hr9) hn (fun t ht hW => ⟨some (.int x), h, σ, rfl, hQ, w6, fun v hv => by cases hv; trivial, w4, w5, by rw [ht]; exact w1, w2, w3.F ht⟩) w3.2.2 hd hlk))
theorem pn_iret {M : pnM} {adK : Nat → Nat} {d : Nat} {Q : pnR → List pnE → Prop} {bc bs : Nat} {h : List pnE} {L : List (Option Value)} {pc : Nat} {x : Int32} (hd : decode M.2.1 pc = .ok (.ireturn, 1)) (hr9 : M.2.2.2.1 = some .int) (hQ : Q (.inl (some (.int x))) h) : pnWP M adK d Q bc bs h L [.int x] pc := pn_zret hd hr9 rfl hQ
theorem pn_bret {M : pnM} {adK : Nat → Nat} {d : Nat} {Q : pnR → List pnE → Prop} {bc bs : Nat} {h : List pnE} {L : List (Option Value)} {pc : Nat} {x : Int32} (hd : decode M.2.1 pc = .ok (.ireturn, 1)) (hr9 : M.2.2.2.1 = some .boolean) (hx : x = 0 ∨ x = 1) (hQ : Q (.inl (some (.int x))) h) : pnWP M adK d Q bc bs h L [.int x] pc := pn_zret hd hr9 (by rcases hx with e | e <;> subst e <;> rfl) hQ
theorem pn_lret {M : pnM} {adK : Nat → Nat} {d : Nat} {Q : pnR → List pnE → Prop} {bc bs : Nat} {h : List pnE} {L : List (Option Value)} {pc : Nat} {x : Int64} (hd : decode M.2.1 pc = .ok (.lreturn, 1)) (hr9 : M.2.2.2.1 = some .long) (hQ : Q (.inl (some (.long x))) h) : pnWP M adK d Q bc bs h L [.long x] pc := by
  intro p l e R s m args below meth c D τ A b0 adV mc ms n0 σ0 σ mv0 H locs cells slots ls ok w
  have ok2 := ok
  obtain ⟨hx, hb, hr, hml, hown, hts, hlk, hnm, htab, hK, hA, hAb, hb0, hLow, hst, hfr, hlo, hRc, hRs⟩ := ok2
  obtain ⟨w1, w2, w3, w4, w5, w6, w7, w8, w9, w10, w11⟩ := w
  refine vx_ret (W.widen (k := mc) (n := ms) (by omega) (by omega) (W.lret hx hb (hr.trans hr9) (fun t ht hW => ⟨some (.long x), h, σ, rfl, hQ, w6, fun v hv => by cases hv; trivial, w4, w5, by rw [ht]; exact w1, w2, w3.F ht⟩) w3.2.2 hd hlk))
theorem pn_vret {M : pnM} {adK : Nat → Nat} {d : Nat} {Q : pnR → List pnE → Prop} {bc bs : Nat} {h : List pnE} {L : List (Option Value)} {pc : Nat} (hd : decode M.2.1 pc = .ok (.return_, 1)) (hr9 : M.2.2.2.1 = none) (hQ : Q (.inl none) h) : pnWP M adK d Q bc bs h L [] pc := by
  intro p l e R s m args below meth c D τ A b0 adV mc ms n0 σ0 σ mv0 H locs cells slots ls ok w
  have ok2 := ok
  obtain ⟨hx, hb, hr, hml, hown, hts, hlk, hnm, htab, hK, hA, hAb, hb0, hLow, hst, hfr, hlo, hRc, hRs⟩ := ok2
  obtain ⟨w1, w2, w3, w4, w5, w6, w7, w8, w9, w10, w11⟩ := w
  refine vx_ret (W.widen (k := mc) (n := ms) (by omega) (by omega) (W.vret hx hb (hr.trans hr9) (fun t ht hW => ⟨none, h, σ, rfl, hQ, w6, fun v hv => (by cases hv), w4, w5, by rw [ht]; exact w1, w2, w3.F ht⟩) w3.2.2 hd hlk))
theorem pn_aret {M : pnM} {adK : Nat → Nat} {d : Nat} {Q : pnR → List pnE → Prop} {bc bs : Nat} {h : List pnE} {L : List (Option Value)} {pc : Nat} {v : Value} {rt : FieldType} (hd : decode M.2.1 pc = .ok (.areturn, 1)) (hr9 : M.2.2.2.1 = some rt) (hrt : (∃ n, rt = .object n) ∨ ∃ t, rt = .array t) (hv : pnIsR v = true) (hQ : Q (.inl (some v)) h) : pnWP M adK d Q bc bs h L [v] pc := by
  intro p l e R s m args below meth c D τ A b0 adV mc ms n0 σ0 σ mv0 H locs cells slots ls ok w
  have ok2 := ok
  obtain ⟨hx, hb, hr, hml, hown, hts, hlk, hnm, htab, hK, hA, hAb, hb0, hLow, hst, hfr, hlo, hRc, hRs⟩ := ok2
  obtain ⟨w1, w2, w3, w4, w5, w6, w7, w8, w9, w10, w11⟩ := w
  refine vx_ret (W.widen (k := mc) (n := ms) (by omega) (by omega) (W.aret (v := pnV σ v) hx hb (hr.trans hr9) hrt (pnIsR_of hv σ) (fun t ht hW => ⟨some v, h, σ, rfl, hQ, w6, fun v hv => by cases hv; exact w8.head, w4, w5, by rw [ht]; exact w1, w2, w3.F ht⟩) w3.2.2 hd hlk))
