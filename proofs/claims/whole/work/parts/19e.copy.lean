/-! ===== rows that are alike within their lengths; copies of whole rows ===== -/
theorem pnD_any {A : Nat → Prop} {τ : Nat → ClassId} {σ : Nat → Nat} {h : List pnE} {a : Nat} {c : pnE} (hD : va_D A (pnW τ σ h)) : va_D A (pnW τ σ (h.set a c)) := by
  have hs : ∀ (k : Nat) (x : Nat × va_E), (pnW τ σ (h.set a c))[k]? = some x → ∃ y, (pnW τ σ h)[k]? = some y ∧ x.1 = y.1 := fun k x e => by
    obtain ⟨c9, g, rfl⟩ := pnW_of e
    have hk : k < h.length := by have := (List.getElem?_eq_some_iff.mp g).1; rwa [List.length_set] at this
    exact ⟨_, pnW_at (List.getElem?_eq_getElem hk), rfl⟩
  refine ⟨fun i j x y ei ej e => ?_, fun k x e => ?_⟩
  · obtain ⟨x9, f1, f2⟩ := hs i x ei
    obtain ⟨y9, f3, f4⟩ := hs j y ej
    exact hD.1 i j _ _ f1 f3 (by rw [← f2, ← f4]; exact e)
  · obtain ⟨y, f1, f2⟩ := hs k x e
    rw [f2]; exact hD.2 k _ f1
theorem pn_extl {M : pnM} {adK : Nat → Nat} {d : Nat} {Q : pnR → List pnE → Prop} {bc bs : Nat} {h : List pnE} {L : List (Option Value)} {st : List Value} {pc : Nat} {a n : Nat} {f : Nat → Int64} (g : Nat → Int64) (he : h[a]? = some (.inl (1, n, .inr (.inl f)))) (hg : ∀ j, j < n → f j = g j) (k : pnWP M adK d Q bc bs (h.set a (.inl (1, n, .inr (.inl g)))) L st pc) : pnWP M adK d Q bc bs h L st pc := by
  intro p l e R s m args below meth c D τ A b0 adV mc ms n0 σ0 σ mv0 H locs cells slots ls ok w
  have ok2 := ok
  obtain ⟨hx, hb, hr, hml, hown, hts, hlk, hnm, htab, hK, hA, hAb, hb0, hLow, hst, hfr, hlo, hRc, hRs⟩ := ok2
  obtain ⟨w1, w2, w3, w4, w5, w6, w7, w8, w9, w10, w11⟩ := w
  have e1 : va_P D vwCl (pnW τ σ (h.set a (.inl (1, n, .inr (.inl g))))) H := by
    intro i x ex
    obtain ⟨c9, g9, rfl⟩ := pnW_of ex
    rw [List.getElem?_set] at g9
    by_cases hi : a = i
    · subst hi
      rw [if_pos rfl, if_pos (List.getElem?_eq_some_iff.mp he).1] at g9
      cases g9
      have h9 := w1 a _ (pnW_at he)
      have h8 : H[σ a]? = some (arrV (τ 1) n (fun j => .long (f j))) := h9
      show H[σ a]? = some (arrV (τ 1) n (fun j => .long (g j)))
      rw [h8]
      have : (Array.ofFn (n := n) fun j => (.long (f j.val) : Value)) = Array.ofFn (n := n) fun j => (.long (g j.val) : Value) := by
        congr 1; funext j; rw [hg j.val j.isLt]
      unfold arrV
      rw [this]
    · rw [if_neg hi] at g9
      exact w1 i _ (pnW_at g9)
  exact k p l e R s m args below meth c D τ A b0 adV mc ms n0 σ0 σ mv0 H locs cells slots ls ok ⟨e1, pnD_any w2, w3, by rw [List.length_set]; exact w4, w5.set he (fun e => by first | exact e | cases e) (fun _ => rfl), w6.set a trivial, by rw [List.length_set]; exact w7, by rw [List.length_set]; exact w8, w9, w10, w11⟩
theorem pn_copyl {M : pnM} {adK : Nat → Nat} {d : Nat} {Q : pnR → List pnE → Prop} {bc bs : Nat} {h : List pnE} {L : List (Option Value)} {st : List Value} {pc q : Nat} {a0 a1 nn0 n1 index : Nat} {f g : Nat → Int64} (hl1 : Cond.methodLink M.1.cls index arraycopyName ∈ pnG) (hl2 : Cond.native arraycopyName ∈ pnG) (hl3 : Cond.static arraycopyName ∈ pnG) (hl4 : Cond.initialized "java/lang/System" ∈ pnG) (hd : decode M.2.1 pc = .ok (.invokestatic index, 3)) (hq : pc + 3 = q) (hd1 : 1 ≤ d) (hw8 : (st.map fun v => v.category).sum ≤ 8) (ha0 : h[a0]? = some (.inl (1, nn0, .inr (.inl f)))) (ha1 : h[a1]? = some (.inl (1, n1, .inr (.inl g)))) (hle : n1 ≤ nn0) (hn : n1 < 2147483648)
    (k : pnWP M adK d Q bc bs (h.set a1 (.inl (1, n1, .inr (.inl f)))) L st q) : pnWP M adK d Q bc bs h L (.int (nI n1) :: .int (nI 0) :: .ref a1 :: .int (nI 0) :: .ref a0 :: st) pc := by
  subst hq
  have k2 : pnWP M adK d Q bc bs (h.set a1 (.inl (1, n1, .inr (.inl (va_cpy f g 0 0 n1))))) L st (pc + 3) := by
    refine pn_extl f (a := a1) (n := n1) (by rw [List.getElem?_set, if_pos rfl, if_pos (List.getElem?_eq_some_iff.mp ha1).1]) (fun j hj => ?_) ?_
    · unfold va_cpy; rw [if_pos ⟨Nat.zero_le _, by omega⟩]; congr 1; omega
    · rw [List.set_set]; exact k
  intro p l e R s m args below meth c D τ A b0 adV mc ms n0 σ0 σ mv0 H locs cells slots ls ok w
  have ok2 := ok
  obtain ⟨hx, hb, hr, hml, hown, hts, hlk, hnm, htab, hK, hA, hAb, hb0, hLow, hst, hfr, hlo, hRc, hRs⟩ := ok2
  obtain ⟨w1, w2, w3, w4, w5, w6, w7, w8, w9, w10, w11⟩ := w
  have e0 : (nI 0).toNatClampNeg = 0 := nI_clamp (by decide)
  have e1 : (nI n1).toNatClampNeg = n1 := nI_clamp (by omega)
  have hnw : nativeFrameWords "java/lang/System" "arraycopy" 5 ≤ 40 := by decide +kernel
  refine va_copyl (sp := nI 0) (dp := nI 0) (n := nI n1) hx hb (by rw [hml]; exact w9.1.symm) hown (hts _ hl1) (hts _ hl2) (hts _ hl3) (hts _ hl4) hK w1 w2 w3 a0 a1 1 1 (pnW_at ha0) (pnW_at ha1) rfl rfl rfl (nI_pos (by decide)) (nI_pos (by decide)) (nI_pos (by omega)) (by rw [e0, e1]; omega) (by rw [e0, e1]; omega) (fun i hi => rfl) (by omega) (by rw [pnCatSum]; omega) hd (fun H1 locs1 g1 g2 g3 => ?_)
  rw [e0, e1] at g1 g2
  have e9 := pnW_set τ σ h a1 (.inl (1, n1, .inr (.inl (va_cpy f g 0 0 n1))))
  have g1 : va_P D vwCl (pnW τ σ (h.set a1 (.inl (1, n1, .inr (.inl (va_cpy f g 0 0 n1)))))) H1 := e9 ▸ g1
  have g2 : va_D A (pnW τ σ (h.set a1 (.inl (1, n1, .inr (.inl (va_cpy f g 0 0 n1)))))) := e9 ▸ g2
  exact k2 p l e R s m args below meth c D τ A b0 adV mc ms n0 σ0 σ mv0 H1 locs1 cells slots ls ok ⟨g1, g2, g3, by rw [List.length_set]; exact w4, w5.set ha1 (fun e => by first | exact e | cases e) (fun _ => rfl), w6.set a1 trivial, by rw [List.length_set]; exact w7, by rw [List.length_set]; exact w8.tail.tail.tail.tail.tail, w9, w10, w11⟩
theorem pn_exti {M : pnM} {adK : Nat → Nat} {d : Nat} {Q : pnR → List pnE → Prop} {bc bs : Nat} {h : List pnE} {L : List (Option Value)} {st : List Value} {pc : Nat} {a n : Nat} {f : Nat → Int32} (g : Nat → Int32) (he : h[a]? = some (.inl (0, n, .inl f))) (hg : ∀ j, j < n → f j = g j) (k : pnWP M adK d Q bc bs (h.set a (.inl (0, n, .inl g))) L st pc) : pnWP M adK d Q bc bs h L st pc := by
  intro p l e R s m args below meth c D τ A b0 adV mc ms n0 σ0 σ mv0 H locs cells slots ls ok w
  have ok2 := ok
  obtain ⟨hx, hb, hr, hml, hown, hts, hlk, hnm, htab, hK, hA, hAb, hb0, hLow, hst, hfr, hlo, hRc, hRs⟩ := ok2
  obtain ⟨w1, w2, w3, w4, w5, w6, w7, w8, w9, w10, w11⟩ := w
  have e1 : va_P D vwCl (pnW τ σ (h.set a (.inl (0, n, .inl g)))) H := by
    intro i x ex
    obtain ⟨c9, g9, rfl⟩ := pnW_of ex
    rw [List.getElem?_set] at g9
    by_cases hi : a = i
    · subst hi
      rw [if_pos rfl, if_pos (List.getElem?_eq_some_iff.mp he).1] at g9
      cases g9
      have h9 := w1 a _ (pnW_at he)
      have h8 : H[σ a]? = some (arrV (τ 0) n (fun j => .int (f j))) := h9
      show H[σ a]? = some (arrV (τ 0) n (fun j => .int (g j)))
      rw [h8]
      have : (Array.ofFn (n := n) fun j => (.int (f j.val) : Value)) = Array.ofFn (n := n) fun j => (.int (g j.val) : Value) := by
        congr 1; funext j; rw [hg j.val j.isLt]
      unfold arrV
      rw [this]
    · rw [if_neg hi] at g9
      exact w1 i _ (pnW_at g9)
  exact k p l e R s m args below meth c D τ A b0 adV mc ms n0 σ0 σ mv0 H locs cells slots ls ok ⟨e1, pnD_any w2, w3, by rw [List.length_set]; exact w4, w5.set he (fun e => by first | exact e | cases e) (fun _ => rfl), w6.set a trivial, by rw [List.length_set]; exact w7, by rw [List.length_set]; exact w8, w9, w10, w11⟩
theorem pn_copyi {M : pnM} {adK : Nat → Nat} {d : Nat} {Q : pnR → List pnE → Prop} {bc bs : Nat} {h : List pnE} {L : List (Option Value)} {st : List Value} {pc q : Nat} {a0 a1 nn0 n1 index : Nat} {f g : Nat → Int32} (hl1 : Cond.methodLink M.1.cls index arraycopyName ∈ pnG) (hl2 : Cond.native arraycopyName ∈ pnG) (hl3 : Cond.static arraycopyName ∈ pnG) (hl4 : Cond.initialized "java/lang/System" ∈ pnG) (hd : decode M.2.1 pc = .ok (.invokestatic index, 3)) (hq : pc + 3 = q) (hd1 : 1 ≤ d) (hw8 : (st.map fun v => v.category).sum ≤ 8) (ha0 : h[a0]? = some (.inl (0, nn0, .inl f))) (ha1 : h[a1]? = some (.inl (0, n1, .inl g))) (hle : n1 ≤ nn0) (hn : n1 < 2147483648)
    (k : pnWP M adK d Q bc bs (h.set a1 (.inl (0, n1, .inl f))) L st q) : pnWP M adK d Q bc bs h L (.int (nI n1) :: .int (nI 0) :: .ref a1 :: .int (nI 0) :: .ref a0 :: st) pc := by
  subst hq
  have k2 : pnWP M adK d Q bc bs (h.set a1 (.inl (0, n1, .inl (va_cpy f g 0 0 n1)))) L st (pc + 3) := by
    refine pn_exti f (a := a1) (n := n1) (by rw [List.getElem?_set, if_pos rfl, if_pos (List.getElem?_eq_some_iff.mp ha1).1]) (fun j hj => ?_) ?_
    · unfold va_cpy; rw [if_pos ⟨Nat.zero_le _, by omega⟩]; congr 1; omega
    · rw [List.set_set]; exact k
  intro p l e R s m args below meth c D τ A b0 adV mc ms n0 σ0 σ mv0 H locs cells slots ls ok w
  have ok2 := ok
  obtain ⟨hx, hb, hr, hml, hown, hts, hlk, hnm, htab, hK, hA, hAb, hb0, hLow, hst, hfr, hlo, hRc, hRs⟩ := ok2
  obtain ⟨w1, w2, w3, w4, w5, w6, w7, w8, w9, w10, w11⟩ := w
  have e0 : (nI 0).toNatClampNeg = 0 := nI_clamp (by decide)
  have e1 : (nI n1).toNatClampNeg = n1 := nI_clamp (by omega)
  have hnw : nativeFrameWords "java/lang/System" "arraycopy" 5 ≤ 40 := by decide +kernel
  refine va_copyi (sp := nI 0) (dp := nI 0) (n := nI n1) hx hb (by rw [hml]; exact w9.1.symm) hown (hts _ hl1) (hts _ hl2) (hts _ hl3) (hts _ hl4) hK w1 w2 w3 a0 a1 0 0 (pnW_at ha0) (pnW_at ha1) rfl rfl rfl (nI_pos (by decide)) (nI_pos (by decide)) (nI_pos (by omega)) (by rw [e0, e1]; omega) (by rw [e0, e1]; omega) (fun i hi => rfl) (by omega) (by rw [pnCatSum]; omega) hd (fun H1 locs1 g1 g2 g3 => ?_)
  rw [e0, e1] at g1 g2
  have e9 := pnW_set τ σ h a1 (.inl (0, n1, .inl (va_cpy f g 0 0 n1)))
  have g1 : va_P D vwCl (pnW τ σ (h.set a1 (.inl (0, n1, .inl (va_cpy f g 0 0 n1))))) H1 := e9 ▸ g1
  have g2 : va_D A (pnW τ σ (h.set a1 (.inl (0, n1, .inl (va_cpy f g 0 0 n1))))) := e9 ▸ g2
  exact k2 p l e R s m args below meth c D τ A b0 adV mc ms n0 σ0 σ mv0 H1 locs1 cells slots ls ok ⟨g1, g2, g3, by rw [List.length_set]; exact w4, w5.set ha1 (fun e => by first | exact e | cases e) (fun _ => rfl), w6.set a1 trivial, by rw [List.length_set]; exact w7, by rw [List.length_set]; exact w8.tail.tail.tail.tail.tail, w9, w10, w11⟩
theorem pn_copyG {M : pnM} {adK : Nat → Nat} {d : Nat} {Q : pnR → List pnE → Prop} {bc bs : Nat} {h : List pnE} {L : List (Option Value)} {st : List Value} {pc q : Nat} {a0 a1 nn0 n1 nc index t0 t1 : Nat} {f g : Nat → Int64} (ht0 : t0 = 1 ∨ t0 = 5 ∨ t0 = 6) (ht1 : t1 = 1 ∨ t1 = 5 ∨ t1 = 6) (hl1 : Cond.methodLink M.1.cls index arraycopyName ∈ pnG) (hl2 : Cond.native arraycopyName ∈ pnG) (hl3 : Cond.static arraycopyName ∈ pnG) (hl4 : Cond.initialized "java/lang/System" ∈ pnG) (hd : decode M.2.1 pc = .ok (.invokestatic index, 3)) (hq : pc + 3 = q) (hd1 : 1 ≤ d) (hw8 : (st.map fun v => v.category).sum ≤ 8) (ha0 : h[a0]? = some (.inl (t0, nn0, .inr (.inl f)))) (ha1 : h[a1]? = some (.inl (t1, n1, .inr (.inl g)))) (hle : nc ≤ nn0) (hle1 : nc ≤ n1) (hn : nc < 2147483648)
    (k : pnWP M adK d Q bc bs (h.set a1 (.inl (t1, n1, .inr (.inl (va_cpy f g 0 0 nc))))) L st q) : pnWP M adK d Q bc bs h L (.int (nI nc) :: .int (nI 0) :: .ref a1 :: .int (nI 0) :: .ref a0 :: st) pc := by
  subst hq
  intro p l e R s m args below meth c D τ A b0 adV mc ms n0 σ0 σ mv0 H locs cells slots ls ok w
  have ok2 := ok
  obtain ⟨hx, hb, hr, hml, hown, hts, hlk, hnm, htab, hK, hA, hAb, hb0, hLow, hst, hfr, hlo, hRc, hRs⟩ := ok2
  obtain ⟨w1, w2, w3, w4, w5, w6, w7, w8, w9, w10, w11⟩ := w
  have e0 : (nI 0).toNatClampNeg = 0 := nI_clamp (by decide)
  have e1 : (nI nc).toNatClampNeg = nc := nI_clamp (by omega)
  have hnw : nativeFrameWords "java/lang/System" "arraycopy" 5 ≤ 40 := by decide +kernel
  have hty : ∀ t, t = 1 ∨ t = 5 ∨ t = 6 → (pnT τ)[t]? = some (τ t, .long) := fun t ht => by rcases ht with e | e | e <;> subst e <;> rfl
  refine va_copyl (sp := nI 0) (dp := nI 0) (n := nI nc) hx hb (by rw [hml]; exact w9.1.symm) hown (hts _ hl1) (hts _ hl2) (hts _ hl3) (hts _ hl4) hK w1 w2 w3 a0 a1 t0 t1 (pnW_at ha0) (pnW_at ha1) (hty t0 ht0) (hty t1 ht1) rfl (nI_pos (by decide)) (nI_pos (by decide)) (nI_pos (by omega)) (by rw [e0, e1]; omega) (by rw [e0, e1]; omega) (fun i hi => rfl) (by omega) (by rw [pnCatSum]; omega) hd (fun H1 locs1 g1 g2 g3 => ?_)
  rw [e0, e1] at g1 g2
  have e9 := pnW_set τ σ h a1 (.inl (t1, n1, .inr (.inl (va_cpy f g 0 0 nc))))
  have g1 : va_P D vwCl (pnW τ σ (h.set a1 (.inl (t1, n1, .inr (.inl (va_cpy f g 0 0 nc)))))) H1 := e9 ▸ g1
  have g2 : va_D A (pnW τ σ (h.set a1 (.inl (t1, n1, .inr (.inl (va_cpy f g 0 0 nc)))))) := e9 ▸ g2
  exact k p l e R s m args below meth c D τ A b0 adV mc ms n0 σ0 σ mv0 H1 locs1 cells slots ls ok ⟨g1, g2, g3, by rw [List.length_set]; exact w4, w5.set ha1 (fun e => e) (fun e => e), w6.set a1 trivial, by rw [List.length_set]; exact w7, by rw [List.length_set]; exact w8.tail.tail.tail.tail.tail, w9, w10, w11⟩
