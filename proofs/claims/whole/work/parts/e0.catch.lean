/-! ===== methods with handlers: what is thrown is caught ===== -/
def pnHan (M : pnM) (pc : Nat) (E : String) (hp : Nat) : Prop := ∃ (pre suf : List ExceptionTableEntry) (x : ExceptionTableEntry) (name : String), tableOf M.2.2.2.2 = pre ++ x :: suf ∧ (∀ z ∈ pre, z.catchType ≠ 0 ∧ ∃ nm : String, Cond.classLink M.1.cls z.catchType nm ∈ pnG ∧ ((E = "java/lang/IllegalArgumentException" ∧ nm = "java/util/NoSuchElementException") ∨ (E = "java/lang/IllegalStateException" ∧ nm = "java/lang/IllegalArgumentException"))) ∧ covers x pc = true ∧ x.catchType ≠ 0 ∧ Cond.classLink M.1.cls x.catchType name ∈ pnG ∧ Cond.castable E name ∈ pnN ∧ x.handlerPc = hp
theorem pn_afterC {M : pnM} {adK : Nat → Nat} {d : Nat} {Q Q' : pnR → List pnE → Prop} {bc bs bc' bs' mc' ms' : Nat} {h hc : List pnE} {I : List Nat} {L : List (Option Value)} {st : List Value} {pc : Nat} {p : Program} {l : Launch} {e : Env} {R : Room} {s : State} {m : MethodId} {args : Array Value} {below : List Frame} {meth : Method} {c : Code} {D : va_G} {τ : Nat → ClassId} {A : Nat → Prop} {b0 : Nat} {adV : Nat → Nat} {mc ms n0 : Nat} {σ0 σ : Nat → Nat} {mv0 : Nat → Bool} {H : Heap} {locs : List Loc} {cells slots : Nat} {ls : Array Slot} {st0 : List Value} {a9 : Array Value}
    (ok : pnOk M adK adV d mc ms p l R s m args meth c D τ A b0) (w : pnIn M.2.2.1 D τ A s.heap n0 σ0 σ mv0 mc ms bc bs h L st H locs cells slots ls) (hs : pnSel h I hc) (hmv : pnFree h L st I hc) (hbc : bc' + mc' ≤ bc) (hbs : bs' + ms' ≤ bs)
    (hr : vx_Run p l e R s m args below meth c H locs cells slots mc' ms' (F0 m pc ls st0) (st.map (pnV σ)) (pnQc Q' D τ (va_A (pnW τ (fun k => σ (I.getD k 0)) hc) H.size) hc.length (fun k => σ (I.getD k 0)) (pnAt5 hc) a9) (pnXC Q' D τ (va_A (pnW τ (fun k => σ (I.getD k 0)) hc) H.size) hc.length (fun k => σ (I.getD k 0)) (pnAt5 hc)) (va_A (pnW τ (fun k => σ (I.getD k 0)) hc) H.size))
    (kr : ∀ r h', Q' (.inl r) h' → hc.length ≤ h'.length → pnWP M adK d Q bc' bs' (pnBack h I h') L (pnRes (pnJ I h.length h'.length) r ++ st) (pc + 3))
    (kx : ∀ E h', Q' (.inr E) h' → hc.length ≤ h'.length → ∃ hp, pnHan M pc E hp ∧ ∀ q, pnWP M adK d Q bc' bs' (pnBack h I h') L [.retAddr q] hp) :
    W p l e R s m args below meth c H locs cells slots (vx_MQ below (pnQc Q D τ A n0 σ0 mv0) (pnXC Q D τ A n0 σ0 mv0) args s mc ms A) (F0 m pc ls st0) := by
  have ok2 := ok
  obtain ⟨hx, hb, hr0, hml, hown, hts, hlk, hnm, htab, hK, hA, hAb, hb0, hLow, hst, hfr, hlo, hRc, hRs⟩ := ok2
  obtain ⟨w1, w2, w3, w4, w5, w6, w7, w8, w9, w10, w11⟩ := w
  have hA2 : ∀ q, H.size ≤ q → A q := fun q hq => hA q (Nat.le_trans w3.1 hq)
  have hAA : ∀ q, va_A (pnW τ (fun k => σ (I.getD k 0)) hc) H.size q → A q := fun q hq => by
    rcases hq with ⟨k, e9, h9⟩ | h9
    · obtain ⟨c, g1, g2⟩ := pnW_of h9
      cases g2
      have := w2.2 _ _ (pnW_at (τ := τ) (σ := σ) (hs.2.2 k c g1))
      exact this
    · exact hA2 q h9
  intro T hT X
  rcases hr T hT X with ⟨v, st₀, t, T', L9, h0, X', hL, e1, e2, ⟨r, h', σ', hv, hQ', c1, c2, c3, c4, c5, c6, hF⟩, st9⟩ | ⟨q, st₀, t, T', L9, E, ce, h0, X', hL, e1, e2, ⟨h', σ', hQ', c1, c2, c3, c4, c5, c6, hF⟩, hce, hcv, hcl, st9⟩
  · obtain ⟨k1, k2, k3⟩ := vx_keep h0 e1 w3 (fun q _ => hAA q) hAA hL hF
    rw [← e1] at c5
    obtain ⟨σn, g1, g2, g3, g4, g45, g5, g6, g7⟩ := pn_join w1 w2 w4 w5 w6 hs hmv hA2 c1 c3 c4 c5 c6 k2
    have gL : ∀ i x, pnGet L i = some x → pnV σn x = pnV σ x := fun i x e9 => pnV_eqP g1 (pnRV'_and (pnCV_R (w7 i x e9)) (hmv.2.1 i x e9))
    have gS : st.map (pnV σn) = st.map (pnV σ) := List.map_congr_left (fun x e9 => pnV_eqP g1 (pnRV'_and (pnCV_R (w8 x e9)) (hmv.2.2 x e9)))
    have hv9 : v = r.map (pnV σ') := by cases hv; rfl
    subst hv9
    have k9 := kr r h' hQ' c3 p l e R s m args below meth c D τ A b0 adV mc ms n0 σ0 σn mv0 T'.heap (locs ++ L9) (cells + mc') (slots + ms') ls ok
      ⟨g6, g7, k3, by omega, g45, g5, w7.mono g4, by
        intro x hx9
        rcases List.mem_append.mp hx9 with h9 | h9
        · cases r with
          | none => cases h9
          | some v0 =>
            rw [List.mem_singleton.mp h9]
            exact pnCV_RV g3 (c2 v0 rfl)
        · exact (w8 x h9).mono g4, w9.sub (fun _ _ e9 => e9) gL, by omega, by omega⟩
    have es : (pnRes (pnJ I h.length h'.length) r ++ st).map (pnV σn) = (r.map (pnV σ')).toList ++ st.map (pnV σ) := by
      rw [List.map_append, gS]
      congr 1
      cases r with
      | none => rfl
      | some v0 =>
        show [pnV σn (pnRV _ v0)] = [pnV σ' v0]
        rw [pnV_RV, pnV_eq g2 (c2 v0 rfl)]
    rw [es] at k9
    obtain ⟨t2, a1, b1⟩ := k9 T' rfl X'
    exact ⟨t2, st9 t2 a1, b1⟩
  · obtain ⟨k1, k2, k3⟩ := vx_keep h0 e1 w3 (fun q _ => hAA q) hAA hL hF
    rw [← e1] at c5
    obtain ⟨σn, g1, g2, g3, g4, g45, g5, g6, g7⟩ := pn_join w1 w2 w4 w5 w6 hs hmv hA2 c1 c3 c4 c5 c6 k2
    have gL : ∀ i x, pnGet L i = some x → pnV σn x = pnV σ x := fun i x e9 => pnV_eqP g1 (pnRV'_and (pnCV_R (w7 i x e9)) (hmv.2.1 i x e9))
    obtain ⟨hp, ⟨pre, suf, x, name, t1, t2, t3, t4, t5, t6, t7⟩, kq⟩ := kx E h' hQ' c3
    have k9 := kq q p l e R s m args below meth c D τ A b0 adV mc ms n0 σ0 σn mv0 T'.heap (locs ++ L9) (cells + mc') (slots + ms') ls ok
      ⟨g6, g7, k3, by omega, g45, g5, w7.mono g4, (fun v hv => by rw [List.mem_singleton.mp hv]; trivial), w9.sub (fun _ _ e9 => e9) gL, by omega, by omega⟩
    subst t7
    have k10 := vx_catch (p := p) (l := l) (e := e) (R := R) (below := below) (ls := ls) (rest := st.map (pnV σ)) (args := args) (m := m) (pc := pc) (H := T'.heap) (locs := locs ++ L9) (cells := cells + mc') (slots := slots + ms') (own := M.1.cls) (name := name) (E := E) (q := q) (ce := ce) (s := s) (meth := meth) (Q := vx_MQ below (pnQc Q D τ A n0 σ0 mv0) (pnXC Q D τ A n0 σ0 mv0) args s mc ms A) hown pre x suf (by have : c.exceptionTable.toList = tableOf M.2.2.2.2 := htab; rw [this]; exact t1) (fun z hz => by
        obtain ⟨z1, nm, z2, z3⟩ := t2 z hz
        refine Or.inr ⟨z1, nm, hts _ z2, ?_⟩
        rcases z3 with ⟨z3, z4⟩ | ⟨z3, z4⟩
        · rw [z3, z4]; exact hLow.2.2.2.2.2.2.2.2.1
        · rw [z3, z4]; exact hLow.2.2.2.2.2.2.2.2.2) t3 t4 (hts _ t5) (va_Nw.use rfl (hLow.2.2.2.2.1 _ t6)) (by rw [e1]; exact hce) hcv hcl k9
    obtain ⟨t2, a1, b1⟩ := k10 T' rfl X'
    exact ⟨t2, st9.trans a1, b1⟩
theorem pn_callVC {M M9 : pnM} {adK : Nat → Nat} {d d9 : Nat} {Q Q9 : pnR → List pnE → Prop} {bc bs bc9 bs9 mc9 ms9 : Nat} {h hc : List pnE} {I : List Nat} {L : List (Option Value)} {st st0 av : List Value} {pc index n : Nat} {k0 : Nat} {ci : Nat} {fs : List Value} (hC : pnCt M9 adK d9 mc9 ms9 (.ref k0 :: av) hc Q9) (lk : pnLkV M.1.cls index M9 n) (hd : decode M.2.1 pc = .ok (.invokevirtual index, 3)) (hn : av.length = n) (hs : pnSel h I hc) (hmv : pnFree h L st I hc) (hk0 : hc[k0]? = some (.inr (ci, fs))) (hci : (vwCl[ci]?).map (fun x => x.1) = some M9.1.cls) (hstk : st0 = (av.map (pnRV I)).reverse ++ .ref (I.getD k0 0) :: st) (hdd : d9 + 1 ≤ d) (hbc : bc9 + mc9 ≤ bc) (hbs : bs9 + ms9 ≤ bs) (hw8 : (st.map fun v => v.category).sum ≤ 8)
    (kr : ∀ r h', Q9 (.inl r) h' → hc.length ≤ h'.length → pnWP M adK d Q bc9 bs9 (pnBack h I h') L (pnRes (pnJ I h.length h'.length) r ++ st) (pc + 3)) (kx : ∀ E h', Q9 (.inr E) h' → hc.length ≤ h'.length → ∃ hp, pnHan M pc E hp ∧ ∀ q, pnWP M adK d Q bc9 bs9 (pnBack h I h') L [.retAddr q] hp) : pnWP M adK d Q bc bs h L st0 pc := by
  intro p l e R s m args below meth c D τ A b0 adV mc ms n0 σ0 σ mv0 H locs cells slots ls ok w
  have ok2 := ok
  obtain ⟨hx, hb, hr, hml, hown, hts, hlk, hnm, htab, hK, hA, hAb, hb0, hLow, hst, hfr, hlo, hRc, hRs⟩ := ok2
  obtain ⟨w1, w2, w3, w4, w5, w6, w7, w8, w9, w10, w11⟩ := w
  obtain ⟨⟨l1, l2, l3, l4, l5⟩, l6, l7, l8⟩ := lk
  obtain ⟨hP9, hD9⟩ := pn_cut w1 w2 hs hAb
  have hpay : ∀ U : State, U.heap = H → s.WarmedH U.vm → va_Pc ((.ref k0 :: av).map (pnV (fun k => σ (I.getD k 0)))) (pnB adK adV D τ b0 H.size (fun k => σ (I.getD k 0)) hc) ((.ref k0 :: av).map (pnV (fun k => σ (I.getD k 0)))).toArray U := fun U hU hW =>
    ⟨rfl, by rw [hU], by rw [hU]; exact hP9, va_K.moved hW.alike hK, hD9, Nat.le_trans hb0 w3.1, by rw [hU]; exact pnLow.warm hW (fun q h1 h2 => w3.2.1 q h1 (fun h3 => h2 (hAb q h3))) hLow⟩
  have hlocals : 8 + (M9.2.2.1 + 11) + 64 * d9 ≤ R.locals := by omega
  obtain ⟨hG, hWs⟩ := pnWs_good l3 l2
  subst hstk
  have w8r : pnCS h.length st := fun x hx9 => w8 x (List.mem_append_right _ (List.mem_cons_of_mem _ hx9))
  have hroom : 2 * (F0 m pc ls (st.map (pnV σ))).monitorRoom + ((st.map (pnV σ)).map fun v => v.category).sum ≤ 8 := lv_room (by rw [pnCatSum]; exact hw8)
  refine pn_afterC (a9 := (List.map (pnV (fun k => σ (I.getD k 0))) (.ref k0 :: av)).toArray) ok ⟨w1, w2, w3, w4, w5, w6, w7, w8r, w9, w10, w11⟩ hs hmv hbc hbs ?_ kr kx
  refine vx_runV (As := av.map (pnV (fun k => σ (I.getD k 0)))) (rest := st.map (pnV σ)) ⟨hx, hb, hml, hown, hts⟩ (hC l D τ adV b0 H.size (fun k => σ (I.getD k 0)) hst) ⟨callB_of n hts hG hWs rfl rfl (hts _ l1) (hts _ l6) l4 ⟨Nat.le_trans hdd hfr, hlocals⟩, hts _ l7, hts _ l8⟩ ⟨pnB_blind, ?_, hpay⟩ rfl (by rw [List.length_map]; exact hn) w9.1 (by show List.map (pnV σ) _ = _; rw [pnStk]; rfl) hroom hd ⟨by omega, by omega⟩
  obtain ⟨x, hx9, hx8⟩ : ∃ x, vwCl[ci]? = some x ∧ x.1 = M9.1.cls := by
    cases hv : vwCl[ci]? with
    | none => rw [hv] at hci; cases hci
    | some x => rw [hv] at hci; exact ⟨x, rfl, Option.some.inj hci⟩
  have := va_recv hK hP9 hx9 (q0 := k0) (pnW_at hk0)
  rw [hx8] at this
  exact this
/-! a contract of a method that never throws -/
def pnMt (M : pnM) (adK : Nat → Nat) (d mc ms : Nat) (av : List Value) (h0 : List pnE) (Q : pnR → List pnE → Prop) : Prop :=
  ∀ (l : Launch) (D : va_G) (τ : Nat → ClassId) (adV : Nat → Nat) (b0 sz : Nat) (σ0 : Nat → Nat), l.stackTraces = false →
    Met l M.1 (pnWs M) (pnRoom d mc ms) (va_Pc (av.map (pnV σ0)) (pnB adK adV D τ b0 sz σ0 h0)) (pnQc Q D τ (va_A (pnW τ σ0 h0) sz) h0.length σ0 (pnAt5 h0)) mc ms (va_A (pnW τ σ0 h0) sz)
theorem pn_Wm {p : Program} {l : Launch} {e : Env} {R : Room} {s : State} {m : MethodId} {args : Array Value} {below : List Frame} {meth : Method} {c : Code} {H : Heap} {locs : List Loc} {cells slots : Nat} {Q1 Q2 : State → Prop} {g : JFrame} (f : ∀ t, Q1 t → Q2 t) (k : W p l e R s m args below meth c H locs cells slots Q1 g) : W p l e R s m args below meth c H locs cells slots Q2 g := fun T hT X => by
  obtain ⟨t, a, b⟩ := k T hT X
  exact ⟨t, a, f t b⟩
theorem pnWs_H {y : MethodName} {cc : ByteArray} {nL : Nat} {ret : Option FieldType} {hh : List (Nat × Nat × Nat × Nat)} (hne : hh ≠ []) : pnWs (y, cc, nL, ret, hh) = Cond.codeWith y cc nL ret hh :: pnG := by
  cases hh with
  | nil => exact absurd rfl hne
  | cons a t => rfl
theorem pnMt_of {y : MethodName} {cc : ByteArray} {nL : Nat} {ret : Option FieldType} {hh : List (Nat × Nat × Nat × Nat)} {adK : Nat → Nat} {d mc ms : Nat} {av : List Value} {h0 : List pnE} {Q : pnR → List pnE → Prop} (hne : hh ≠ []) (hy : plainName y.cls = true) (hlen : (lg_sl av).length ≤ nL) (h6 : h0.all (fun c => !pnIs6 c) = true) (hcl : pnCH h0) (hca : pnCS h0.length av) (hQ : ∀ E h', ¬ Q (.inr E) h')
    (k : pnWP (y, cc, nL, ret, hh) adK d Q mc ms h0 (pnArgs av) [] 0) : pnMt (y, cc, nL, ret, hh) adK d mc ms av h0 Q := by
  intro l D τ adV b0 sz σ0 hl
  refine va_MetW (cc := cc) (maxL := nL) (ret := ret) (hh := hh) hy (pnWs_H hne) ?_
  intro p e s m args below meth c s₁ B hml hv
  obtain ⟨rfl, hsz, hP, hK, hD0, hb0, hLow⟩ := hv
  have hts0 := atoms_spec (ws := pnWs (y, cc, nL, ret, hh)) B.pre
  have hts : ∀ w ∈ pnG, w.before _ s = true := fun w hw => hts0 w (by rw [pnWs_H hne]; exact List.mem_cons_of_mem _ hw)
  have hown : s.vm.findClass y.cls = some m.cls := findClass_of_methodNamed B.named
  have htab : c.exceptionTable.toList = tableOf hh := vx_table (x := y) B (hts0 _ (by rw [pnWs_H hne]; exact List.mem_cons_self))
  subst hsz
  have hD := hD0.self (sz := s.heap.size)
  rw [lg_entry_eq]
  have hl0 := lv_entry (av.map (pnV σ0)) (n := nL) (by rw [pnSl_len]; exact hlen)
  refine pn_Wm (Q1 := vx_MQ below (pnQc Q D τ (va_A (pnW τ σ0 h0) s.heap.size) h0.length σ0 (pnAt5 h0)) (pnXC Q D τ (va_A (pnW τ σ0 h0) s.heap.size) h0.length σ0 (pnAt5 h0)) _ s mc ms (va_A (pnW τ σ0 h0) s.heap.size)) (fun t ht => ?_) (k p l e (headSpec _ _).room s m _ below meth c D τ (va_A (pnW τ σ0 h0) s.heap.size) b0 adV mc ms h0.length σ0 σ0 (pnAt5 h0) s.heap [] 0 0 _ ?_ ?_)
  · obtain ⟨o, b1, b2, b3⟩ := ht
    rcases b3 with b3 | ⟨q, -, E, ce, L9, ⟨h', σ', hq, -⟩, -⟩
    · exact ⟨o, b1, b2, b3.1, b3.2⟩
    · exact absurd hq (hQ E h')
  · refine ⟨B.exec, B.bytes, B.returns, hml, hown, hts, B.notSynchronized, (name_of_methodNamed B.named B.method).1, htab, hK, fun q h => Or.inr h, ?_, hb0, hLow, hl, Nat.le_refl _, Nat.le_refl _, rfl, rfl⟩
    intro q hq
    rcases hq with ⟨k9, e9, h9⟩ | h9
    · exact hD0.2 k9 _ h9
    · exact Nat.le_trans hb0 h9
  · refine ⟨hP, hD, va_S.rf, Nat.le_refl _, fun k _ => ⟨Or.inl rfl, fun e => e, pnAt6_none h6 k⟩, hcl, ?_, fun v hv => (nomatch hv), ?_, by omega, by omega⟩
    · exact pnArgs_cl hca
    · refine pnLs.of hl0 (fun i v e9 => ?_)
      have := pnArgs_in (σ := σ0) av 0 i v e9
      rw [Nat.zero_add] at this
      exact this
def pnLkSW (own : String) (index : Nat) (M' : pnM) (n : Nat) : Prop := Cond.initialized M'.1.cls ∈ pnG ∧ Cond.codeWith M'.1 M'.2.1 M'.2.2.1 M'.2.2.2.1 M'.2.2.2.2 ∈ pnG ∧ M'.2.2.2.2 ≠ [] ∧ (M'.1.cls ≠ "java/lang/invoke/MethodHandle" ∧ M'.1.cls ≠ "java/lang/invoke/VarHandle" ∧ (parseMethodDescriptor M'.1.desc).map (fun d => d.parameters.length) = some n) ∧ M'.2.2.1 ≤ 40 ∧ Cond.methodLink own index M'.1 ∈ pnG ∧ Cond.static M'.1 ∈ pnG
theorem pn_callSW {M : pnM} {y9 : MethodName} {c9 : ByteArray} {nL9 : Nat} {ret9 : Option FieldType} {hh9 : List (Nat × Nat × Nat × Nat)} {adK : Nat → Nat} {d d9 : Nat} {Q Q9 : pnR → List pnE → Prop} {bc bs bc9 bs9 mc9 ms9 : Nat} {h hc : List pnE} {I : List Nat} {L : List (Option Value)} {st st0 av : List Value} {pc index n : Nat} (hC : pnMt (y9, c9, nL9, ret9, hh9) adK d9 mc9 ms9 av hc Q9) (lk : pnLkSW M.1.cls index (y9, c9, nL9, ret9, hh9) n) (hd : decode M.2.1 pc = .ok (.invokestatic index, 3)) (hn : av.length = n) (hs : pnSel h I hc) (hmv : pnFree h L st I hc) (hstk : st0 = (av.map (pnRV I)).reverse ++ st) (hdd : d9 + 1 ≤ d) (hbc : bc9 + mc9 ≤ bc) (hbs : bs9 + ms9 ≤ bs) (hw8 : (st.map fun v => v.category).sum ≤ 8) (hno : ∀ E h', ¬ Q9 (.inr E) h')
    (kr : ∀ r h', Q9 (.inl r) h' → hc.length ≤ h'.length → pnWP M adK d Q bc9 bs9 (pnBack h I h') L (pnRes (pnJ I h.length h'.length) r ++ st) (pc + 3)) : pnWP M adK d Q bc bs h L st0 pc := by
  intro p l e R s m args below meth c D τ A b0 adV mc ms n0 σ0 σ mv0 H locs cells slots ls ok w
  have ok2 := ok
  obtain ⟨hx, hb, hr, hml, hown, hts, hlk, hnm, htab, hK, hA, hAb, hb0, hLow, hst, hfr, hlo, hRc, hRs⟩ := ok2
  obtain ⟨w1, w2, w3, w4, w5, w6, w7, w8, w9, w10, w11⟩ := w
  obtain ⟨l1, l2, l3, l4, l5, l6, l7⟩ := lk
  obtain ⟨hP9, hD9⟩ := pn_cut w1 w2 hs hAb
  have hpay : ∀ U : State, U.heap = H → s.WarmedH U.vm → va_Pc (av.map (pnV (fun k => σ (I.getD k 0)))) (pnB adK adV D τ b0 H.size (fun k => σ (I.getD k 0)) hc) (av.map (pnV (fun k => σ (I.getD k 0)))).toArray U := fun U hU hW =>
    ⟨rfl, by rw [hU], by rw [hU]; exact hP9, va_K.moved hW.alike hK, hD9, Nat.le_trans hb0 w3.1, by rw [hU]; exact pnLow.warm hW (fun q h1 h2 => w3.2.1 q h1 (fun h3 => h2 (hAb q h3))) hLow⟩
  have l5 : nL9 ≤ 40 := l5
  have hlocals : 8 + (nL9 + 11) + 64 * d9 ≤ R.locals := by omega
  have hWs := pnWs_H (y := y9) (cc := c9) (nL := nL9) (ret := ret9) l3
  have hG : GoodIn pnG (va_wsS M.1.cls index y9 (pnWs (y9, c9, nL9, ret9, hh9))) := by
    intro w hw
    have hm : w ∈ pnG := by
      unfold va_wsS at hw
      rw [hWs] at hw
      simp only [List.cons_append, List.nil_append, List.mem_cons] at hw
      rcases hw with h9 | h9 | h9 | h9 | h9
      · rw [h9]; exact l6
      · rw [h9]; exact l7
      · rw [h9]; exact l1
      · rw [h9]; exact l2
      · exact h9
    exact ⟨hm, good_of_word (List.mem_filter.mp hm).2⟩
  subst hstk
  have w8r : pnCS h.length st := fun x hx9 => w8 x (List.mem_append_right _ hx9)
  have hroom : 2 * (F0 m pc ls (st.map (pnV σ))).monitorRoom + ((st.map (pnV σ)).map fun v => v.category).sum ≤ 8 := lv_room (by rw [pnCatSum]; exact hw8)
  have cw : vx_CSW R s args M.1.cls index y9 c9 nL9 ret9 hh9 (pnWs (y9, c9, nL9, ret9, hh9)) (pnRoom d9 mc9 ms9) mc9 ms9 n := vx_cwSW n hts hG hWs rfl rfl l4 ⟨Nat.le_trans hdd hfr, hlocals⟩
  have run := vx_runSW (As := av.map (pnV (fun k => σ (I.getD k 0)))) (rest := st.map (pnV σ)) (p := p) (l := l) (e := e) (R := R) (s := s) (m := m) (args := args) (below := below) (meth := meth) (c := c) (H := H) (locs := locs) (cells := cells) (slots := slots) (g := F0 m pc ls (((av.map (pnRV I)).reverse ++ st).map (pnV σ))) ⟨hx, hb, hml, hown, hts⟩ (hC l D τ adV b0 H.size (fun k => σ (I.getD k 0)) hst) cw ⟨pnB_blind, hpay⟩ rfl (by rw [List.length_map]; exact hn) w9.1 (by show List.map (pnV σ) _ = _; rw [pnStk]) hroom hd ⟨by omega, by omega⟩
  exact pn_after (a9 := (List.map (pnV (fun k => σ (I.getD k 0))) av).toArray) ok ⟨w1, w2, w3, w4, w5, w6, w7, w8r, w9, w10, w11⟩ hs hmv hbc hbs (fun T hT X => Or.inl (run T hT X)) kr (fun E h' hq _ => absurd hq (hno E h'))
/-! the script lies below -/
theorem pn_sld {M : pnM} {adK : Nat → Nat} {d : Nat} {Q : pnR → List pnE → Prop} {bc bs : Nat} {h : List pnE} {L : List (Option Value)} {st : List Value} {pc q j : Nat} (hd : decode M.2.1 pc = .ok (.iaload, 1)) (hq : pc + 1 = q) (hj : j < adK 2001) (hn : adK 2001 ≤ 3072) (kk : pnWP M adK d Q bc bs h L (.int (nI (adK (3000 + j))) :: st) q) : pnWP M adK d Q bc bs h L (.int (nI j) :: .retAddr (adK 2000) :: st) pc := by
  subst hq
  intro p l e R s m args below meth c D τ A b0 adV mc ms n0 σ0 σ mv0 H locs cells slots ls ok w
  have ok2 := ok
  obtain ⟨hx, hb, hr, hml, hown, hts, hlk, hnm, htab, hK, hA, hAb, hb0, hLow, hst, hfr, hlo, hRc, hRs⟩ := ok2
  obtain ⟨w1, w2, w3, w4, w5, w6, w7, w8, w9, w10, w11⟩ := w
  obtain ⟨x1, x2, -⟩ := hLow.2.2.2.2.2.2
  have hlt : adK 2000 < s.heap.size := by omega
  have e9 : (nI j).toNatClampNeg = j := by
    show (nI j).toInt.toNat = j
    rw [nI_toInt (by omega)]; rfl
  refine va_sld hx hb x1 hlt (fun z => x2 (hAb _ z)) w3 (i := nI j) ?_ hd ?_
  · intro z
    rcases z with z | z
    · exact nI_pos (by omega) z
    · rw [e9] at z; omega
  · rw [e9]
    exact kk p l e R s m args below meth c D τ A b0 adV mc ms n0 σ0 σ mv0 H locs cells slots ls ok ⟨w1, w2, w3, w4, w5, w6, w7, fun v hv => by
      rcases List.mem_cons.mp hv with z | z
      · rw [z]; trivial
      · exact w8 v (List.mem_cons_of_mem _ (List.mem_cons_of_mem _ z)), w9, w10, w11⟩
theorem pn_slen {M : pnM} {adK : Nat → Nat} {d : Nat} {Q : pnR → List pnE → Prop} {bc bs : Nat} {h : List pnE} {L : List (Option Value)} {st : List Value} {pc q : Nat} (hd : decode M.2.1 pc = .ok (.arraylength, 1)) (hq : pc + 1 = q) (kk : pnWP M adK d Q bc bs h L (.int (nI (adK 2001)) :: st) q) : pnWP M adK d Q bc bs h L (.retAddr (adK 2000) :: st) pc := by
  subst hq
  intro p l e R s m args below meth c D τ A b0 adV mc ms n0 σ0 σ mv0 H locs cells slots ls ok w
  have ok2 := ok
  obtain ⟨hx, hb, hr, hml, hown, hts, hlk, hnm, htab, hK, hA, hAb, hb0, hLow, hst, hfr, hlo, hRc, hRs⟩ := ok2
  obtain ⟨w1, w2, w3, w4, w5, w6, w7, w8, w9, w10, w11⟩ := w
  obtain ⟨x1, x2, -⟩ := hLow.2.2.2.2.2.2
  have hlt : adK 2000 < s.heap.size := by omega
  refine va_slen hx hb x1 hlt (fun z => x2 (hAb _ z)) w3 hd ?_
  exact kk p l e R s m args below meth c D τ A b0 adV mc ms n0 σ0 σ mv0 H locs cells slots ls ok ⟨w1, w2, w3, w4, w5, w6, w7, fun v hv => by
      rcases List.mem_cons.mp hv with z | z
      · rw [z]; trivial
      · exact w8 v (List.mem_cons_of_mem _ z), w9, w10, w11⟩
