theorem pn_ofWF {l : Launch} {y : MethodName} {ws ws' : List Cond} {rm : Room} {Pc : Array Value → State → Prop} {Qc : Array Value → State → Outcome → State → Prop} {XC : String → State → State → Prop} {mc ms : Nat} {free : Addr → Prop} {cc : ByteArray} {maxL : Nat} {ret : Option FieldType}
    (hy : plainFor y = true) (hw : ws = Cond.code y cc maxL ret :: ws')
    (body : ∀ p e s m args below meth c s₁, BodyLoose p l y (headSpec ws rm) cc maxL ret e s m args below meth c s₁ → c.maxLocals = maxL → (∀ x ∈ c.exceptionTable.toList, False) → Pc args s →
      W p l e (headSpec ws rm).room s m args below meth c s.heap [] 0 0 (vx_MQ below Qc XC args s mc ms free) (entryFrame m args maxL)) : vx_Met l y ws rm Pc Qc XC mc ms free := by
  refine MetFree.of_bodySF (code := cc) (maxLocals := maxL) (ret := ret) hy ?_ ?_
  · intro args s m h hn
    obtain ⟨meth, c, h1, h2, h3, h4, h5, h6, -, -⟩ := Cond.code_spec hn (atoms_spec (ws := ws) h _ (by rw [hw]; exact List.mem_cons_self))
    exact ⟨meth, c, h1, h2, h3, h4, h5, h6⟩
  · intro p e s m args below meth c s₁ B hml hP _
    have hh0 : s₁.heap = s.heap := by rw [B.state]; rfl
    have ht : ∀ x ∈ c.exceptionTable.toList, False := by
      obtain ⟨meth9, c9, h1, h2, -, -, -, -, h7, -⟩ := Cond.code_spec B.named (atoms_spec (ws := ws) B.pre _ (by rw [hw]; exact List.mem_cons_self))
      cases Option.some.inj (h1.symm.trans B.method)
      cases Option.some.inj (h2.symm.trans (Stand.of_body B).code)
      intro x hx
      rw [Array.isEmpty_iff.mp h7] at hx
      cases hx
    obtain ⟨t, a1, o, b1, b2, b3⟩ := body p e s m args below meth c s₁ B hml ht hP s₁ hh0 (Stand.of_body B)
    exact ⟨t, o, a1, b1, b2, b3⟩
/-- .. of a method of a class some of whose methods are run by the machine itself -/
theorem pnCt_ofF {y : MethodName} {cc : ByteArray} {nL : Nat} {ret : Option FieldType} {adK : Nat → Nat} {d mc ms : Nat} {av : List Value} {h0 : List pnE} {Q : pnR → List pnE → Prop} (hy : plainFor y = true) (hin : Cond.code y cc nL ret ∈ pnG) (hlen : (lg_sl av).length ≤ nL) (h6 : h0.all (fun c => !pnIs6 c) = true) (hcl : pnCH h0) (hca : pnCS h0.length av)
    (k : pnWP (y, cc, nL, ret, []) adK d Q mc ms h0 (pnArgs av) [] 0) : pnCt (y, cc, nL, ret, []) adK d mc ms av h0 Q := by
  intro l D τ adV b0 sz σ0 hl
  refine pn_ofWF (cc := cc) (maxL := nL) (ret := ret) hy rfl ?_
  intro p e s m args below meth c s₁ B hml hht hv
  obtain ⟨rfl, hsz, hP, hK, hD0, hb0, hLow⟩ := hv
  have hts0 := atoms_spec (ws := pnWs (y, cc, nL, ret, [])) B.pre
  have hts : ∀ w ∈ pnG, w.before _ s = true := fun w hw => hts0 w (List.mem_cons_of_mem _ hw)
  have hown : s.vm.findClass y.cls = some m.cls := findClass_of_methodNamed B.named
  subst hsz
  have hD := hD0.self (sz := s.heap.size)
  rw [lg_entry_eq]
  have hl0 := lv_entry (av.map (pnV σ0)) (n := nL) (by
    rw [pnSl_len]; exact hlen)
  refine k p l e (headSpec _ _).room s m _ below meth c D τ (va_A (pnW τ σ0 h0) s.heap.size) b0 adV mc ms h0.length σ0 σ0 (pnAt5 h0) s.heap [] 0 0 _ ?_ ?_
  · refine ⟨B.exec, B.bytes, B.returns, hml, hown, hts, B.notSynchronized, (name_of_methodNamed B.named B.method).1, ?_, hK, fun q h => Or.inr h, ?_, hb0, hLow, hl, Nat.le_refl _, Nat.le_refl _, rfl, rfl⟩
    · show c.exceptionTable.toList = []
      cases hx : c.exceptionTable.toList with
      | nil => rfl
      | cons x t => exact (hht x (by rw [hx]; exact List.mem_cons_self)).elim
    · intro q hq
      rcases hq with ⟨k9, e9, h9⟩ | h9
      · exact hD0.2 k9 _ h9
      · exact Nat.le_trans hb0 h9
  · refine ⟨hP, hD, va_S.rf, Nat.le_refl _, fun k _ => ⟨Or.inl rfl, fun e => e, pnAt6_none h6 k⟩, hcl, ?_, fun v hv => (nomatch hv), ?_, by omega, by omega⟩
    · exact pnArgs_cl hca
    · refine pnLs.of hl0 (fun i v e9 => ?_)
      have := pnArgs_in (σ := σ0) av 0 i v e9
      rw [Nat.zero_add] at this
      exact this
theorem pnGet_take : ∀ (n : Nat) (L : List (Option Value)) (i : Nat) (v : Value), pnGet (L.take n) i = some v → pnGet L i = some v
  | 0, L, i, v, e => by rw [List.take_zero, pnGet_nil] at e; cases e
  | n + 1, [], i, v, e => by rw [List.take_nil, pnGet_nil] at e; cases e
  | n + 1, a :: t, 0, v, e => e
  | n + 1, a :: t, i + 1, v, e => pnGet_take n t i v e
/-- only the first n locals -/
theorem pn_take {M : pnM} {adK : Nat → Nat} {d : Nat} {Q : pnR → List pnE → Prop} {bc bs : Nat} {h : List pnE} {L : List (Option Value)} {st : List Value} {pc : Nat} (n : Nat) (k : pnWP M adK d Q bc bs h (L.take n) st pc) : pnWP M adK d Q bc bs h L st pc := by
  intro p l e R s m args below meth c D τ A b0 adV mc ms n0 σ0 σ mv0 H locs cells slots ls ok w
  obtain ⟨w1, w2, w3, w4, w5, w6, w7, w8, w9, w10⟩ := w
  exact k p l e R s m args below meth c D τ A b0 adV mc ms n0 σ0 σ mv0 H locs cells slots ls ok ⟨w1, w2, w3, w4, w5, w6, fun i v e9 => w7 i v (pnGet_take n L i v e9), w8, w9.sub (pnGet_take n L) (fun _ _ _ => rfl), w10⟩
