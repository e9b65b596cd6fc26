/-! ===== a contract over rows that stay is one over rows that may be laid anew ===== -/
def pnLike (h1 h5 : List pnE) : Prop := h1.length = h5.length ∧ ∀ (k : Nat) (c : pnE), h5[k]? = some c → h1[k]? = some c ∨ ∃ (n : Nat) (f : Nat → Int64), c = .inl (5, n, .inr (.inl f)) ∧ h1[k]? = some (.inl (1, n, .inr (.inl f)))
theorem pnLike_W {h1 h5 : List pnE} {τ : Nat → ClassId} (hL : pnLike h1 h5) (e15 : τ 1 = τ 5) (σ : Nat → Nat) : pnW τ σ h1 = pnW τ σ h5 := by
  apply List.ext_getElem?
  intro k
  rw [pnW_get, pnW_get]
  cases e5 : h5[k]? with
  | none =>
    have : h1[k]? = none := by
      rw [List.getElem?_eq_none_iff] at e5 ⊢
      have := hL.1
      omega
    rw [this]
  | some c =>
    rcases hL.2 k c e5 with q | ⟨n, f, q1, q2⟩
    · rw [q]
    · rw [q2, q1]
      show some (σ k, Sum.inl (τ 1, _)) = some (σ k, Sum.inl (τ 5, _))
      rw [e15]
theorem pnLike_CH {h1 h5 : List pnE} (hL : pnLike h1 h5) (hc : pnCH h1) : pnCH h5 := fun k c hk => by
  rcases hL.2 k c hk with q | ⟨n, f, q1, q2⟩
  · have := hc k c q
    rw [hL.1] at this
    exact this
  · rw [q1]
    trivial
theorem pnLike_6 {h1 h5 : List pnE} (hL : pnLike h1 h5) {k : Nat} (h : pnAt6 h1 k = false) : pnAt6 h5 k = false := by
  unfold pnAt6 at h ⊢
  cases e5 : h5[k]? with
  | none => rfl
  | some c =>
    rcases hL.2 k c e5 with q | ⟨n, f, q1, q2⟩
    · rw [q] at h; exact h
    · rw [q1]; rfl
theorem pnLike_5 {h1 h5 : List pnE} (hL : pnLike h1 h5) {k : Nat} (h : pnAt5 h1 k = true) : pnAt5 h5 k = true := by
  unfold pnAt5 at h ⊢
  cases e1 : h1[k]? with
  | none => rw [e1] at h; cases h
  | some c1 =>
    rw [e1] at h
    have hk : k < h5.length := by
      have := (List.getElem?_eq_some_iff.mp e1).1
      have := hL.1
      omega
    cases e5 : h5[k]? with
    | none => rw [List.getElem?_eq_none_iff] at e5; omega
    | some c =>
      rcases hL.2 k c e5 with q | ⟨n, f, q1, q2⟩
      · rw [e1] at q
        rw [← Option.some.inj q]
        exact h
      · rw [q1]; rfl
theorem pnCt_15 {M : pnM} {adK : Nat → Nat} {d mc ms : Nat} {av : List Value} {h1 h5 : List pnE} {Q1 Q5 : pnR → List pnE → Prop} (hC : pnCt M adK d mc ms av h1 Q1) (hL : pnLike h1 h5) (hQ : ∀ r h', Q1 r h' → ∃ h9, Q5 r h9 ∧ pnLike h' h9 ∧ ∀ k, pnAt5 h9 k = true → pnAt5 h5 k = true) : pnCt M adK d mc ms av h5 Q5 := by
  intro l D τ adV b0 sz σ0 hl p e ha f1 f2 s m args below hfr happ hP hK
  obtain ⟨q0, qsz, qP, qK, qD, qb, qL⟩ := hP
  have e15 : τ 1 = τ 5 := by
    have q1 := (qK.2 1 (τ 1, .long) rfl).2
    have q2 := (qK.2 5 (τ 5, .long) rfl).2
    exact Option.some.inj ((show s.vm.findClass _ = some (τ 1) from q1).symm.trans (show s.vm.findClass _ = some (τ 5) from q2))
  have eW := pnLike_W (τ := τ) hL e15 σ0
  have key := hC l D τ adV b0 sz σ0 hl p e ha f1 f2 s m args below hfr happ ⟨q0, qsz, by rw [eW]; exact qP, qK, by rw [eW]; exact qD, qb, qL⟩ hK
  obtain ⟨n, o, g1, g2, g3, g4⟩ := key
  rw [eW, hL.1] at g4
  have conv : ∀ (h' : List pnE) (r : pnR) (σ' : Nat → Nat) (v : Option Value) (st t : State), Q1 r h' → pnEnd D τ (va_A (pnW τ σ0 h5) sz) h5.length σ0 (pnAt5 h1) h' σ' v st t → ∃ h9, Q5 r h9 ∧ pnEnd D τ (va_A (pnW τ σ0 h5) sz) h5.length σ0 (pnAt5 h5) h9 σ' v st t := by
    intro h' r σ' v st t hq he
    obtain ⟨h9, k1, k2, k3⟩ := hQ r h' hq
    obtain ⟨p1, p2, p3, p4, p5, p6, p7⟩ := he
    have eW2 := pnLike_W (τ := τ) k2 e15 σ'
    refine ⟨h9, k1, pnLike_CH k2 p1, fun x hx => by have := p2 x hx; rw [k2.1] at this; exact this, by rw [← k2.1]; exact p3, fun k hk => ⟨?_, fun h => k3 k h, pnLike_6 k2 (p4 k hk).2.2⟩, by rw [← eW2]; exact p5, by rw [← eW2]; exact p6, p7⟩
    rcases (p4 k hk).1 with q | q
    · exact Or.inl q
    · exact Or.inr (pnLike_5 hL q)
  refine ⟨n, o, g1, g2, g3, ?_⟩
  rcases g4 with ⟨⟨r, h', σ', u1, u2, u3⟩, L, u4⟩ | ⟨q, u0, E, ce, L, ⟨h', σ', u1, u2⟩, u3⟩
  · obtain ⟨h9, k1, k2⟩ := conv h' _ σ' r _ _ u2 u3
    exact Or.inl ⟨⟨r, h9, σ', u1, k1, k2⟩, L, u4⟩
  · obtain ⟨h9, k1, k2⟩ := conv h' _ σ' none _ _ u1 u2
    exact Or.inr ⟨q, u0, E, ce, L, ⟨h9, σ', k1, k2⟩, u3⟩
