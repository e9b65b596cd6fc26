/-! ===== what is remembered: the class's ring against the reference's rows ===== -/
def acR (E : NS → MN → Prop) (A : AS) (P : Nat → MN) (k : Nat) : Prop := A.1 = k ∧ k ≤ 8 ∧ A.2.1 < 8 ∧ ∀ i, i < k → E (A.2.2 ((A.2.1 + 8 - k + i) % 8)) (P i)
theorem acR_keep {E : NS → MN → Prop} {A : AS} {P : Nat → MN} {k : Nat} {N : NS} {Y : MN} (h : acR E A P k) (hE : ∀ f, E (nsB N f) Y) : acR E (keA A N) (keP P Y k) (min (k + 1) 8) := by
  obtain ⟨h1, h2, h3, h4⟩ := h
  have e1 : (keA A N).1 = min (A.1 + 1) 8 := rfl
  have e2 : (keA A N).2.1 = (A.2.1 + 1) % 8 := rfl
  have e3 : ∀ j, (keA A N).2.2 j = if j = A.2.1 then nsB N (nsF (A.2.2 A.2.1)) else A.2.2 j := fun j => rfl
  refine ⟨by rw [e1, h1], by omega, by rw [e2]; omega, fun i hi => ?_⟩
  rw [e2, e3]
  by_cases q : k = 8
  · have ek : keP P Y k = (fun j => if j = 7 then Y else P (j + 1)) := if_pos q
    rw [ek]
    dsimp only
    have hm : min (k + 1) 8 = 8 := by omega
    rw [hm]
    by_cases qi : i = 7
    · rw [if_pos qi, if_pos (by omega)]
      exact hE _
    · rw [if_neg qi, if_neg (by omega)]
      have := h4 (i + 1) (by omega)
      rw [show (A.2.1 + 8 - k + (i + 1)) % 8 = ((A.2.1 + 1) % 8 + 8 - 8 + i) % 8 by omega] at this
      exact this
  · have ek : keP P Y k = upP P k Y := if_neg q
    rw [ek]
    have hm : min (k + 1) 8 = k + 1 := by omega
    rw [hm]
    unfold upP
    by_cases qi : i = k
    · rw [if_pos qi, if_pos (by omega)]
      exact hE _
    · rw [if_neg qi, if_neg (by omega)]
      have := h4 i (by omega)
      rw [show (A.2.1 + 8 - k + i) % 8 = ((A.2.1 + 1) % 8 + 8 - (k + 1) + i) % 8 by omega] at this
      exact this
theorem acR_back {E : NS → MN → Prop} {A : AS} {P : Nat → MN} {k : Nat} (h : acR E A P k) (hk : 0 < k) : acR E (A.1 - 1, (A.2.1 + 7) % 8, A.2.2) P (k - 1) ∧ E (A.2.2 ((A.2.1 + 7) % 8)) (P (k - 1)) := by
  obtain ⟨h1, h2, h3, h4⟩ := h
  refine ⟨⟨by show A.1 - 1 = k - 1; omega, by omega, by show (A.2.1 + 7) % 8 < 8; omega, fun i hi => ?_⟩, ?_⟩
  · have := h4 i (by omega)
    rw [show (A.2.1 + 8 - k + i) % 8 = ((A.2.1 + 7) % 8 + 8 - (k - 1) + i) % 8 by omega] at this
    exact this
  · have := h4 (k - 1) (by omega)
    rw [show (A.2.1 + 8 - k + (k - 1)) % 8 = (A.2.1 + 7) % 8 by omega] at this
    exact this
