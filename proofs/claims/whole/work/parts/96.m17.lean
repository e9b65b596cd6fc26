/-! words, shapes, as the reference reads them -/
theorem pnStr_len2 : ∀ x ∈ pnStr, x.2.2.length ≤ 100 := by decide +kernel
theorem wdM_len {b : G1} : ∀ (w : List Char) (p : Nat), (∀ ch ∈ w, ch.toNat < 128) → p ≤ b.1 → wdM (byM b) p w = true → p + w.length ≤ b.1
  | [], p, _, hp, _ => by simpa using hp
  | ch :: t, p, hc, hp, hw => by
    have e : wdM (byM b) p (ch :: t) = (decide (byM b p = nI ch.toNat) && wdM (byM b) (p + 1) t) := rfl
    rw [e, Bool.and_eq_true] at hw
    have h1 := of_decide_eq_true hw.1
    have h2 : p < b.1 := by
      unfold byM at h1
      split at h1
      · assumption
      · exfalso
        have h3 := hc ch (List.mem_cons_self ..)
        have h4 := congrArg Int32.toInt h1
        rw [nI_toInt (by omega), show (-1 : Int32).toInt = -1 by decide] at h4
        omega
    have := wdM_len t (p + 1) (fun x hx => hc x (List.mem_cons_of_mem _ hx)) (by omega) hw.2
    simp only [List.length_cons]
    omega
def tkB (b : G1) (w : String) : Bool := decide (b.2.2.1 = 0) && takB b w.toList
def tkM (b : G1) (w : String) : G1 := if b.2.2.1 = 0 then takM b w.toList else b
theorem m_tk (adK : Nat → Nat) (d : Nat) (Y : MN) (P : Nat → MN) (a : G0) (b : G1) (c : G3) (e : G4) (f : G5) (g : G6) (h : G7) (j : Nat) (x : String × Nat × String) (hj : pnStr[j]? = some x) (hb : rdOk b) (hf4 : b.2.2.1 ≤ 4) : pnCt mX7_takes adK (d + 4) 0 0 [.ref 0, .retAddr (adK j)] (hM Y P a b c e f g h) (pnIs (.inl (some (.int (nB (tkB b x.2.2))))) (hM Y P a (tkM b x.2.2) c e f g h)) := by
  by_cases hf : b.2.2.1 = 0
  · unfold tkB tkM
    rw [decide_eq_true hf, if_pos hf, Bool.true_and]
    exact m_takes adK d Y P a b c e f g h j x hj (pnStr_len2 x (List.mem_of_getElem? hj)) (pnStr_at hj).2 hb hf
  · unfold tkB tkM
    rw [decide_eq_false hf, if_neg hf, Bool.false_and]
    exact m_takesX adK d Y P a b c e f g h j hf hf4
theorem rdOk_tk {b : G1} {j : Nat} {x : String × Nat × String} (hj : pnStr[j]? = some x) (hb : rdOk b) (hf4 : b.2.2.1 ≤ 4) : rdOk (tkM b x.2.2) ∧ (tkM b x.2.2).2.2.1 = b.2.2.1 ∧ (tkM b x.2.2).1 = b.1 ∧ (tkM b x.2.2).2.2.2 = b.2.2.2 := by
  have hp := tkP_le hb
  unfold tkM
  by_cases hf : b.2.2.1 = 0
  · rw [if_pos hf]
    unfold takM
    by_cases ht : takB b x.2.2.toList = true
    · rw [if_pos ht]
      unfold takB at ht
      rw [Bool.and_eq_true] at ht
      have := wdM_len x.2.2.toList (tkP b) (pnStr_ch x (List.mem_of_getElem? hj)) hp.2 ht.1
      exact ⟨rdOk_at hb this, rfl, rfl, rfl⟩
    · rw [if_neg ht]
      exact ⟨rdOk_at hb hp.2, rfl, rfl, rfl⟩
  · rw [if_neg hf]
    exact ⟨hb, rfl, rfl, rfl⟩
theorem m_num (adK : Nat → Nat) (d : Nat) (Y : MN) (P : Nat → MN) (a : G0) (b : G1) (c : G3) (e : G4) (f : G5) (g : G6) (h : G7) (lo hi : Nat) (but : Int32) (hlo : lo ≤ 1000) (hhi : hi ≤ 1000) (hb : rdOk b) (hf4 : b.2.2.1 ≤ 4) : pnCt mX7_number adK (d + 2) 0 0 [.ref 0, .int (nI lo), .int (nI hi), .int but] (hM Y P a b c e f g h) (pnIs (.inl (some (.int (nI (numM lo hi but b).1)))) (hM Y P a (numM lo hi but b).2 c e f g h)) := by
  by_cases hf : b.2.2.1 = 0
  · exact m_number adK d Y P a b c e f g h lo hi but hlo hhi hb hf
  · rw [show numM lo hi but b = (0, b) from if_neg hf]
    exact m_numberX adK d Y P a b c e f g h _ _ _ hf hf4
theorem num_keep {lo hi : Nat} {but : Int32} {b : G1} : (numM lo hi but b).2.1 = b.1 ∧ (numM lo hi but b).2.2.2.2.2 = b.2.2.2.2 := by
  have wr : ∀ (b : G1) (w : Nat) (p : Int32), (bWr b w p).1 = b.1 ∧ (bWr b w p).2.2.2.2 = b.2.2.2.2 := fun b w p => by
    unfold bWr
    split <;> exact ⟨rfl, rfl⟩
  unfold numM
  by_cases q1 : b.2.2.1 = 0
  · rw [if_pos q1]
    by_cases q2 : dgB (byM b (tkP b)) = true
    · rw [if_pos q2]
      by_cases q3 : (lo ≤ numV b ∧ numV b ≤ hi) ∧ nI (numV b) ≠ but
      · rw [if_pos q3]
        exact ⟨rfl, rfl⟩
      · rw [if_neg q3]
        exact wr _ _ _
    · rw [if_neg q2]
      exact wr _ _ _
  · rw [if_neg q1]
    exact ⟨rfl, rfl⟩
theorem wr_keep (b : G1) (w : Nat) (p : Int32) : (bWr b w p).1 = b.1 ∧ (bWr b w p).2.2.2.2 = b.2.2.2.2 := by
  unfold bWr
  split <;> exact ⟨rfl, rfl⟩
theorem rn_keep {most : Nat} : ∀ (z : Nat) (b : G1) (c : G3), rdOk b → b.2.2.1 ≤ 4 → c.2 + z = 6 → c.2 ≤ 5 → (rnM most z b c).1.1 = b.1 ∧ (rnM most z b c).1.2.2.2.2 = b.2.2.2.2 ∧ rdOk (rnM most z b c).1 ∧ (rnM most z b c).1.2.2.1 ≤ 4 ∧ (rnM most z b c).2.2 ≤ 5
  | 0, b, c, hb, h4, hz, hc => ⟨rfl, rfl, hb, h4, hc⟩
  | z + 1, b, c, hb, h4, hz, hc => by
    have hp := tkP_le hb
    have e0 : rnM most (z + 1) b c = if b.2.2.1 = 0 then (if c.2 = 0 ∨ dgB (byM b (tkP b)) = true then (if c.2 = 5 then (bWr (heB b) 1 (nI (tkP b)), c) else if (numM 0 most (-1) (if c.2 = 0 then b else heB b)).2.2.2.1 = 0 then rnM most z (numM 0 most (-1) (if c.2 = 0 then b else heB b)).2 (upd c.1 c.2 (nI (numM 0 most (-1) (if c.2 = 0 then b else heB b)).1), c.2 + 1) else ((numM 0 most (-1) (if c.2 = 0 then b else heB b)).2, c)) else (heB b, c)) else (b, c) := rfl
    rw [e0]
    by_cases q1 : b.2.2.1 = 0
    · rw [if_pos q1]
      by_cases q2 : c.2 = 0 ∨ dgB (byM b (tkP b)) = true
      · rw [if_pos q2]
        by_cases q3 : c.2 = 5
        · rw [if_pos q3]
          obtain ⟨w1, w2⟩ := wr_keep (heB b) 1 (nI (tkP b))
          exact ⟨w1, w2, rdOk_wr (rdOk_at hb hp.2), ft_wr (b := heB b) h4 (by omega), hc⟩
        · rw [if_neg q3]
          have hB : ∃ b0 : G1, (if c.2 = 0 then b else heB b) = b0 ∧ rdOk b0 ∧ b0.2.2.1 ≤ 4 ∧ b0.1 = b.1 ∧ b0.2.2.2.2 = b.2.2.2.2 := by
            by_cases q : c.2 = 0
            · exact ⟨b, if_pos q, hb, h4, rfl, rfl⟩
            · exact ⟨heB b, if_neg q, rdOk_at hb hp.2, h4, rfl, rfl⟩
          obtain ⟨b0, e1, k1, k2, k3, k4⟩ := hB
          rw [e1]
          obtain ⟨r1, r2, r3⟩ := rdOk_num (lo := 0) (hi := most) (but := -1) k1 k2
          obtain ⟨s1, s2⟩ := num_keep (lo := 0) (hi := most) (but := -1) (b := b0)
          generalize numM 0 most (-1) b0 = r at *
          by_cases q4 : r.2.2.2.1 = 0
          · rw [if_pos q4]
            obtain ⟨u1, u2, u3, u4, u5⟩ := rn_keep (most := most) z r.2 (upd c.1 c.2 (nI r.1), c.2 + 1) r1 r2 (by show c.2 + 1 + z = 6; omega) (by show c.2 + 1 ≤ 5; omega)
            exact ⟨by rw [u1, s1, k3], by rw [u2, s2, k4], u3, u4, u5⟩
          · rw [if_neg q4]
            exact ⟨by rw [← k3]; exact s1, by rw [← k4]; exact s2, r1, r2, hc⟩
      · rw [if_neg q2]
        exact ⟨rfl, rfl, rdOk_at hb hp.2, h4, hc⟩
    · rw [if_neg q1]
      exact ⟨rfl, rfl, hb, h4, hc⟩
