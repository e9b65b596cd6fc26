/-! words, shapes, as the reference reads them -/
theorem pnStr_len2 : ∀ x ∈ pnStr, x.2.2.length ≤ 100 := by decide +kernel
theorem wdM_len {b : G1} : ∀ (w : List Char) (p : Nat), (∀ ch ∈ w, ch.toNat < 128) → p ≤ b.1 → wdM (byM b) p w = true → p + w.length ≤ b.1
  | [], p, _, hp, _ => by simpa using hp
  | ch :: t, p, hc, hp, hw => by
    have e : wdM (byM b) p (ch :: t) = (decide (byM b p = nI ch.toNat) && wdM (byM b) (p + 1) t) := rfl
    rw [e, Bool.and_eq_true] at hw
    have h1 := of_decide_eq_true hw.1
    have h2 : p < b.1 := by
      unfold byM at h1
      split at h1
      · assumption
      · exfalso
        have h3 := hc ch (List.mem_cons_self ..)
        have h4 := congrArg Int32.toInt h1
        rw [nI_toInt (by omega), show (-1 : Int32).toInt = -1 by decide] at h4
        omega
    have := wdM_len t (p + 1) (fun x hx => hc x (List.mem_cons_of_mem _ hx)) (by omega) hw.2
    simp only [List.length_cons]
    omega
def tkB (b : G1) (w : String) : Bool := decide (b.2.2.1 = 0) && takB b w.toList
def tkM (b : G1) (w : String) : G1 := if b.2.2.1 = 0 then takM b w.toList else b
theorem m_tk (adK : Nat → Nat) (d : Nat) (Y : MN) (P : Nat → MN) (a : G0) (b : G1) (c : G3) (e : G4) (f : G5) (g : G6) (h : G7) (j : Nat) (x : String × Nat × String) (hj : pnStr[j]? = some x) (hb : rdOk b) (hf4 : b.2.2.1 ≤ 4) : pnCt mX7_takes adK (d + 4) 0 0 [.ref 0, .retAddr (adK j)] (hM Y P a b c e f g h) (pnIs (.inl (some (.int (nB (tkB b x.2.2))))) (hM Y P a (tkM b x.2.2) c e f g h)) := by
  by_cases hf : b.2.2.1 = 0
  · unfold tkB tkM
    rw [decide_eq_true hf, if_pos hf, Bool.true_and]
    exact m_takes adK d Y P a b c e f g h j x hj (pnStr_len2 x (List.mem_of_getElem? hj)) (pnStr_at hj).2 hb hf
  · unfold tkB tkM
    rw [decide_eq_false hf, if_neg hf, Bool.false_and]
    exact m_takesX adK d Y P a b c e f g h j hf hf4
theorem rdOk_tk {b : G1} {j : Nat} {x : String × Nat × String} (hj : pnStr[j]? = some x) (hb : rdOk b) (hf4 : b.2.2.1 ≤ 4) : rdOk (tkM b x.2.2) ∧ (tkM b x.2.2).2.2.1 = b.2.2.1 ∧ (tkM b x.2.2).1 = b.1 ∧ (tkM b x.2.2).2.2.2 = b.2.2.2 := by
  have hp := tkP_le hb
  unfold tkM
  by_cases hf : b.2.2.1 = 0
  · rw [if_pos hf]
    unfold takM
    by_cases ht : takB b x.2.2.toList = true
    · rw [if_pos ht]
      unfold takB at ht
      rw [Bool.and_eq_true] at ht
      have := wdM_len x.2.2.toList (tkP b) (pnStr_ch x (List.mem_of_getElem? hj)) hp.2 ht.1
      exact ⟨rdOk_at hb this, rfl, rfl, rfl⟩
    · rw [if_neg ht]
      exact ⟨rdOk_at hb hp.2, rfl, rfl, rfl⟩
  · rw [if_neg hf]
    exact ⟨hb, rfl, rfl, rfl⟩
theorem m_num (adK : Nat → Nat) (d : Nat) (Y : MN) (P : Nat → MN) (a : G0) (b : G1) (c : G3) (e : G4) (f : G5) (g : G6) (h : G7) (lo hi : Nat) (but : Int32) (hlo : lo ≤ 1000) (hhi : hi ≤ 1000) (hb : rdOk b) (hf4 : b.2.2.1 ≤ 4) : pnCt mX7_number adK (d + 2) 0 0 [.ref 0, .int (nI lo), .int (nI hi), .int but] (hM Y P a b c e f g h) (pnIs (.inl (some (.int (nI (numM lo hi but b).1)))) (hM Y P a (numM lo hi but b).2 c e f g h)) := by
  by_cases hf : b.2.2.1 = 0
  · exact m_number adK d Y P a b c e f g h lo hi but hlo hhi hb hf
  · rw [show numM lo hi but b = (0, b) from if_neg hf]
    exact m_numberX adK d Y P a b c e f g h _ _ _ hf hf4
theorem num_keep {lo hi : Nat} {but : Int32} {b : G1} : (numM lo hi but b).2.1 = b.1 ∧ (numM lo hi but b).2.2.2.2.2 = b.2.2.2.2 := by
  have wr : ∀ (b : G1) (w : Nat) (p : Int32), (bWr b w p).1 = b.1 ∧ (bWr b w p).2.2.2.2 = b.2.2.2.2 := fun b w p => by
    unfold bWr
    split <;> exact ⟨rfl, rfl⟩
  unfold numM
  by_cases q1 : b.2.2.1 = 0
  · rw [if_pos q1]
    by_cases q2 : dgB (byM b (tkP b)) = true
    · rw [if_pos q2]
      by_cases q3 : (lo ≤ numV b ∧ numV b ≤ hi) ∧ nI (numV b) ≠ but
      · rw [if_pos q3]
        exact ⟨rfl, rfl⟩
      · rw [if_neg q3]
        exact wr _ _ _
    · rw [if_neg q2]
      exact wr _ _ _
  · rw [if_neg q1]
    exact ⟨rfl, rfl⟩
theorem wr_keep (b : G1) (w : Nat) (p : Int32) : (bWr b w p).1 = b.1 ∧ (bWr b w p).2.2.2.2 = b.2.2.2.2 := by
  unfold bWr
  split <;> exact ⟨rfl, rfl⟩
theorem rn_keep {most : Nat} : ∀ (z : Nat) (b : G1) (c : G3), rdOk b → b.2.2.1 ≤ 4 → c.2 + z = 6 → c.2 ≤ 5 → (rnM most z b c).1.1 = b.1 ∧ (rnM most z b c).1.2.2.2.2 = b.2.2.2.2 ∧ rdOk (rnM most z b c).1 ∧ (rnM most z b c).1.2.2.1 ≤ 4 ∧ (rnM most z b c).2.2 ≤ 5
  | 0, b, c, hb, h4, hz, hc => ⟨rfl, rfl, hb, h4, hc⟩
  | z + 1, b, c, hb, h4, hz, hc => by
    have hp := tkP_le hb
    have e0 : rnM most (z + 1) b c = if b.2.2.1 = 0 then (if c.2 = 0 ∨ dgB (byM b (tkP b)) = true then (if c.2 = 5 then (bWr (heB b) 1 (nI (tkP b)), c) else if (numM 0 most (-1) (if c.2 = 0 then b else heB b)).2.2.2.1 = 0 then rnM most z (numM 0 most (-1) (if c.2 = 0 then b else heB b)).2 (upd c.1 c.2 (nI (numM 0 most (-1) (if c.2 = 0 then b else heB b)).1), c.2 + 1) else ((numM 0 most (-1) (if c.2 = 0 then b else heB b)).2, c)) else (heB b, c)) else (b, c) := rfl
    rw [e0]
    by_cases q1 : b.2.2.1 = 0
    · rw [if_pos q1]
      by_cases q2 : c.2 = 0 ∨ dgB (byM b (tkP b)) = true
      · rw [if_pos q2]
        by_cases q3 : c.2 = 5
        · rw [if_pos q3]
          obtain ⟨w1, w2⟩ := wr_keep (heB b) 1 (nI (tkP b))
          exact ⟨w1, w2, rdOk_wr (rdOk_at hb hp.2), ft_wr (b := heB b) h4 (by omega), hc⟩
        · rw [if_neg q3]
          have hB : ∃ b0 : G1, (if c.2 = 0 then b else heB b) = b0 ∧ rdOk b0 ∧ b0.2.2.1 ≤ 4 ∧ b0.1 = b.1 ∧ b0.2.2.2.2 = b.2.2.2.2 := by
            by_cases q : c.2 = 0
            · exact ⟨b, if_pos q, hb, h4, rfl, rfl⟩
            · exact ⟨heB b, if_neg q, rdOk_at hb hp.2, h4, rfl, rfl⟩
          obtain ⟨b0, e1, k1, k2, k3, k4⟩ := hB
          rw [e1]
          obtain ⟨r1, r2, r3⟩ := rdOk_num (lo := 0) (hi := most) (but := -1) k1 k2
          obtain ⟨s1, s2⟩ := num_keep (lo := 0) (hi := most) (but := -1) (b := b0)
          generalize numM 0 most (-1) b0 = r at *
          by_cases q4 : r.2.2.2.1 = 0
          · rw [if_pos q4]
            obtain ⟨u1, u2, u3, u4, u5⟩ := rn_keep (most := most) z r.2 (upd c.1 c.2 (nI r.1), c.2 + 1) r1 r2 (by show c.2 + 1 + z = 6; omega) (by show c.2 + 1 ≤ 5; omega)
            exact ⟨by rw [u1, s1, k3], by rw [u2, s2, k4], u3, u4, u5⟩
          · rw [if_neg q4]
            exact ⟨by rw [← k3]; exact s1, by rw [← k4]; exact s2, r1, r2, hc⟩
      · rw [if_neg q2]
        exact ⟨rfl, rfl, rdOk_at hb hp.2, h4, hc⟩
    · rw [if_neg q1]
      exact ⟨rfl, rfl, hb, h4, hc⟩
abbrev bT (b : G1) (T : Nat → Int64) : G1 := (b.1, b.2.1, b.2.2.1, b.2.2.2.1, b.2.2.2.2.1, T, b.2.2.2.2.2.2)
abbrev bSh (b : G1) : G1 := (b.1, b.2.1, b.2.2.1, b.2.2.2.1, b.2.2.2.2.1, b.2.2.2.2.2.1, b.2.2.2.2.2.2.1, b.2.2.2.2.2.2.2.1, b.2.2.2.2.2.2.2.2.1, true)
/-- the shape's number is told, then its size -/
def shZ2 (r : Nat × G1) : G1 := bT r.2 (vp_updL r.2.2.2.2.2.2.1 2 (lN r.1))
def shZ (s : Int64) (b : G1) : G1 := shZ2 (if s = -1 then numM 1 4 (-1) (bWr (bT b (vp_updL b.2.2.2.2.2.1 1 s)) 1 (nI b.2.1)) else if s = lN 0 then (3, bT b (vp_updL b.2.2.2.2.2.1 1 s)) else if s = lN 3 then numM 3 5 (-1) (bT b (vp_updL b.2.2.2.2.2.1 1 s)) else numM 1 4 (-1) (bT b (vp_updL b.2.2.2.2.2.1 1 s)))
def shW (b : G1) : G1 :=
  if tkB b "triangle" = true then shZ (lN 0) (tkM b "triangle") else
  if tkB (tkM b "triangle") "path" = true then shZ (lN 1) (tkM (tkM b "triangle") "path") else
  if tkB (tkM (tkM b "triangle") "path") "star" = true then shZ (lN 2) (tkM (tkM (tkM b "triangle") "path") "star") else
  if tkB (tkM (tkM (tkM b "triangle") "path") "star") "ring" = true then shZ (lN 3) (tkM (tkM (tkM (tkM b "triangle") "path") "star") "ring") else
  shZ (-1) (tkM (tkM (tkM (tkM b "triangle") "path") "star") "ring")
theorem i2l_nI {m : Nat} (hm : m ≤ 1000000) : (nI m).toInt64 = lN m := by
  apply Int64.toInt_inj.mp
  rw [Int32.toInt_toInt64, nI_toInt (by omega)]
  exact (lg_ofNat_toInt (by omega)).symm
set_option maxRecDepth 100000 in
theorem m_shZ (adK : Nat → Nat) (d : Nat) (Y : MN) (P : Nat → MN) (a : G0) (b : G1) (c : G3) (e : G4) (f : G5) (g : G6) (h : G7) (s : Int64) (hb : rdOk b) (hf4 : b.2.2.1 ≤ 4) {Q : pnR → List pnE → Prop} (hQ : Q (.inl none) (hM Y P a (shZ s b) c e f g h)) : pnWP mX7_readsShape adK (d + 5) Q 0 0 (hM Y P a b c e f g h) [some (.ref 0)] [.long s, .int (nI 1), .ref 4] 69 := by
  have e1 : vp_updL b.2.2.2.2.2.1 1 s 1 = s := if_pos rfl
  have hb2 : rdOk (bT b (vp_updL b.2.2.2.2.2.1 1 s)) := hb
  have fin : ∀ r : Nat × G1, r.1 ≤ 100000 → shZ2 r = shZ s b → pnWP mX7_readsShape adK (d + 5) Q 0 0 (hM Y P a r.2 c e f g h) [some (.ref 0)] [.long (lN r.1), .int (nI 2), .ref 4] 146 := by
    intro r hr1 e9
    rw [← e9] at hQ
    first | refine pn_last1 (q := 147) dX7_readsShape_146 rfl rfl rfl (by omega) (by first | decide | omega) ?_ | refine pn_last5 (q := 147) dX7_readsShape_146 rfl rfl rfl (by omega) (by first | decide | omega) ?_
    refine pn_vret dX7_readsShape_147 rfl ?_
    exact hQ
  by_cases h1 : s = -1
  · have hw := rdOk_wr (w := 1) (p := nI b.2.1) hb2
    have hw4 := ft_wr (b := bT b (vp_updL b.2.2.2.2.2.1 1 s)) (p := nI b.2.1) hf4 (show 1 ≤ 4 by omega)
    have et : (bWr (bT b (vp_updL b.2.2.2.2.2.1 1 s)) 1 (nI b.2.1)).2.2.2.2.2.1 1 = s := by rw [(wr_keep _ _ _).2]; exact e1
    have CW := m_wrong adK (d + 4) Y P a (bT b (vp_updL b.2.2.2.2.2.1 1 s)) c e f g h 1 (nI b.2.1) hf4
    generalize hbb : bWr (bT b (vp_updL b.2.2.2.2.2.1 1 s)) 1 (nI b.2.1) = b2 at *
    obtain ⟨r1, r2, r3⟩ := rdOk_num (lo := 1) (hi := 4) (but := -1) hw hw4
    have CN := m_num adK (d + 2) Y P a b2 c e f g h 1 4 (-1) (by omega) (by omega) hw hw4
    have k9 := fin (numM 1 4 (-1) b2) r3 (by unfold shZ; rw [if_pos h1, hbb])
    rw [← i2l_nI (by omega)] at k9
    (first | refine pn_last1 (q := 70) dX7_readsShape_69 rfl rfl rfl (by omega) (by first | decide | omega) ?_ | refine pn_last5 (q := 70) dX7_readsShape_69 rfl rfl rfl (by omega) (by first | decide | omega) ?_)
    refine pn_eq (h' := (hM Y P a (bT b (vp_updL b.2.2.2.2.2.1 1 s)) c e f g h)) (st' := _) rfl rfl ?_
    refine pn_aload_n (q := 71) dX7_readsShape_70 rfl rfl rfl ?_
    refine pn_get (q := 74) fX7_24 dX7_readsShape_71 rfl rfl rfl ?_
    refine pn_iconst (q := 75) (v := nI 1) dX7_readsShape_74 rfl (by decide) ?_
    refine pn_lald1 (q := 76) dX7_readsShape_75 rfl rfl rfl (by omega) (by decide) ?_; rw [show (bT b (vp_updL b.2.2.2.2.2.1 1 s)).2.2.2.2.2.1 1 = s from e1]
    refine pn_ldc2 (q := 79) pw_1283 dX7_readsShape_76 rfl ?_
    refine pn_lne (q1 := 80) (q := 83) (tgt := 92) dX7_readsShape_79 rfl dX7_readsShape_80 (by decide) rfl (fun hc79 => ?_) (fun hc79 => ?_)
    · exact (hc79 h1).elim
    · refine pn_aload_n (q := 84) dX7_readsShape_83 rfl rfl rfl ?_
      refine pn_iconst (q := 85) (v := nI 1) dX7_readsShape_84 rfl (by decide) ?_
      refine pn_aload_n (q := 86) dX7_readsShape_85 rfl rfl rfl ?_
      (refine pn_get (q := 89) fX7_103 dX7_readsShape_86 rfl rfl rfl ?_)
      refine pn_eq (h' := _) (st' := .int (nI b.2.1) :: _) rfl rfl ?_
      refine pn_idV (q := 92) (bc9 := 0) (bs9 := 0) (CW) lkX7_137 dX7_readsShape_89 rfl rfl (hM_cl) (hM_cl) (Nat.le_of_ble_eq_true rfl) rfl rfl rfl rfl rfl rfl (by omega) (by omega) (by omega) (Nat.le_of_ble_eq_true rfl) ?_
      refine pn_aload_n (q := 93) dX7_readsShape_92 rfl rfl rfl ?_
      refine pn_get (q := 96) fX7_24 dX7_readsShape_93 rfl rfl rfl ?_
      refine pn_iconst (q := 97) (v := nI 2) dX7_readsShape_96 rfl (by decide) ?_
      refine pn_aload_n (q := 98) dX7_readsShape_97 rfl rfl rfl ?_
      refine pn_get (q := 101) fX7_24 dX7_readsShape_98 rfl rfl rfl ?_
      refine pn_iconst (q := 102) (v := nI 1) dX7_readsShape_101 rfl (by decide) ?_
      refine pn_lald1 (q := 103) dX7_readsShape_102 rfl rfl rfl (by omega) (by decide) ?_; rw [et]
      refine pn_lconst (q := 104) (v := lN 0) dX7_readsShape_103 rfl (by decide) ?_
      refine pn_lne (q1 := 105) (q := 108) (tgt := 114) dX7_readsShape_104 rfl dX7_readsShape_105 (by decide) rfl (fun hc104 => ?_) (fun hc104 => ?_)
      · refine pn_aload_n (q := 115) dX7_readsShape_114 rfl rfl rfl ?_
        refine pn_get (q := 118) fX7_24 dX7_readsShape_115 rfl rfl rfl ?_
        refine pn_iconst (q := 119) (v := nI 1) dX7_readsShape_118 rfl (by decide) ?_
        refine pn_lald1 (q := 120) dX7_readsShape_119 rfl rfl rfl (by omega) (by decide) ?_; rw [et]
        refine pn_ldc2 (q := 123) pw_1077 dX7_readsShape_120 rfl ?_; refine pn_eq (h' := _) (st' := .long (lN 3) :: _) rfl rfl ?_
        refine pn_lne (q1 := 124) (q := 127) (tgt := 138) dX7_readsShape_123 rfl dX7_readsShape_124 (by decide) rfl (fun hc123 => ?_) (fun hc123 => ?_)
        · refine pn_aload_n (q := 139) dX7_readsShape_138 rfl rfl rfl ?_
          refine pn_iconst (q := 140) (v := nI 1) dX7_readsShape_139 rfl (by decide) ?_
          refine pn_iconst (q := 141) (v := nI 4) dX7_readsShape_140 rfl (by decide) ?_
          refine pn_iconst (q := 142) (v := (-1)) dX7_readsShape_141 rfl (by decide) ?_
          refine pn_idV (q := 145) (bc9 := 0) (bs9 := 0) (CN) lkX7_146 dX7_readsShape_142 rfl rfl (hM_cl) (hM_cl) (Nat.le_of_ble_eq_true rfl) rfl rfl rfl rfl rfl rfl (by omega) (by omega) (by omega) (Nat.le_of_ble_eq_true rfl) ?_
          refine pn_i2l (q := 146) dX7_readsShape_145 rfl ?_
          exact k9
        · (rw [h1] at hc123; exact absurd hc123 (by decide))
      · (rw [h1] at hc104; exact absurd hc104 (by decide))
  · by_cases h2 : s = lN 0
    · have k9 := fin (3, bT b (vp_updL b.2.2.2.2.2.1 1 s)) (by show 3 ≤ 100000; omega) (by unfold shZ; rw [if_neg h1, if_pos h2])
      (first | refine pn_last1 (q := 70) dX7_readsShape_69 rfl rfl rfl (by omega) (by first | decide | omega) ?_ | refine pn_last5 (q := 70) dX7_readsShape_69 rfl rfl rfl (by omega) (by first | decide | omega) ?_)
      refine pn_eq (h' := (hM Y P a (bT b (vp_updL b.2.2.2.2.2.1 1 s)) c e f g h)) (st' := _) rfl rfl ?_
      refine pn_aload_n (q := 71) dX7_readsShape_70 rfl rfl rfl ?_
      refine pn_get (q := 74) fX7_24 dX7_readsShape_71 rfl rfl rfl ?_
      refine pn_iconst (q := 75) (v := nI 1) dX7_readsShape_74 rfl (by decide) ?_
      refine pn_lald1 (q := 76) dX7_readsShape_75 rfl rfl rfl (by omega) (by decide) ?_; rw [show (bT b (vp_updL b.2.2.2.2.2.1 1 s)).2.2.2.2.2.1 1 = s from e1]
      refine pn_ldc2 (q := 79) pw_1283 dX7_readsShape_76 rfl ?_
      refine pn_lne (q1 := 80) (q := 83) (tgt := 92) dX7_readsShape_79 rfl dX7_readsShape_80 (by decide) rfl (fun hc79 => ?_) (fun hc79 => ?_)
      · refine pn_aload_n (q := 93) dX7_readsShape_92 rfl rfl rfl ?_
        refine pn_get (q := 96) fX7_24 dX7_readsShape_93 rfl rfl rfl ?_
        refine pn_iconst (q := 97) (v := nI 2) dX7_readsShape_96 rfl (by decide) ?_
        refine pn_aload_n (q := 98) dX7_readsShape_97 rfl rfl rfl ?_
        refine pn_get (q := 101) fX7_24 dX7_readsShape_98 rfl rfl rfl ?_
        refine pn_iconst (q := 102) (v := nI 1) dX7_readsShape_101 rfl (by decide) ?_
        refine pn_lald1 (q := 103) dX7_readsShape_102 rfl rfl rfl (by omega) (by decide) ?_; rw [show (bT b (vp_updL b.2.2.2.2.2.1 1 s)).2.2.2.2.2.1 1 = s from e1]
        refine pn_lconst (q := 104) (v := lN 0) dX7_readsShape_103 rfl (by decide) ?_
        refine pn_lne (q1 := 105) (q := 108) (tgt := 114) dX7_readsShape_104 rfl dX7_readsShape_105 (by decide) rfl (fun hc104 => ?_) (fun hc104 => ?_)
        · exact (hc104 h2).elim
        · refine pn_ldc2 (q := 111) pw_1077 dX7_readsShape_108 rfl ?_; refine pn_eq (h' := _) (st' := .long (lN 3) :: _) rfl rfl ?_
          refine pn_goto (q := 146) dX7_readsShape_111 (by decide) ?_
          exact k9
      · exact (h1 hc79).elim
    · by_cases h3 : s = lN 3
      · obtain ⟨r1, r2, r3⟩ := rdOk_num (lo := 3) (hi := 5) (but := -1) hb2 hf4
        have CN := m_num adK (d + 2) Y P a (bT b (vp_updL b.2.2.2.2.2.1 1 s)) c e f g h 3 5 (-1) (by omega) (by omega) hb2 hf4
        have k9 := fin (numM 3 5 (-1) (bT b (vp_updL b.2.2.2.2.2.1 1 s))) r3 (by unfold shZ; rw [if_neg h1, if_neg h2, if_pos h3])
        rw [← i2l_nI (by omega)] at k9
        (first | refine pn_last1 (q := 70) dX7_readsShape_69 rfl rfl rfl (by omega) (by first | decide | omega) ?_ | refine pn_last5 (q := 70) dX7_readsShape_69 rfl rfl rfl (by omega) (by first | decide | omega) ?_)
        refine pn_eq (h' := (hM Y P a (bT b (vp_updL b.2.2.2.2.2.1 1 s)) c e f g h)) (st' := _) rfl rfl ?_
        refine pn_aload_n (q := 71) dX7_readsShape_70 rfl rfl rfl ?_
        refine pn_get (q := 74) fX7_24 dX7_readsShape_71 rfl rfl rfl ?_
        refine pn_iconst (q := 75) (v := nI 1) dX7_readsShape_74 rfl (by decide) ?_
        refine pn_lald1 (q := 76) dX7_readsShape_75 rfl rfl rfl (by omega) (by decide) ?_; rw [show (bT b (vp_updL b.2.2.2.2.2.1 1 s)).2.2.2.2.2.1 1 = s from e1]
        refine pn_ldc2 (q := 79) pw_1283 dX7_readsShape_76 rfl ?_
        refine pn_lne (q1 := 80) (q := 83) (tgt := 92) dX7_readsShape_79 rfl dX7_readsShape_80 (by decide) rfl (fun hc79 => ?_) (fun hc79 => ?_)
        · refine pn_aload_n (q := 93) dX7_readsShape_92 rfl rfl rfl ?_
          refine pn_get (q := 96) fX7_24 dX7_readsShape_93 rfl rfl rfl ?_
          refine pn_iconst (q := 97) (v := nI 2) dX7_readsShape_96 rfl (by decide) ?_
          refine pn_aload_n (q := 98) dX7_readsShape_97 rfl rfl rfl ?_
          refine pn_get (q := 101) fX7_24 dX7_readsShape_98 rfl rfl rfl ?_
          refine pn_iconst (q := 102) (v := nI 1) dX7_readsShape_101 rfl (by decide) ?_
          refine pn_lald1 (q := 103) dX7_readsShape_102 rfl rfl rfl (by omega) (by decide) ?_; rw [show (bT b (vp_updL b.2.2.2.2.2.1 1 s)).2.2.2.2.2.1 1 = s from e1]
          refine pn_lconst (q := 104) (v := lN 0) dX7_readsShape_103 rfl (by decide) ?_
          refine pn_lne (q1 := 105) (q := 108) (tgt := 114) dX7_readsShape_104 rfl dX7_readsShape_105 (by decide) rfl (fun hc104 => ?_) (fun hc104 => ?_)
          · refine pn_aload_n (q := 115) dX7_readsShape_114 rfl rfl rfl ?_
            refine pn_get (q := 118) fX7_24 dX7_readsShape_115 rfl rfl rfl ?_
            refine pn_iconst (q := 119) (v := nI 1) dX7_readsShape_118 rfl (by decide) ?_
            refine pn_lald1 (q := 120) dX7_readsShape_119 rfl rfl rfl (by omega) (by decide) ?_; rw [show (bT b (vp_updL b.2.2.2.2.2.1 1 s)).2.2.2.2.2.1 1 = s from e1]
            refine pn_ldc2 (q := 123) pw_1077 dX7_readsShape_120 rfl ?_; refine pn_eq (h' := _) (st' := .long (lN 3) :: _) rfl rfl ?_
            refine pn_lne (q1 := 124) (q := 127) (tgt := 138) dX7_readsShape_123 rfl dX7_readsShape_124 (by decide) rfl (fun hc123 => ?_) (fun hc123 => ?_)
            · exact (hc123 h3).elim
            · refine pn_aload_n (q := 128) dX7_readsShape_127 rfl rfl rfl ?_
              refine pn_iconst (q := 129) (v := nI 3) dX7_readsShape_128 rfl (by decide) ?_
              refine pn_iconst (q := 130) (v := nI 5) dX7_readsShape_129 rfl (by decide) ?_
              refine pn_iconst (q := 131) (v := (-1)) dX7_readsShape_130 rfl (by decide) ?_
              refine pn_idV (q := 134) (bc9 := 0) (bs9 := 0) (CN) lkX7_146 dX7_readsShape_131 rfl rfl (hM_cl) (hM_cl) (Nat.le_of_ble_eq_true rfl) rfl rfl rfl rfl rfl rfl (by omega) (by omega) (by omega) (Nat.le_of_ble_eq_true rfl) ?_
              refine pn_i2l (q := 135) dX7_readsShape_134 rfl ?_
              refine pn_goto (q := 146) dX7_readsShape_135 (by decide) ?_
              exact k9
          · exact (h2 hc104).elim
        · exact (h1 hc79).elim
      · obtain ⟨r1, r2, r3⟩ := rdOk_num (lo := 1) (hi := 4) (but := -1) hb2 hf4
        have CN := m_num adK (d + 2) Y P a (bT b (vp_updL b.2.2.2.2.2.1 1 s)) c e f g h 1 4 (-1) (by omega) (by omega) hb2 hf4
        have k9 := fin (numM 1 4 (-1) (bT b (vp_updL b.2.2.2.2.2.1 1 s))) r3 (by unfold shZ; rw [if_neg h1, if_neg h2, if_neg h3])
        rw [← i2l_nI (by omega)] at k9
        (first | refine pn_last1 (q := 70) dX7_readsShape_69 rfl rfl rfl (by omega) (by first | decide | omega) ?_ | refine pn_last5 (q := 70) dX7_readsShape_69 rfl rfl rfl (by omega) (by first | decide | omega) ?_)
        refine pn_eq (h' := (hM Y P a (bT b (vp_updL b.2.2.2.2.2.1 1 s)) c e f g h)) (st' := _) rfl rfl ?_
        refine pn_aload_n (q := 71) dX7_readsShape_70 rfl rfl rfl ?_
        refine pn_get (q := 74) fX7_24 dX7_readsShape_71 rfl rfl rfl ?_
        refine pn_iconst (q := 75) (v := nI 1) dX7_readsShape_74 rfl (by decide) ?_
        refine pn_lald1 (q := 76) dX7_readsShape_75 rfl rfl rfl (by omega) (by decide) ?_; rw [show (bT b (vp_updL b.2.2.2.2.2.1 1 s)).2.2.2.2.2.1 1 = s from e1]
        refine pn_ldc2 (q := 79) pw_1283 dX7_readsShape_76 rfl ?_
        refine pn_lne (q1 := 80) (q := 83) (tgt := 92) dX7_readsShape_79 rfl dX7_readsShape_80 (by decide) rfl (fun hc79 => ?_) (fun hc79 => ?_)
        · refine pn_aload_n (q := 93) dX7_readsShape_92 rfl rfl rfl ?_
          refine pn_get (q := 96) fX7_24 dX7_readsShape_93 rfl rfl rfl ?_
          refine pn_iconst (q := 97) (v := nI 2) dX7_readsShape_96 rfl (by decide) ?_
          refine pn_aload_n (q := 98) dX7_readsShape_97 rfl rfl rfl ?_
          refine pn_get (q := 101) fX7_24 dX7_readsShape_98 rfl rfl rfl ?_
          refine pn_iconst (q := 102) (v := nI 1) dX7_readsShape_101 rfl (by decide) ?_
          refine pn_lald1 (q := 103) dX7_readsShape_102 rfl rfl rfl (by omega) (by decide) ?_; rw [show (bT b (vp_updL b.2.2.2.2.2.1 1 s)).2.2.2.2.2.1 1 = s from e1]
          refine pn_lconst (q := 104) (v := lN 0) dX7_readsShape_103 rfl (by decide) ?_
          refine pn_lne (q1 := 105) (q := 108) (tgt := 114) dX7_readsShape_104 rfl dX7_readsShape_105 (by decide) rfl (fun hc104 => ?_) (fun hc104 => ?_)
          · refine pn_aload_n (q := 115) dX7_readsShape_114 rfl rfl rfl ?_
            refine pn_get (q := 118) fX7_24 dX7_readsShape_115 rfl rfl rfl ?_
            refine pn_iconst (q := 119) (v := nI 1) dX7_readsShape_118 rfl (by decide) ?_
            refine pn_lald1 (q := 120) dX7_readsShape_119 rfl rfl rfl (by omega) (by decide) ?_; rw [show (bT b (vp_updL b.2.2.2.2.2.1 1 s)).2.2.2.2.2.1 1 = s from e1]
            refine pn_ldc2 (q := 123) pw_1077 dX7_readsShape_120 rfl ?_; refine pn_eq (h' := _) (st' := .long (lN 3) :: _) rfl rfl ?_
            refine pn_lne (q1 := 124) (q := 127) (tgt := 138) dX7_readsShape_123 rfl dX7_readsShape_124 (by decide) rfl (fun hc123 => ?_) (fun hc123 => ?_)
            · refine pn_aload_n (q := 139) dX7_readsShape_138 rfl rfl rfl ?_
              refine pn_iconst (q := 140) (v := nI 1) dX7_readsShape_139 rfl (by decide) ?_
              refine pn_iconst (q := 141) (v := nI 4) dX7_readsShape_140 rfl (by decide) ?_
              refine pn_iconst (q := 142) (v := (-1)) dX7_readsShape_141 rfl (by decide) ?_
              refine pn_idV (q := 145) (bc9 := 0) (bs9 := 0) (CN) lkX7_146 dX7_readsShape_142 rfl rfl (hM_cl) (hM_cl) (Nat.le_of_ble_eq_true rfl) rfl rfl rfl rfl rfl rfl (by omega) (by omega) (by omega) (Nat.le_of_ble_eq_true rfl) ?_
              refine pn_i2l (q := 146) dX7_readsShape_145 rfl ?_
              exact k9
            · exact (h3 hc123).elim
          · exact (h2 hc104).elim
        · exact (h1 hc79).elim
set_option maxRecDepth 100000 in
theorem m_readsShape (adK : Nat → Nat) (d : Nat) (Y : MN) (P : Nat → MN) (a : G0) (b : G1) (c : G3) (e : G4) (f : G5) (g : G6) (h : G7) (hb : rdOk b) (hf4 : b.2.2.1 ≤ 4) : pnCt mX7_readsShape adK (d + 5) 0 0 [.ref 0] (hM Y P a b c e f g h) (pnIs (.inl none) (hM Y P a (shW (bSh b)) c e f g h)) := by
  refine pnCt_of (by decide) kX7_readsShape (Nat.le_of_ble_eq_true rfl) rfl hM_cl (pnCS_b rfl) ?_
  have hb1 : rdOk (bSh b) := hb
  have hf1 : (bSh b).2.2.1 ≤ 4 := hf4
  have key : ∀ b : G1, rdOk b → b.2.2.1 ≤ 4 → pnWP mX7_readsShape adK (d + 5) (pnIs (.inl none) (hM Y P a (shW b) c e f g h)) 0 0 (hM Y P a b c e f g h) [some (.ref 0)] [] 5 := by
    intro b hb hf4
    have CA := m_tk adK d Y P a b c e f g h 30 ("PartedNetModel", 153, "triangle") rfl hb hf4
    obtain ⟨a1, a2, a3, a4⟩ := rdOk_tk (b := b) (j := 30) (x := ("PartedNetModel", 153, "triangle")) rfl hb hf4
    have EW : shW b = if tkB b "triangle" = true then shZ (lN 0) (tkM b "triangle") else if tkB (tkM b "triangle") "path" = true then shZ (lN 1) (tkM (tkM b "triangle") "path") else if tkB (tkM (tkM b "triangle") "path") "star" = true then shZ (lN 2) (tkM (tkM (tkM b "triangle") "path") "star") else if tkB (tkM (tkM (tkM b "triangle") "path") "star") "ring" = true then shZ (lN 3) (tkM (tkM (tkM (tkM b "triangle") "path") "star") "ring") else shZ (-1) (tkM (tkM (tkM (tkM b "triangle") "path") "star") "ring") := rfl
    dsimp only at CA a1 a2 a3 a4
    generalize tkM b "triangle" = b1 at *
    have CB := m_tk adK d Y P a b1 c e f g h 31 ("PartedNetModel", 159, "path") rfl a1 (by omega)
    obtain ⟨c1, c2, c3, c4⟩ := rdOk_tk (b := b1) (j := 31) (x := ("PartedNetModel", 159, "path")) rfl a1 (by omega)
    dsimp only at CB c1 c2 c3 c4
    generalize tkM b1 "path" = b2 at *
    have CC := m_tk adK d Y P a b2 c e f g h 32 ("PartedNetModel", 161, "star") rfl c1 (by omega)
    obtain ⟨d1, d2, d3, d4⟩ := rdOk_tk (b := b2) (j := 32) (x := ("PartedNetModel", 161, "star")) rfl c1 (by omega)
    dsimp only at CC d1 d2 d3 d4
    generalize tkM b2 "star" = b3 at *
    have CD := m_tk adK d Y P a b3 c e f g h 33 ("PartedNetModel", 163, "ring") rfl d1 (by omega)
    obtain ⟨f1, f2, f3, f4⟩ := rdOk_tk (b := b3) (j := 33) (x := ("PartedNetModel", 163, "ring")) rfl d1 (by omega)
    dsimp only at CD f1 f2 f3 f4
    generalize tkM b3 "ring" = b4 at *
    rw [EW]
    cases g1 : tkB b "triangle" with
    | true =>
      rw [g1] at CA
      rw [if_pos rfl]
      refine pn_aload_n (q := 6) dX7_readsShape_5 rfl rfl rfl ?_
      refine pn_get (q := 9) fX7_24 dX7_readsShape_6 rfl rfl rfl ?_
      refine pn_iconst (q := 10) (v := nI 1) dX7_readsShape_9 rfl (by decide) ?_
      refine pn_aload_n (q := 11) dX7_readsShape_10 rfl rfl rfl ?_
      refine pn_ldcS (q := 13) (j := 30) rfl dX7_readsShape_11 rfl ?_
      refine pn_idV (q := 16) (bc9 := 0) (bs9 := 0) (CA) lkX7_155 dX7_readsShape_13 rfl rfl (hM_cl) (hM_cl) (Nat.le_of_ble_eq_true rfl) rfl rfl rfl rfl rfl rfl (by omega) (by omega) (by omega) (Nat.le_of_ble_eq_true rfl) ?_
      refine pn_beq (q := 19) (tgt := 23) dX7_readsShape_16 (by decide) rfl (fun hc16 => ?_) (fun hc16 => ?_)
      · cases hc16
      · refine pn_lconst (q := 20) (v := lN 0) dX7_readsShape_19 rfl (by decide) ?_
        refine pn_goto (q := 69) dX7_readsShape_20 (by decide) ?_
        exact m_shZ adK d Y P a b1 c e f g h (lN 0) a1 (by omega) ⟨rfl, rfl⟩
    | false =>
      rw [g1] at CA
      rw [if_neg Bool.false_ne_true]
      cases g2 : tkB b1 "path" with
      | true =>
        rw [g2] at CB
        rw [if_pos rfl]
        refine pn_aload_n (q := 6) dX7_readsShape_5 rfl rfl rfl ?_
        refine pn_get (q := 9) fX7_24 dX7_readsShape_6 rfl rfl rfl ?_
        refine pn_iconst (q := 10) (v := nI 1) dX7_readsShape_9 rfl (by decide) ?_
        refine pn_aload_n (q := 11) dX7_readsShape_10 rfl rfl rfl ?_
        refine pn_ldcS (q := 13) (j := 30) rfl dX7_readsShape_11 rfl ?_
        refine pn_idV (q := 16) (bc9 := 0) (bs9 := 0) (CA) lkX7_155 dX7_readsShape_13 rfl rfl (hM_cl) (hM_cl) (Nat.le_of_ble_eq_true rfl) rfl rfl rfl rfl rfl rfl (by omega) (by omega) (by omega) (Nat.le_of_ble_eq_true rfl) ?_
        refine pn_beq (q := 19) (tgt := 23) dX7_readsShape_16 (by decide) rfl (fun hc16 => ?_) (fun hc16 => ?_)
        · refine pn_aload_n (q := 24) dX7_readsShape_23 rfl rfl rfl ?_
          refine pn_ldcS (q := 26) (j := 31) rfl dX7_readsShape_24 rfl ?_
          refine pn_idV (q := 29) (bc9 := 0) (bs9 := 0) (CB) lkX7_155 dX7_readsShape_26 rfl rfl (hM_cl) (hM_cl) (Nat.le_of_ble_eq_true rfl) rfl rfl rfl rfl rfl rfl (by omega) (by omega) (by omega) (Nat.le_of_ble_eq_true rfl) ?_
          refine pn_beq (q := 32) (tgt := 36) dX7_readsShape_29 (by decide) rfl (fun hc29 => ?_) (fun hc29 => ?_)
          · cases hc29
          · refine pn_lconst (q := 33) (v := lN 1) dX7_readsShape_32 rfl (by decide) ?_
            refine pn_goto (q := 69) dX7_readsShape_33 (by decide) ?_
            exact m_shZ adK d Y P a b2 c e f g h (lN 1) c1 (by omega) ⟨rfl, rfl⟩
        · cases hc16
      | false =>
        rw [g2] at CB
        rw [if_neg Bool.false_ne_true]
        cases g3 : tkB b2 "star" with
        | true =>
          rw [g3] at CC
          rw [if_pos rfl]
          refine pn_aload_n (q := 6) dX7_readsShape_5 rfl rfl rfl ?_
          refine pn_get (q := 9) fX7_24 dX7_readsShape_6 rfl rfl rfl ?_
          refine pn_iconst (q := 10) (v := nI 1) dX7_readsShape_9 rfl (by decide) ?_
          refine pn_aload_n (q := 11) dX7_readsShape_10 rfl rfl rfl ?_
          refine pn_ldcS (q := 13) (j := 30) rfl dX7_readsShape_11 rfl ?_
          refine pn_idV (q := 16) (bc9 := 0) (bs9 := 0) (CA) lkX7_155 dX7_readsShape_13 rfl rfl (hM_cl) (hM_cl) (Nat.le_of_ble_eq_true rfl) rfl rfl rfl rfl rfl rfl (by omega) (by omega) (by omega) (Nat.le_of_ble_eq_true rfl) ?_
          refine pn_beq (q := 19) (tgt := 23) dX7_readsShape_16 (by decide) rfl (fun hc16 => ?_) (fun hc16 => ?_)
          · refine pn_aload_n (q := 24) dX7_readsShape_23 rfl rfl rfl ?_
            refine pn_ldcS (q := 26) (j := 31) rfl dX7_readsShape_24 rfl ?_
            refine pn_idV (q := 29) (bc9 := 0) (bs9 := 0) (CB) lkX7_155 dX7_readsShape_26 rfl rfl (hM_cl) (hM_cl) (Nat.le_of_ble_eq_true rfl) rfl rfl rfl rfl rfl rfl (by omega) (by omega) (by omega) (Nat.le_of_ble_eq_true rfl) ?_
            refine pn_beq (q := 32) (tgt := 36) dX7_readsShape_29 (by decide) rfl (fun hc29 => ?_) (fun hc29 => ?_)
            · refine pn_aload_n (q := 37) dX7_readsShape_36 rfl rfl rfl ?_
              refine pn_ldcS (q := 39) (j := 32) rfl dX7_readsShape_37 rfl ?_
              refine pn_idV (q := 42) (bc9 := 0) (bs9 := 0) (CC) lkX7_155 dX7_readsShape_39 rfl rfl (hM_cl) (hM_cl) (Nat.le_of_ble_eq_true rfl) rfl rfl rfl rfl rfl rfl (by omega) (by omega) (by omega) (Nat.le_of_ble_eq_true rfl) ?_
              refine pn_beq (q := 45) (tgt := 51) dX7_readsShape_42 (by decide) rfl (fun hc42 => ?_) (fun hc42 => ?_)
              · cases hc42
              · refine pn_ldc2 (q := 48) pw_1258 dX7_readsShape_45 rfl ?_; refine pn_eq (h' := _) (st' := .long (lN 2) :: _) rfl rfl ?_
                refine pn_goto (q := 69) dX7_readsShape_48 (by decide) ?_
                exact m_shZ adK d Y P a b3 c e f g h (lN 2) d1 (by omega) ⟨rfl, rfl⟩
            · cases hc29
          · cases hc16
        | false =>
          rw [g3] at CC
          rw [if_neg Bool.false_ne_true]
          cases g4 : tkB b3 "ring" with
          | true =>
            rw [g4] at CD
            rw [if_pos rfl]
            refine pn_aload_n (q := 6) dX7_readsShape_5 rfl rfl rfl ?_
            refine pn_get (q := 9) fX7_24 dX7_readsShape_6 rfl rfl rfl ?_
            refine pn_iconst (q := 10) (v := nI 1) dX7_readsShape_9 rfl (by decide) ?_
            refine pn_aload_n (q := 11) dX7_readsShape_10 rfl rfl rfl ?_
            refine pn_ldcS (q := 13) (j := 30) rfl dX7_readsShape_11 rfl ?_
            refine pn_idV (q := 16) (bc9 := 0) (bs9 := 0) (CA) lkX7_155 dX7_readsShape_13 rfl rfl (hM_cl) (hM_cl) (Nat.le_of_ble_eq_true rfl) rfl rfl rfl rfl rfl rfl (by omega) (by omega) (by omega) (Nat.le_of_ble_eq_true rfl) ?_
            refine pn_beq (q := 19) (tgt := 23) dX7_readsShape_16 (by decide) rfl (fun hc16 => ?_) (fun hc16 => ?_)
            · refine pn_aload_n (q := 24) dX7_readsShape_23 rfl rfl rfl ?_
              refine pn_ldcS (q := 26) (j := 31) rfl dX7_readsShape_24 rfl ?_
              refine pn_idV (q := 29) (bc9 := 0) (bs9 := 0) (CB) lkX7_155 dX7_readsShape_26 rfl rfl (hM_cl) (hM_cl) (Nat.le_of_ble_eq_true rfl) rfl rfl rfl rfl rfl rfl (by omega) (by omega) (by omega) (Nat.le_of_ble_eq_true rfl) ?_
              refine pn_beq (q := 32) (tgt := 36) dX7_readsShape_29 (by decide) rfl (fun hc29 => ?_) (fun hc29 => ?_)
              · refine pn_aload_n (q := 37) dX7_readsShape_36 rfl rfl rfl ?_
                refine pn_ldcS (q := 39) (j := 32) rfl dX7_readsShape_37 rfl ?_
                refine pn_idV (q := 42) (bc9 := 0) (bs9 := 0) (CC) lkX7_155 dX7_readsShape_39 rfl rfl (hM_cl) (hM_cl) (Nat.le_of_ble_eq_true rfl) rfl rfl rfl rfl rfl rfl (by omega) (by omega) (by omega) (Nat.le_of_ble_eq_true rfl) ?_
                refine pn_beq (q := 45) (tgt := 51) dX7_readsShape_42 (by decide) rfl (fun hc42 => ?_) (fun hc42 => ?_)
                · refine pn_aload_n (q := 52) dX7_readsShape_51 rfl rfl rfl ?_
                  refine pn_ldcS (q := 54) (j := 33) rfl dX7_readsShape_52 rfl ?_
                  refine pn_idV (q := 57) (bc9 := 0) (bs9 := 0) (CD) lkX7_155 dX7_readsShape_54 rfl rfl (hM_cl) (hM_cl) (Nat.le_of_ble_eq_true rfl) rfl rfl rfl rfl rfl rfl (by omega) (by omega) (by omega) (Nat.le_of_ble_eq_true rfl) ?_
                  refine pn_beq (q := 60) (tgt := 66) dX7_readsShape_57 (by decide) rfl (fun hc57 => ?_) (fun hc57 => ?_)
                  · cases hc57
                  · refine pn_ldc2 (q := 63) pw_1077 dX7_readsShape_60 rfl ?_; refine pn_eq (h' := _) (st' := .long (lN 3) :: _) rfl rfl ?_
                    refine pn_goto (q := 69) dX7_readsShape_63 (by decide) ?_
                    exact m_shZ adK d Y P a b4 c e f g h (lN 3) f1 (by omega) ⟨rfl, rfl⟩
                · cases hc42
              · cases hc29
            · cases hc16
          | false =>
            rw [g4] at CD
            rw [if_neg Bool.false_ne_true]
            refine pn_aload_n (q := 6) dX7_readsShape_5 rfl rfl rfl ?_
            refine pn_get (q := 9) fX7_24 dX7_readsShape_6 rfl rfl rfl ?_
            refine pn_iconst (q := 10) (v := nI 1) dX7_readsShape_9 rfl (by decide) ?_
            refine pn_aload_n (q := 11) dX7_readsShape_10 rfl rfl rfl ?_
            refine pn_ldcS (q := 13) (j := 30) rfl dX7_readsShape_11 rfl ?_
            refine pn_idV (q := 16) (bc9 := 0) (bs9 := 0) (CA) lkX7_155 dX7_readsShape_13 rfl rfl (hM_cl) (hM_cl) (Nat.le_of_ble_eq_true rfl) rfl rfl rfl rfl rfl rfl (by omega) (by omega) (by omega) (Nat.le_of_ble_eq_true rfl) ?_
            refine pn_beq (q := 19) (tgt := 23) dX7_readsShape_16 (by decide) rfl (fun hc16 => ?_) (fun hc16 => ?_)
            · refine pn_aload_n (q := 24) dX7_readsShape_23 rfl rfl rfl ?_
              refine pn_ldcS (q := 26) (j := 31) rfl dX7_readsShape_24 rfl ?_
              refine pn_idV (q := 29) (bc9 := 0) (bs9 := 0) (CB) lkX7_155 dX7_readsShape_26 rfl rfl (hM_cl) (hM_cl) (Nat.le_of_ble_eq_true rfl) rfl rfl rfl rfl rfl rfl (by omega) (by omega) (by omega) (Nat.le_of_ble_eq_true rfl) ?_
              refine pn_beq (q := 32) (tgt := 36) dX7_readsShape_29 (by decide) rfl (fun hc29 => ?_) (fun hc29 => ?_)
              · refine pn_aload_n (q := 37) dX7_readsShape_36 rfl rfl rfl ?_
                refine pn_ldcS (q := 39) (j := 32) rfl dX7_readsShape_37 rfl ?_
                refine pn_idV (q := 42) (bc9 := 0) (bs9 := 0) (CC) lkX7_155 dX7_readsShape_39 rfl rfl (hM_cl) (hM_cl) (Nat.le_of_ble_eq_true rfl) rfl rfl rfl rfl rfl rfl (by omega) (by omega) (by omega) (Nat.le_of_ble_eq_true rfl) ?_
                refine pn_beq (q := 45) (tgt := 51) dX7_readsShape_42 (by decide) rfl (fun hc42 => ?_) (fun hc42 => ?_)
                · refine pn_aload_n (q := 52) dX7_readsShape_51 rfl rfl rfl ?_
                  refine pn_ldcS (q := 54) (j := 33) rfl dX7_readsShape_52 rfl ?_
                  refine pn_idV (q := 57) (bc9 := 0) (bs9 := 0) (CD) lkX7_155 dX7_readsShape_54 rfl rfl (hM_cl) (hM_cl) (Nat.le_of_ble_eq_true rfl) rfl rfl rfl rfl rfl rfl (by omega) (by omega) (by omega) (Nat.le_of_ble_eq_true rfl) ?_
                  refine pn_beq (q := 60) (tgt := 66) dX7_readsShape_57 (by decide) rfl (fun hc57 => ?_) (fun hc57 => ?_)
                  · refine pn_ldc2 (q := 69) pw_1283 dX7_readsShape_66 rfl ?_
                    exact m_shZ adK d Y P a b4 c e f g h (-1) f1 (by omega) ⟨rfl, rfl⟩
                  · cases hc57
                · cases hc42
              · cases hc29
            · cases hc16
  refine pn_aload_n (q := 1) dX7_readsShape_0 rfl rfl rfl ?_
  refine pn_iconst (q := 2) (v := nI 1) dX7_readsShape_1 rfl (by decide) ?_
  (refine pn_put (q := 5) fX7_149 dX7_readsShape_2 rfl rfl (Nat.le_of_ble_eq_true rfl) (pnF_bool (by first | exact Or.inl rfl | exact Or.inr rfl | assumption)) ?_)
  refine pn_eq (h' := (hM Y P a (bSh b) c e f g h)) (st' := _) rfl rfl ?_
  exact key (bSh b) hb hf4
