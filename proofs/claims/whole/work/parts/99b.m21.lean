/-! text, as the reference reads it -/
set_option maxRecDepth 100000 in
theorem m_textX (adK : Nat → Nat) (d : Nat) (Y : MN) (P : Nat → MN) (a : G0) (b : G1) (c : G3) (e : G4) (f : G5) (g : G6) (h : G7) (x : Int32) (ht : a.2.2.1 ≤ 300) (hx : ¬ (0 ≤ x.toInt ∧ x.toInt ≤ (a.2.2.1 : Int))) : pnCt mX7_text adK (d + 1) 0 0 [.ref 0, .int x] (hM Y P a b c e f g h) (pnIs (.inl (some (.int (nI 0)))) (hM Y P (bdA (0, a.2) 1 1) b c e f g h)) := by
  refine pnCt_of (by decide) kX7_text (Nat.le_of_ble_eq_true rfl) rfl hM_cl (pnCS_b rfl) ?_
  have C0 := m_in adK d x.toInt64 (lN 0) (lN a.2.2.1)
  rw [inL_nat (by omega) (by omega), show decide (((0 : Nat) : Int) ≤ x.toInt ∧ x.toInt ≤ (a.2.2.1 : Int)) = false from decide_eq_false hx] at C0
  refine pn_aload_n (q := 1) dX7_text_0 rfl rfl rfl ?_
  refine pn_iconst (q := 2) (v := nI 0) dX7_text_1 rfl (by decide) ?_
  (refine pn_put (q := 5) fX7_63 dX7_text_2 rfl rfl (Nat.le_of_ble_eq_true rfl) (pnF_int _) ?_)
  refine pn_eq (h' := (hM Y P (0, a.2) b c e f g h)) (st' := _) rfl rfl ?_
  refine pn_aload_n (q := 6) dX7_text_5 rfl rfl rfl ?_
  refine pn_iload_n (q := 7) dX7_text_6 rfl rfl ?_
  refine pn_i2l (q := 8) dX7_text_7 rfl ?_
  refine pn_lconst (q := 9) (v := lN 0) dX7_text_8 rfl (by decide) ?_
  refine pn_aload_n (q := 10) dX7_text_9 rfl rfl rfl ?_
  (refine pn_get (q := 13) fX7_66 dX7_text_10 rfl rfl rfl ?_)
  refine pn_eq (h' := _) (st' := .int (nI a.2.2.1) :: _) rfl rfl ?_
  first | with_reducible refine pn_i2lN (q := 14) dX7_text_13 rfl (by omega) ?_ | refine pn_i2l (q := 14) dX7_text_13 rfl ?_
  refine pn_roS1 (q := 17) (C0) lkX7_92 dX7_text_14 rfl rfl (pnSel_of (I := []) rfl rfl) (pnFree_none rfl) rfl (by omega) (Nat.le_of_ble_eq_true rfl) rfl ?_
  refine pn_bne (q := 20) (tgt := 24) dX7_text_17 (by decide) rfl (fun hc17 => ?_) (fun hc17 => ?_)
  · cases hc17
  · refine pn_iconst (q := 21) (v := nB true) dX7_text_20 rfl (by decide) ?_
    refine pn_goto (q := 25) dX7_text_21 (by decide) ?_
    refine pn_iconst (q := 26) (v := nI 1) dX7_text_25 rfl (by decide) ?_
    refine pn_iconst (q := 27) (v := nI 1) dX7_text_26 rfl (by decide) ?_
    refine pn_idV (q := 30) (bc9 := 0) (bs9 := 0) (m_badT adK d Y P (0, a.2) b c e f g h 1 1 rfl (by omega) (by omega) (by omega)) lkX7_206 dX7_text_27 rfl rfl (hM_cl) (hM_cl) (Nat.le_of_ble_eq_true rfl) rfl rfl rfl rfl rfl rfl (by omega) (by omega) (by omega) (Nat.le_of_ble_eq_true rfl) ?_
    refine pn_beq (q := 33) (tgt := 35) dX7_text_30 (by decide) rfl (fun hc30 => ?_) (fun hc30 => ?_)
    · cases hc30
    · refine pn_iconst (q := 34) (v := nI 0) dX7_text_33 rfl (by decide) ?_
      refine pn_iret dX7_text_34 rfl ?_
      exact ⟨rfl, rfl⟩
def zrF (T : Nat → Int64) (i : Nat) : Nat → Int64 := fun j => if j < i then lN 0 else T j
theorem zrF_up (T : Nat → Int64) (i : Nat) : vp_updL (zrF T i) i (lN 0) = zrF T (i + 1) := by
  funext j
  unfold vp_updL zrF
  by_cases e : j = i
  · subst e; simp
  · have : (j < i + 1) = (j < i) := by simp; omega
    simp [e, this]
abbrev tx0 (len : Nat) (b : G1) (T : Nat → Int64) : G1 := (len, 0, 0, -1, b.2.2.2.2.1, T, b.2.2.2.2.2.2.1, b.2.2.2.2.2.2.2.1, 0, false)
abbrev txA (len : Nat) (b : G1) : G1 := tx0 len b (vp_updL (zrF b.2.2.2.2.2.1 90) 2 (lN 3))
def hd1 (b : G1) : G1 := if tkB b "nodes" = true then tkM b "nodes" else bWr (tkM b "nodes") 1 (nI (tkM b "nodes").2.1)
def hd2 (r : Nat × G1) : G1 := bT r.2 (vp_updL r.2.2.2.2.2.2.1 0 (lN r.1))
def hdM (b : G1) : G1 := musM (hd2 (numM 2 11 (-1) (hd1 b))) (nI 59)
def nF (b : G1) : Nat := (b.2.2.2.2.2.1 0).toNatClampNeg
def sF (b : G1) : Nat := (b.2.2.2.2.2.1 1).toNatClampNeg
def kF (b : G1) : Nat := (b.2.2.2.2.2.1 2).toNatClampNeg
def bF (b : G1) : Nat := (b.2.2.2.2.2.1 4).toNatClampNeg
def txL : Nat → G1 → G3 → G1 × G3
  | 0, b, c => (b, c)
  | z + 1, b, c => if b.2.2.1 = 0 then (if byM b (tkP b) = -1 then (heB b, c) else txL z (liM (nF b) (bF b) (heB b) c).1 (liM (nF b) (bF b) (heB b) c).2) else (b, c)
def txE (r : G1 × G3) (q : Bool × (Nat → Int64) × G3) : G1 × G3 := if r.1.2.2.1 = 0 then (if q.1 = true then bT r.1 q.2.1 else bWr (bT r.1 q.2.1) 4 (nI r.1.1), q.2.2) else r
def txR (len : Nat) (b : G1) (c : G3) : G1 × G3 := txE (txL 302 (hdM (txA len b)) c) (arR (nF (txL 302 (hdM (txA len b)) c).1) (sF (txL 302 (hdM (txA len b)) c).1) (kF (txL 302 (hdM (txA len b)) c).1) (bF (txL 302 (hdM (txA len b)) c).1) (txL 302 (hdM (txA len b)) c).1 (txL 302 (hdM (txA len b)) c).2)
theorem lN_clamp {m : Nat} (h : m ≤ 100000) : (lN m).toNatClampNeg = m := by
  show (lN m).toInt.toNat = m
  rw [show (lN m).toInt = (m : Int) from lg_ofNat_toInt (by omega)]
  rfl
/-- what is known of the reading between two lines of the text -/
def rdI (b : G1) (c : G3) : Prop := rdOk b ∧ b.2.2.1 ≤ 4 ∧ c.2 ≤ 5 ∧ (b.2.2.1 = 0 → b.2.2.2.2.2.1 0 = lN (nF b) ∧ b.2.2.2.2.2.1 1 = lN (sF b) ∧ b.2.2.2.2.2.1 2 = lN (kF b) ∧ b.2.2.2.2.2.1 4 = lN (bF b) ∧ 1 ≤ nF b ∧ nF b ≤ 11 ∧ shOk (sF b) (kF b) ∧ bF b ≤ 4 ∧ b.2.2.2.2.2.2.2.2.1 ≤ 60 ∧ ∀ j, b.2.2.2.2.2.2.2.1 j ≤ 5)
set_option maxRecDepth 100000 in
theorem m_textH (adK : Nat → Nat) (d : Nat) (Y : MN) (P : Nat → MN) (a : G0) (b : G1) (c : G3) (e : G4) (f : G5) (g : G6) (h : G7) (len : Nat) (ht : a.2.2.1 ≤ 300) (hlen : len ≤ a.2.2.1) (I : G1 → G3 → Prop) (hI1 : I (hdM (txA len b)) c) (hI2 : ∀ b c, I b c → b.2.2.1 = 0 → ¬ byM b (tkP b) = -1 → I (liM (nF b) (bF b) (heB b) c).1 (liM (nF b) (bF b) (heB b) c).2 ∧ (liM (nF b) (bF b) (heB b) c).1.1 = b.1 ∧ ((liM (nF b) (bF b) (heB b) c).1.2.2.1 = 0 → b.2.1 < (liM (nF b) (bF b) (heB b) c).1.2.1)) (hI3 : ∀ b c, I b c → rdI b c) {Q : pnR → List pnE → Prop} (kk : pnWP mX7_text adK (d + 7) Q 0 0 (hM Y P ((0, a.2.1, 0, a.2.2.2.1, a.2.2.2.2) : G0) (txL 302 (hdM (txA len b)) c).1 (txL 302 (hdM (txA len b)) c).2 e f g h) [some (.ref 0), some (.int (nI len))] [] 161) : pnWP mX7_text adK (d + 7) Q 0 0 (hM Y P a b c e f g h) [some (.ref 0), some (.int (nI len))] [] 0 := by
  generalize hR : txL 302 (hdM (txA len b)) c = R at kk
  have loop : ∀ (z : Nat) (b : G1) (c : G3), I b c → (b.1 ≤ 300 ∧ (b.2.2.1 = 0 → 302 ≤ b.2.1 + z)) → 1 ≤ z → txL z b c = R → pnWP mX7_text adK (d + 7) Q 0 0 (hM Y P ((0, a.2.1, 0, a.2.2.2.1, a.2.2.2.2) : G0) b c e f g h) [some (.ref 0), some (.int (nI len))] [] 139 := by
    intro z
    induction z with
    | zero => intro b c hI hz h1; omega
    | succ z ih =>
      intro b c hI hz h1 e9
      obtain ⟨i1, i2, i3, i4⟩ := hI3 b c hI
      have CF := m_fine adK (d + 6) Y P ((0, a.2.1, 0, a.2.2.2.1, a.2.2.2.2) : G0) b c e f g h i2
      have e8 : txL (z + 1) b c = if b.2.2.1 = 0 then (if byM b (tkP b) = -1 then (heB b, c) else txL z (liM (nF b) (bF b) (heB b) c).1 (liM (nF b) (bF b) (heB b) c).2) else (b, c) := rfl
      rw [e9] at e8
      by_cases hf : b.2.2.1 = 0
      · rw [decide_eq_true hf] at CF
        rw [if_pos hf] at e8
        have CH := m_here adK (d + 5) Y P ((0, a.2.1, 0, a.2.2.2.1, a.2.2.2.2) : G0) b c e f g h i1
        by_cases hq : byM b (tkP b) = -1
        · rw [if_pos hq] at e8
          rw [e8] at kk
          refine pn_aload_n (q := 140) dX7_text_139 rfl rfl rfl ?_
          refine pn_idV (q := 143) (bc9 := 0) (bs9 := 0) (CF) lkX7_116 dX7_text_140 rfl rfl (hM_cl) (hM_cl) (Nat.le_of_ble_eq_true rfl) rfl rfl rfl rfl rfl rfl (by omega) (by omega) (by omega) (Nat.le_of_ble_eq_true rfl) ?_
          refine pn_beq (q := 146) (tgt := 161) dX7_text_143 (by decide) rfl (fun hc143 => ?_) (fun hc143 => ?_)
          · cases hc143
          · refine pn_aload_n (q := 147) dX7_text_146 rfl rfl rfl ?_
            refine pn_idV (q := 150) (bc9 := 0) (bs9 := 0) (CH) lkX7_120 dX7_text_147 rfl rfl (hM_cl) (hM_cl) (Nat.le_of_ble_eq_true rfl) rfl rfl rfl rfl rfl rfl (by omega) (by omega) (by omega) (Nat.le_of_ble_eq_true rfl) ?_
            refine pn_iconst (q := 151) (v := (-1)) dX7_text_150 rfl (by decide) ?_
            refine pn_icmp_eq (q := 154) (tgt := 161) dX7_text_151 (by decide) rfl (fun hc151 => ?_) (fun hc151 => ?_)
            · exact kk
            · exact (hc151 hq).elim
        · rw [if_neg hq] at e8
          obtain ⟨j1, j2, j3, j4, j5, j6, j7, j8, j9, j10⟩ := i4 hf
          obtain ⟨l1, l2, l3⟩ := hI2 b c hI hf hq
          have CL := m_readsLine adK d Y P ((0, a.2.1, 0, a.2.2.2.1, a.2.2.2.2) : G0) (heB b) c e f g h (nF b) (bF b) j1 j4 j8 j6 j5 (rdOk_at i1 (tkP_le i1).2) hf (by show b.2.2.2.2.2.2.2.2.1 < 300; omega) i3
          obtain ⟨x1, x2, x3, x4⟩ := hI3 _ _ l1
          have hb1 := i1.2
          have hz2 := hz.2 hf
          have k9 := ih (liM (nF b) (bF b) (heB b) c).1 (liM (nF b) (bF b) (heB b) c).2 l1 ⟨by rw [l2]; exact hz.1, fun q => by have := l3 q; omega⟩ (by have := hz.1; have := i1.1; omega) e8.symm
          refine pn_aload_n (q := 140) dX7_text_139 rfl rfl rfl ?_
          refine pn_idV (q := 143) (bc9 := 0) (bs9 := 0) (CF) lkX7_116 dX7_text_140 rfl rfl (hM_cl) (hM_cl) (Nat.le_of_ble_eq_true rfl) rfl rfl rfl rfl rfl rfl (by omega) (by omega) (by omega) (Nat.le_of_ble_eq_true rfl) ?_
          refine pn_beq (q := 146) (tgt := 161) dX7_text_143 (by decide) rfl (fun hc143 => ?_) (fun hc143 => ?_)
          · cases hc143
          · refine pn_aload_n (q := 147) dX7_text_146 rfl rfl rfl ?_
            refine pn_idV (q := 150) (bc9 := 0) (bs9 := 0) (CH) lkX7_120 dX7_text_147 rfl rfl (hM_cl) (hM_cl) (Nat.le_of_ble_eq_true rfl) rfl rfl rfl rfl rfl rfl (by omega) (by omega) (by omega) (Nat.le_of_ble_eq_true rfl) ?_
            refine pn_iconst (q := 151) (v := (-1)) dX7_text_150 rfl (by decide) ?_
            refine pn_icmp_eq (q := 154) (tgt := 161) dX7_text_151 (by decide) rfl (fun hc151 => ?_) (fun hc151 => ?_)
            · exact (hq hc151).elim
            · refine pn_aload_n (q := 155) dX7_text_154 rfl rfl rfl ?_
              refine pn_idV (q := 158) (bc9 := 0) (bs9 := 0) (CL) lkX7_212 dX7_text_155 rfl rfl (hM_cl) (hM_cl) (Nat.le_of_ble_eq_true rfl) rfl rfl rfl rfl rfl rfl (by omega) (by omega) (by omega) (Nat.le_of_ble_eq_true rfl) ?_
              refine pn_goto (q := 139) dX7_text_158 (by decide) ?_
              exact k9
      · rw [decide_eq_false hf] at CF
        rw [if_neg hf] at e8
        rw [e8] at kk
        refine pn_aload_n (q := 140) dX7_text_139 rfl rfl rfl ?_
        refine pn_idV (q := 143) (bc9 := 0) (bs9 := 0) (CF) lkX7_116 dX7_text_140 rfl rfl (hM_cl) (hM_cl) (Nat.le_of_ble_eq_true rfl) rfl rfl rfl rfl rfl rfl (by omega) (by omega) (by omega) (Nat.le_of_ble_eq_true rfl) ?_
        refine pn_beq (q := 146) (tgt := 161) dX7_text_143 (by decide) rfl (fun hc143 => ?_) (fun hc143 => ?_)
        · exact kk
        · cases hc143
  have head : pnWP mX7_text adK (d + 7) Q 0 0 (hM Y P ((0, a.2.1, 0, a.2.2.2.1, a.2.2.2.2) : G0) (txA len b) c e f g h) [some (.ref 0), some (.int (nI len))] [] 100 := by
    have hA : rdOk (txA len b) := ⟨by show len ≤ 300; omega, Nat.zero_le _⟩
    have CA := m_tk adK (d + 2) Y P ((0, a.2.1, 0, a.2.2.2.1, a.2.2.2.2) : G0) (txA len b) c e f g h 25 ("PartedNetModel", 210, "nodes") rfl hA (by show 0 ≤ 4; omega)
    obtain ⟨a1, a2, a3, a4⟩ := rdOk_tk (b := txA len b) (j := 25) (x := ("PartedNetModel", 210, "nodes")) rfl hA (by show 0 ≤ 4; omega)
    have e1 : hd1 (txA len b) = if tkB (txA len b) "nodes" = true then tkM (txA len b) "nodes" else bWr (tkM (txA len b) "nodes") 1 (nI (tkM (txA len b) "nodes").2.1) := rfl
    have h4 : (tkM (txA len b) "nodes").2.2.1 ≤ 4 := by
      have : (tkM (txA len b) "nodes").2.2.1 = 0 := a2
      omega
    have h1 : rdOk (hd1 (txA len b)) ∧ (hd1 (txA len b)).2.2.1 ≤ 4 := by
      rw [e1]
      by_cases q : tkB (txA len b) "nodes" = true
      · rw [if_pos q]; exact ⟨a1, h4⟩
      · rw [if_neg q]; exact ⟨rdOk_wr a1, ft_wr h4 (by omega)⟩
    have k118 : pnWP mX7_text adK (d + 7) Q 0 0 (hM Y P ((0, a.2.1, 0, a.2.2.2.1, a.2.2.2.2) : G0) (hd1 (txA len b)) c e f g h) [some (.ref 0), some (.int (nI len))] [] 118 := by
      have CN := m_num adK (d + 4) Y P ((0, a.2.1, 0, a.2.2.2.1, a.2.2.2.2) : G0) (hd1 (txA len b)) c e f g h 2 11 (-1) (by omega) (by omega) h1.1 h1.2
      obtain ⟨r1, r2, r3⟩ := rdOk_num (lo := 2) (hi := 11) (but := -1) h1.1 h1.2
      have hI9 := (hI3 _ _ hI1)
      have hH : hdM (txA len b) = musM (hd2 (numM 2 11 (-1) (hd1 (txA len b)))) (nI 59) := rfl
      have hsz : (hdM (txA len b)).1 ≤ 300 := hI9.1.1
      have k9 := loop 302 (hdM (txA len b)) c hI1 ⟨hsz, fun _ => by omega⟩ (by omega) hR
      rw [hH] at k9
      generalize numM 2 11 (-1) (hd1 (txA len b)) = r at *
      have CM := m_must adK (d + 4) Y P ((0, a.2.1, 0, a.2.2.2.1, a.2.2.2.2) : G0) (hd2 r) c e f g h (nI 59) r1 r2
      refine pn_aload_n (q := 119) dX7_text_118 rfl rfl rfl ?_
      refine pn_get (q := 122) fX7_24 dX7_text_119 rfl rfl rfl ?_
      refine pn_iconst (q := 123) (v := nI 0) dX7_text_122 rfl (by decide) ?_
      refine pn_aload_n (q := 124) dX7_text_123 rfl rfl rfl ?_
      refine pn_iconst (q := 125) (v := nI 2) dX7_text_124 rfl (by decide) ?_
      refine pn_bipush (q := 127) (v := nI 11) dX7_text_125 rfl (by decide) ?_
      refine pn_iconst (q := 128) (v := (-1)) dX7_text_127 rfl (by decide) ?_
      refine pn_idV (q := 131) (bc9 := 0) (bs9 := 0) (CN) lkX7_146 dX7_text_128 rfl rfl (hM_cl) (hM_cl) (Nat.le_of_ble_eq_true rfl) rfl rfl rfl rfl rfl rfl (by omega) (by omega) (by omega) (Nat.le_of_ble_eq_true rfl) ?_
      refine pn_i2l (q := 132) dX7_text_131 rfl ?_; rw [i2l_nI (by omega)]
      (first | refine pn_last1 (q := 133) dX7_text_132 rfl rfl rfl (by omega) (by first | decide | omega) ?_ | refine pn_last5 (q := 133) dX7_text_132 rfl rfl rfl (by omega) (by first | decide | omega) ?_)
      refine pn_eq (h' := (hM Y P ((0, a.2.1, 0, a.2.2.2.1, a.2.2.2.2) : G0) (hd2 r) c e f g h)) (st' := _) rfl rfl ?_
      refine pn_aload_n (q := 134) dX7_text_133 rfl rfl rfl ?_
      refine pn_bipush (q := 136) (v := nI 59) dX7_text_134 rfl (by decide) ?_
      refine pn_idV (q := 139) (bc9 := 0) (bs9 := 0) (CM) lkX7_199 dX7_text_136 rfl rfl (hM_cl) (hM_cl) (Nat.le_of_ble_eq_true rfl) rfl rfl rfl rfl rfl rfl (by omega) (by omega) (by omega) (Nat.le_of_ble_eq_true rfl) ?_
      exact k9
    rw [e1] at k118
    dsimp only at CA a1 a2 a3 a4
    generalize tkM (txA len b) "nodes" = b1 at *
    cases g1 : tkB (txA len b) "nodes" with
    | true =>
      rw [g1] at CA
      rw [if_pos g1] at k118
      refine pn_aload_n (q := 101) dX7_text_100 rfl rfl rfl ?_
      refine pn_ldcS (q := 103) (j := 25) rfl dX7_text_101 rfl ?_
      refine pn_idV (q := 106) (bc9 := 0) (bs9 := 0) (CA) lkX7_155 dX7_text_103 rfl rfl (hM_cl) (hM_cl) (Nat.le_of_ble_eq_true rfl) rfl rfl rfl rfl rfl rfl (by omega) (by omega) (by omega) (Nat.le_of_ble_eq_true rfl) ?_
      refine pn_bne (q := 109) (tgt := 118) dX7_text_106 (by decide) rfl (fun hc106 => ?_) (fun hc106 => ?_)
      · exact k118
      · cases hc106
    | false =>
      rw [g1] at CA
      rw [if_neg (by rw [g1]; exact Bool.false_ne_true)] at k118
      refine pn_aload_n (q := 101) dX7_text_100 rfl rfl rfl ?_
      refine pn_ldcS (q := 103) (j := 25) rfl dX7_text_101 rfl ?_
      refine pn_idV (q := 106) (bc9 := 0) (bs9 := 0) (CA) lkX7_155 dX7_text_103 rfl rfl (hM_cl) (hM_cl) (Nat.le_of_ble_eq_true rfl) rfl rfl rfl rfl rfl rfl (by omega) (by omega) (by omega) (Nat.le_of_ble_eq_true rfl) ?_
      refine pn_bne (q := 109) (tgt := 118) dX7_text_106 (by decide) rfl (fun hc106 => ?_) (fun hc106 => ?_)
      · cases hc106
      · refine pn_aload_n (q := 110) dX7_text_109 rfl rfl rfl ?_
        refine pn_iconst (q := 111) (v := nI 1) dX7_text_110 rfl (by decide) ?_
        refine pn_aload_n (q := 112) dX7_text_111 rfl rfl rfl ?_
        refine pn_get (q := 115) fX7_103 dX7_text_112 rfl rfl rfl ?_
        refine pn_idV (q := 118) (bc9 := 0) (bs9 := 0) (m_wrong adK (d + 6) Y P ((0, a.2.1, 0, a.2.2.2.1, a.2.2.2.2) : G0) b1 c e f g h 1 (nI b1.2.1) h4) lkX7_137 dX7_text_115 rfl rfl (hM_cl) (hM_cl) (Nat.le_of_ble_eq_true rfl) rfl rfl rfl rfl rfl rfl (by omega) (by omega) (by omega) (Nat.le_of_ble_eq_true rfl) ?_
        exact k118
  have zero : ∀ (z i : Nat), i + z = 90 → pnWP mX7_text adK (d + 7) Q 0 0 (hM Y P ((0, a.2.1, 0, a.2.2.2.1, a.2.2.2.2) : G0) (tx0 len b (zrF b.2.2.2.2.2.1 i)) c e f g h) [some (.ref 0), some (.int (nI len)), some (.int (nI i))] [] 72 := by
    intro z
    induction z with
    | zero =>
      intro i hi
      have hii : i = 90 := by omega
      subst hii
      refine pn_iload_n (q := 73) dX7_text_72 rfl rfl ?_
      refine pn_bipush (q := 75) (v := nI 90) dX7_text_73 rfl (by decide) ?_
      first | refine pn_nge (q := 78) (tgt := 91) dX7_text_75 (by decide) rfl (by omega) (by omega) (fun hc75 => ?_) (fun hc75 => ?_) | refine pn_icmp_ge (q := 78) (tgt := 91) dX7_text_75 (by decide) rfl (fun hc75 => ?_) (fun hc75 => ?_)
      · refine pn_aload_n (q := 92) dX7_text_91 rfl rfl rfl ?_
        refine pn_get (q := 95) fX7_24 dX7_text_92 rfl rfl rfl ?_
        refine pn_iconst (q := 96) (v := nI 2) dX7_text_95 rfl (by decide) ?_
        refine pn_ldc2 (q := 99) pw_1077 dX7_text_96 rfl ?_; refine pn_eq (h' := _) (st' := .long (lN 3) :: _) rfl rfl ?_
        first | refine pn_last1 (q := 100) dX7_text_99 rfl rfl rfl (by omega) (by first | decide | omega) ?_ | refine pn_last5 (q := 100) dX7_text_99 rfl rfl rfl (by omega) (by first | decide | omega) ?_
        exact pn_take 2 head
      · omega
    | succ z ih =>
      intro i hi
      have k9 := ih (i + 1) (by omega)
      rw [← zrF_up] at k9
      refine pn_iload_n (q := 73) dX7_text_72 rfl rfl ?_
      refine pn_bipush (q := 75) (v := nI 90) dX7_text_73 rfl (by decide) ?_
      first | refine pn_nge (q := 78) (tgt := 91) dX7_text_75 (by decide) rfl (by omega) (by omega) (fun hc75 => ?_) (fun hc75 => ?_) | refine pn_icmp_ge (q := 78) (tgt := 91) dX7_text_75 (by decide) rfl (fun hc75 => ?_) (fun hc75 => ?_)
      · omega
      · refine pn_aload_n (q := 79) dX7_text_78 rfl rfl rfl ?_
        refine pn_get (q := 82) fX7_24 dX7_text_79 rfl rfl rfl ?_
        refine pn_iload_n (q := 83) dX7_text_82 rfl rfl ?_
        refine pn_lconst (q := 84) (v := lN 0) dX7_text_83 rfl (by decide) ?_
        first | refine pn_last1 (q := 85) dX7_text_84 rfl rfl rfl (by omega) (by first | decide | omega) ?_ | refine pn_last5 (q := 85) dX7_text_84 rfl rfl rfl (by omega) (by first | decide | omega) ?_
        first | refine pn_iinc1 (q := 88) dX7_text_85 rfl rfl (by decide) ?_ | refine pn_iinc (q := 88) (mm := 1) dX7_text_85 rfl rfl (by decide) (by decide) ?_
        refine pn_goto (q := 72) dX7_text_88 (by decide) ?_
        exact k9
  have C0 := m_in adK d (nI len).toInt64 (lN 0) (lN a.2.2.1)
  rw [inL_range (by omega) (by omega) len (by omega) hlen] at C0
  refine pn_aload_n (q := 1) dX7_text_0 rfl rfl rfl ?_
  refine pn_iconst (q := 2) (v := nI 0) dX7_text_1 rfl (by decide) ?_
  (refine pn_put (q := 5) fX7_63 dX7_text_2 rfl rfl (Nat.le_of_ble_eq_true rfl) (pnF_int _) ?_)
  refine pn_eq (h' := (hM Y P (0, a.2) b c e f g h)) (st' := _) rfl rfl ?_
  refine pn_aload_n (q := 6) dX7_text_5 rfl rfl rfl ?_
  refine pn_iload_n (q := 7) dX7_text_6 rfl rfl ?_
  refine pn_i2l (q := 8) dX7_text_7 rfl ?_
  refine pn_lconst (q := 9) (v := lN 0) dX7_text_8 rfl (by decide) ?_
  refine pn_aload_n (q := 10) dX7_text_9 rfl rfl rfl ?_
  (refine pn_get (q := 13) fX7_66 dX7_text_10 rfl rfl rfl ?_)
  refine pn_eq (h' := _) (st' := .int (nI a.2.2.1) :: _) rfl rfl ?_
  first | with_reducible refine pn_i2lN (q := 14) dX7_text_13 rfl (by omega) ?_ | refine pn_i2l (q := 14) dX7_text_13 rfl ?_
  refine pn_roS1 (q := 17) (C0) lkX7_92 dX7_text_14 rfl rfl (pnSel_of (I := []) rfl rfl) (pnFree_none rfl) rfl (by omega) (Nat.le_of_ble_eq_true rfl) rfl ?_
  refine pn_bne (q := 20) (tgt := 24) dX7_text_17 (by decide) rfl (fun hc17 => ?_) (fun hc17 => ?_)
  · refine pn_iconst (q := 25) (v := nB false) dX7_text_24 rfl (by decide) ?_
    refine pn_iconst (q := 26) (v := nI 1) dX7_text_25 rfl (by decide) ?_
    refine pn_iconst (q := 27) (v := nI 1) dX7_text_26 rfl (by decide) ?_
    refine pn_idV (q := 30) (bc9 := 0) (bs9 := 0) (m_badF adK d Y P (0, a.2) b c e f g h 1 1 rfl) lkX7_206 dX7_text_27 rfl rfl (hM_cl) (hM_cl) (Nat.le_of_ble_eq_true rfl) rfl rfl rfl rfl rfl rfl (by omega) (by omega) (by omega) (Nat.le_of_ble_eq_true rfl) ?_
    refine pn_beq (q := 33) (tgt := 35) dX7_text_30 (by decide) rfl (fun hc30 => ?_) (fun hc30 => ?_)
    · refine pn_aload_n (q := 36) dX7_text_35 rfl rfl rfl ?_
      refine pn_iconst (q := 37) (v := nI 0) dX7_text_36 rfl (by decide) ?_
      refine pn_put (q := 40) fX7_66 dX7_text_37 rfl rfl (Nat.le_of_ble_eq_true rfl) (pnF_int _) ?_
      refine pn_aload_n (q := 41) dX7_text_40 rfl rfl rfl ?_
      refine pn_iload_n (q := 42) dX7_text_41 rfl rfl ?_
      refine pn_put (q := 45) fX7_100 dX7_text_42 rfl rfl (Nat.le_of_ble_eq_true rfl) (pnF_int _) ?_
      refine pn_aload_n (q := 46) dX7_text_45 rfl rfl rfl ?_
      refine pn_iconst (q := 47) (v := nI 0) dX7_text_46 rfl (by decide) ?_
      refine pn_put (q := 50) fX7_103 dX7_text_47 rfl rfl (Nat.le_of_ble_eq_true rfl) (pnF_int _) ?_
      refine pn_aload_n (q := 51) dX7_text_50 rfl rfl rfl ?_
      refine pn_iconst (q := 52) (v := nI 0) dX7_text_51 rfl (by decide) ?_
      refine pn_put (q := 55) fX7_110 dX7_text_52 rfl rfl (Nat.le_of_ble_eq_true rfl) (pnF_int _) ?_
      refine pn_aload_n (q := 56) dX7_text_55 rfl rfl rfl ?_
      refine pn_iconst (q := 57) (v := (-1)) dX7_text_56 rfl (by decide) ?_
      refine pn_put (q := 60) fX7_113 dX7_text_57 rfl rfl (Nat.le_of_ble_eq_true rfl) (pnF_int _) ?_
      refine pn_aload_n (q := 61) dX7_text_60 rfl rfl rfl ?_
      refine pn_iconst (q := 62) (v := nI 0) dX7_text_61 rfl (by decide) ?_
      refine pn_put (q := 65) fX7_173 dX7_text_62 rfl rfl (Nat.le_of_ble_eq_true rfl) (pnF_int _) ?_
      refine pn_aload_n (q := 66) dX7_text_65 rfl rfl rfl ?_
      refine pn_iconst (q := 67) (v := nI 0) dX7_text_66 rfl (by decide) ?_
      refine pn_put (q := 70) fX7_149 dX7_text_67 rfl rfl (Nat.le_of_ble_eq_true rfl) (pnF_bool (by first | exact Or.inl rfl | exact Or.inr rfl | assumption)) ?_
      refine pn_iconst (q := 71) (v := nI 0) dX7_text_70 rfl (by decide) ?_
      refine pn_istore_n (q := 72) dX7_text_71 rfl (by decide) ?_
      exact zero 90 0 (by omega)
    · cases hc30
  · cases hc17
/-! to the end of reading: what is told of the fault -/
set_option maxRecDepth 100000 in
theorem m_textG (adK : Nat → Nat) (d : Nat) (Y : MN) (P : Nat → MN) (a : G0) (b : G1) (c : G3) (e : G4) (f : G5) (g : G6) (h : G7) (len : Nat) (ht : a.2.2.1 ≤ 300) (hlen : len ≤ a.2.2.1) (I : G1 → G3 → Prop) (hI1 : I (hdM (txA len b)) c) (hI2 : ∀ b c, I b c → b.2.2.1 = 0 → ¬ byM b (tkP b) = -1 → I (liM (nF b) (bF b) (heB b) c).1 (liM (nF b) (bF b) (heB b) c).2 ∧ (liM (nF b) (bF b) (heB b) c).1.1 = b.1 ∧ ((liM (nF b) (bF b) (heB b) c).1.2.2.1 = 0 → b.2.1 < (liM (nF b) (bF b) (heB b) c).1.2.1)) (hI3 : ∀ b c, I b c → rdI b c) (hI4 : rdI (txL 302 (hdM (txA len b)) c).1 (txL 302 (hdM (txA len b)) c).2) {Q : pnR → List pnE → Prop} (kk : pnWP mX7_text adK (d + 7) Q 0 0 (hM Y P ((0, a.2.1, 0, (txR len b c).1.2.2.2.1, a.2.2.2.2) : G0) (txR len b c).1 (txR len b c).2 e f g h) [some (.ref 0), some (.int (nI len))] [] 192) : pnWP mX7_text adK (d + 7) Q 0 0 (hM Y P a b c e f g h) [some (.ref 0), some (.int (nI len))] [] 0 := by
  refine m_textH adK d Y P a b c e f g h len ht hlen I hI1 hI2 hI3 ?_
  unfold txR at kk
  generalize (txL 302 (hdM (txA len b)) c) = r at *
  obtain ⟨i1, i2, i3, i4⟩ := hI4
  have CF := m_fine adK (d + 6) Y P ((0, a.2.1, 0, a.2.2.2.1, a.2.2.2.2) : G0) r.1 r.2 e f g h i2
  by_cases hf : r.1.2.2.1 = 0
  · rw [decide_eq_true hf] at CF
    obtain ⟨j1, j2, j3, j4, j5, j6, j7, j8, j9, j10⟩ := i4 hf
    have CA := m_areRight adK (d + 3) Y P ((0, a.2.1, 0, a.2.2.2.1, a.2.2.2.2) : G0) r.1 r.2 e f g h (nF r.1) (sF r.1) (kF r.1) (bF r.1) j1 j2 j3 j4 j7 j6 j5 j8 j9 j10
    generalize arR (nF r.1) (sF r.1) (kF r.1) (bF r.1) r.1 r.2 = q at *
    have e1 : txE r q = (if q.1 = true then bT r.1 q.2.1 else bWr (bT r.1 q.2.1) 4 (nI r.1.1), q.2.2) := if_pos hf
    rw [e1] at kk
    cases g1 : q.1 with
    | true =>
      rw [g1] at CA
      rw [if_pos g1] at kk
      refine pn_aload_n (q := 162) dX7_text_161 rfl rfl rfl ?_
      refine pn_idV (q := 165) (bc9 := 0) (bs9 := 0) (CF) lkX7_116 dX7_text_162 rfl rfl (hM_cl) (hM_cl) (Nat.le_of_ble_eq_true rfl) rfl rfl rfl rfl rfl rfl (by omega) (by omega) (by omega) (Nat.le_of_ble_eq_true rfl) ?_
      refine pn_beq (q := 168) (tgt := 184) dX7_text_165 (by decide) rfl (fun hc165 => ?_) (fun hc165 => ?_)
      · cases hc165
      · refine pn_aload_n (q := 169) dX7_text_168 rfl rfl rfl ?_
        refine pn_idV (q := 172) (bc9 := 0) (bs9 := 0) (CA) lkX7_215 dX7_text_169 rfl rfl (hM_cl) (hM_cl) (Nat.le_of_ble_eq_true rfl) rfl rfl rfl rfl rfl rfl (by omega) (by omega) (by omega) (Nat.le_of_ble_eq_true rfl) ?_
        refine pn_bne (q := 175) (tgt := 184) dX7_text_172 (by decide) rfl (fun hc172 => ?_) (fun hc172 => ?_)
        · refine pn_aload_n (q := 185) dX7_text_184 rfl rfl rfl ?_
          refine pn_aload_n (q := 186) dX7_text_185 rfl rfl rfl ?_
          refine pn_get (q := 189) fX7_113 dX7_text_186 rfl rfl rfl ?_
          refine pn_put (q := 192) fX7_13 dX7_text_189 rfl rfl (Nat.le_of_ble_eq_true rfl) (pnF_int _) ?_
          exact kk
        · cases hc172
    | false =>
      rw [g1] at CA
      rw [if_neg (by rw [g1]; exact Bool.false_ne_true)] at kk
      have CW := m_wrong adK (d + 6) Y P ((0, a.2.1, 0, a.2.2.2.1, a.2.2.2.2) : G0) (bT r.1 q.2.1) q.2.2 e f g h 4 (nI r.1.1) i2
      refine pn_aload_n (q := 162) dX7_text_161 rfl rfl rfl ?_
      refine pn_idV (q := 165) (bc9 := 0) (bs9 := 0) (CF) lkX7_116 dX7_text_162 rfl rfl (hM_cl) (hM_cl) (Nat.le_of_ble_eq_true rfl) rfl rfl rfl rfl rfl rfl (by omega) (by omega) (by omega) (Nat.le_of_ble_eq_true rfl) ?_
      refine pn_beq (q := 168) (tgt := 184) dX7_text_165 (by decide) rfl (fun hc165 => ?_) (fun hc165 => ?_)
      · cases hc165
      · refine pn_aload_n (q := 169) dX7_text_168 rfl rfl rfl ?_
        refine pn_idV (q := 172) (bc9 := 0) (bs9 := 0) (CA) lkX7_215 dX7_text_169 rfl rfl (hM_cl) (hM_cl) (Nat.le_of_ble_eq_true rfl) rfl rfl rfl rfl rfl rfl (by omega) (by omega) (by omega) (Nat.le_of_ble_eq_true rfl) ?_
        refine pn_bne (q := 175) (tgt := 184) dX7_text_172 (by decide) rfl (fun hc172 => ?_) (fun hc172 => ?_)
        · cases hc172
        · refine pn_aload_n (q := 176) dX7_text_175 rfl rfl rfl ?_
          refine pn_iconst (q := 177) (v := nI 4) dX7_text_176 rfl (by decide) ?_
          refine pn_aload_n (q := 178) dX7_text_177 rfl rfl rfl ?_
          refine pn_get (q := 181) fX7_100 dX7_text_178 rfl rfl rfl ?_
          refine pn_idV (q := 184) (bc9 := 0) (bs9 := 0) (CW) lkX7_137 dX7_text_181 rfl rfl (hM_cl) (hM_cl) (Nat.le_of_ble_eq_true rfl) rfl rfl rfl rfl rfl rfl (by omega) (by omega) (by omega) (Nat.le_of_ble_eq_true rfl) ?_
          refine pn_aload_n (q := 185) dX7_text_184 rfl rfl rfl ?_
          refine pn_aload_n (q := 186) dX7_text_185 rfl rfl rfl ?_
          refine pn_get (q := 189) fX7_113 dX7_text_186 rfl rfl rfl ?_
          refine pn_put (q := 192) fX7_13 dX7_text_189 rfl rfl (Nat.le_of_ble_eq_true rfl) (pnF_int _) ?_
          exact kk
  · rw [decide_eq_false hf] at CF
    rw [show ∀ q, txE r q = r from fun q => if_neg hf] at kk
    refine pn_aload_n (q := 162) dX7_text_161 rfl rfl rfl ?_
    refine pn_idV (q := 165) (bc9 := 0) (bs9 := 0) (CF) lkX7_116 dX7_text_162 rfl rfl (hM_cl) (hM_cl) (Nat.le_of_ble_eq_true rfl) rfl rfl rfl rfl rfl rfl (by omega) (by omega) (by omega) (Nat.le_of_ble_eq_true rfl) ?_
    refine pn_beq (q := 168) (tgt := 184) dX7_text_165 (by decide) rfl (fun hc165 => ?_) (fun hc165 => ?_)
    · refine pn_aload_n (q := 185) dX7_text_184 rfl rfl rfl ?_
      refine pn_aload_n (q := 186) dX7_text_185 rfl rfl rfl ?_
      refine pn_get (q := 189) fX7_113 dX7_text_186 rfl rfl rfl ?_
      refine pn_put (q := 192) fX7_13 dX7_text_189 rfl rfl (Nat.le_of_ble_eq_true rfl) (pnF_int _) ?_
      exact kk
    · cases hc165
set_option maxRecDepth 100000 in
theorem m_textF (adK : Nat → Nat) (d : Nat) (Y : MN) (P : Nat → MN) (a : G0) (b : G1) (c : G3) (e : G4) (f : G5) (g : G6) (h : G7) (len : Nat) (ht : a.2.2.1 ≤ 300) (hlen : len ≤ a.2.2.1) (I : G1 → G3 → Prop) (hI1 : I (hdM (txA len b)) c) (hI2 : ∀ b c, I b c → b.2.2.1 = 0 → ¬ byM b (tkP b) = -1 → I (liM (nF b) (bF b) (heB b) c).1 (liM (nF b) (bF b) (heB b) c).2 ∧ (liM (nF b) (bF b) (heB b) c).1.1 = b.1 ∧ ((liM (nF b) (bF b) (heB b) c).1.2.2.1 = 0 → b.2.1 < (liM (nF b) (bF b) (heB b) c).1.2.1)) (hI3 : ∀ b c, I b c → rdI b c) (hI4 : rdI (txL 302 (hdM (txA len b)) c).1 (txL 302 (hdM (txA len b)) c).2) (hf : (txR len b c).1.2.2.1 ≠ 0) (hf4 : (txR len b c).1.2.2.1 ≤ 4) : pnCt mX7_text adK (d + 7) 0 0 [.ref 0, .int (nI len)] (hM Y P a b c e f g h) (pnIs (.inl (some (.int (nI (txR len b c).1.2.2.1 - nI 10)))) (hM Y P ((0, a.2.1, 0, (txR len b c).1.2.2.2.1, a.2.2.2.2) : G0) (txR len b c).1 (txR len b c).2 e f g h)) := by
  refine pnCt_of (by decide) kX7_text (Nat.le_of_ble_eq_true rfl) rfl hM_cl (pnCS_b rfl) ?_
  refine m_textG adK d Y P a b c e f g h len ht hlen I hI1 hI2 hI3 hI4 ?_
  have CF := m_fine adK (d + 6) Y P ((0, a.2.1, 0, (txR len b c).1.2.2.2.1, a.2.2.2.2) : G0) (txR len b c).1 (txR len b c).2 e f g h hf4
  rw [decide_eq_false hf] at CF
  generalize (txR len b c) = r at *
  refine pn_aload_n (q := 193) dX7_text_192 rfl rfl rfl ?_
  refine pn_idV (q := 196) (bc9 := 0) (bs9 := 0) (CF) lkX7_116 dX7_text_193 rfl rfl (hM_cl) (hM_cl) (Nat.le_of_ble_eq_true rfl) rfl rfl rfl rfl rfl rfl (by omega) (by omega) (by omega) (Nat.le_of_ble_eq_true rfl) ?_
  refine pn_bne (q := 199) (tgt := 207) dX7_text_196 (by decide) rfl (fun hc196 => ?_) (fun hc196 => ?_)
  · cases hc196
  · refine pn_aload_n (q := 200) dX7_text_199 rfl rfl rfl ?_
    refine pn_get (q := 203) fX7_110 dX7_text_200 rfl rfl rfl ?_
    refine pn_bipush (q := 205) (v := nI 10) dX7_text_203 rfl (by decide) ?_
    refine pn_isub (q := 206) dX7_text_205 rfl ?_
    refine pn_iret dX7_text_206 rfl ?_
    exact ⟨rfl, rfl⟩
set_option maxRecDepth 100000 in
theorem m_text (adK : Nat → Nat) (d : Nat) (Y : MN) (P : Nat → MN) (a : G0) (b : G1) (c : G3) (e : G4) (f : G5) (g : G6) (h : G7) (len : Nat) (ht : a.2.2.1 ≤ 300) (hlen : len ≤ a.2.2.1) (ha : a.2.2.2.2 ≤ 8) (I : G1 → G3 → Prop) (hI1 : I (hdM (txA len b)) c) (hI2 : ∀ b c, I b c → b.2.2.1 = 0 → ¬ byM b (tkP b) = -1 → I (liM (nF b) (bF b) (heB b) c).1 (liM (nF b) (bF b) (heB b) c).2 ∧ (liM (nF b) (bF b) (heB b) c).1.1 = b.1 ∧ ((liM (nF b) (bF b) (heB b) c).1.2.2.1 = 0 → b.2.1 < (liM (nF b) (bF b) (heB b) c).1.2.1)) (hI3 : ∀ b c, I b c → rdI b c) (hI4 : rdI (txL 302 (hdM (txA len b)) c).1 (txL 302 (hdM (txA len b)) c).2) (hf : (txR len b c).1.2.2.1 = 0) (Y' : MN) (hY : ∀ j, j < 90 → (txR len b c).1.2.2.2.2.2.1 j = nowF Y' j) (hpc : Y'.2.2.2.2.1 ≤ 60) (h55 : ok55 (lfN Y'.2.2.2.2.2.2.1 Y'.2.1 Y'.2.2.2.2.1)) : pnCt mX7_text adK (d + 7) 0 0 [.ref 0, .int (nI len)] (hM Y P a b c e f g h) (pnIs (.inl (some (.int (nI (pcN (lfN Y'.2.2.2.2.2.2.1 Y'.2.1 Y'.2.2.2.2.1)))))) (hM Y' (keP P Y a.2.2.2.2) (keB ((0, a.2.1, 0, (txR len b c).1.2.2.2.1, a.2.2.2.2) : G0)) (txR len b c).1 (txR len b c).2 e f g h)) := by
  refine pnCt_of (by decide) kX7_text (Nat.le_of_ble_eq_true rfl) rfl hM_cl (pnCS_b rfl) ?_
  refine m_textG adK d Y P a b c e f g h len ht hlen I hI1 hI2 hI3 hI4 ?_
  have CF := m_fine adK (d + 6) Y P ((0, a.2.1, 0, (txR len b c).1.2.2.2.1, a.2.2.2.2) : G0) (txR len b c).1 (txR len b c).2 e f g h (by omega)
  rw [decide_eq_true hf] at CF
  have CO := m_ones adK (d + 5) (lfN Y'.2.2.2.2.2.2.1 Y'.2.1 Y'.2.2.2.2.1)
  rw [ones_pc h55] at CO
  generalize (txR len b c) = r at *
  have CR := m_remembers adK (d + 5) Y P (0, a.2.1, 0, r.1.2.2.2.1, a.2.2.2.2) r.1 r.2 e f g h ha
  have CC := m_copies2 adK (d + 6) r.1.2.2.2.2.2.1 (nowF Y)
  have CL := m_leftNow adK (d + 4) Y' (keP P Y a.2.2.2.2) (keB (0, a.2.1, 0, r.1.2.2.2.1, a.2.2.2.2)) r.1 r.2 e f g h hpc
  have fin : pnWP mX7_text adK (d + 7) (pnIs (.inl (some (.int (nI (pcN (lfN Y'.2.2.2.2.2.2.1 Y'.2.1 Y'.2.2.2.2.1)))))) (hM Y' (keP P Y a.2.2.2.2) (keB (0, a.2.1, 0, r.1.2.2.2.1, a.2.2.2.2)) r.1 r.2 e f g h)) 0 0 (hM Y' (keP P Y a.2.2.2.2) (keB (0, a.2.1, 0, r.1.2.2.2.1, a.2.2.2.2)) r.1 r.2 e f g h) [some (.ref 0), some (.int (nI len))] [] 222 := by
    refine pn_aload_n (q := 223) dX7_text_222 rfl rfl rfl ?_
    refine pn_idV (q := 226) (bc9 := 0) (bs9 := 0) (CL) lkX7_225 dX7_text_223 rfl rfl (hM_cl) (hM_cl) (Nat.le_of_ble_eq_true rfl) rfl rfl rfl rfl rfl rfl (by omega) (by omega) (by omega) (Nat.le_of_ble_eq_true rfl) ?_
    refine pn_roS1 (q := 229) (CO) lkX7_229 dX7_text_226 rfl rfl (pnSel_of (I := []) rfl rfl) (pnFree_none rfl) rfl (by omega) (Nat.le_of_ble_eq_true rfl) rfl ?_
    refine pn_iret dX7_text_229 rfl ?_
    exact ⟨rfl, rfl⟩
  refine pn_aload_n (q := 193) dX7_text_192 rfl rfl rfl ?_
  refine pn_idV (q := 196) (bc9 := 0) (bs9 := 0) (CF) lkX7_116 dX7_text_193 rfl rfl (hM_cl) (hM_cl) (Nat.le_of_ble_eq_true rfl) rfl rfl rfl rfl rfl rfl (by omega) (by omega) (by omega) (Nat.le_of_ble_eq_true rfl) ?_
  refine pn_bne (q := 199) (tgt := 207) dX7_text_196 (by decide) rfl (fun hc196 => ?_) (fun hc196 => ?_)
  · refine pn_aload_n (q := 208) dX7_text_207 rfl rfl rfl ?_
    refine pn_idV (q := 211) (bc9 := 0) (bs9 := 0) (CR) lkX7_218 dX7_text_208 rfl rfl (hM_cl) (hM_cl) (Nat.le_of_ble_eq_true rfl) rfl rfl rfl rfl rfl rfl (by omega) (by omega) (by omega) (Nat.le_of_ble_eq_true rfl) ?_
    refine pn_aload_n (q := 212) dX7_text_211 rfl rfl rfl ?_
    refine pn_get (q := 215) fX7_24 dX7_text_212 rfl rfl rfl ?_
    refine pn_aload_n (q := 216) dX7_text_215 rfl rfl rfl ?_
    refine pn_get (q := 219) fX7_20 dX7_text_216 rfl rfl rfl ?_
    refine pn_upS0 (q := 222) (bc9 := 0) (bs9 := 0) (CC) lkX7_221 dX7_text_219 rfl rfl (pnSel_of (I := [4, 3]) rfl rfl) (pnFree_none rfl) rfl (by omega) (by omega) (by omega) (Nat.le_of_ble_eq_true rfl) ?_
    refine pn_eq (h' := ((hM Y (keP P Y a.2.2.2.2) (keB (0, a.2.1, 0, r.1.2.2.2.1, a.2.2.2.2)) r.1 r.2 e f g h).set 3 (.inl (1, 90, .inr (.inl r.1.2.2.2.2.2.1))))) (st' := _) rfl rfl ?_
    (refine pn_extl (a := 3) (nowF Y') rfl hY ?_; exact fin)
  · cases hc196
