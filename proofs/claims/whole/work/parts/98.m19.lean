/-! a line of the text, as the reference reads it -/
theorem num_fine {lo hi : Nat} {but : Int32} {b : G1} (h : (numM lo hi but b).2.2.2.1 = 0) : b.2.2.1 = 0 ∧ lo ≤ (numM lo hi but b).1 ∧ (numM lo hi but b).1 ≤ hi ∧ nI (numM lo hi but b).1 ≠ but := by
  unfold numM at h ⊢
  by_cases q1 : b.2.2.1 = 0
  · rw [if_pos q1] at h ⊢
    by_cases q2 : dgB (byM b (tkP b)) = true
    · rw [if_pos q2] at h ⊢
      by_cases q3 : (lo ≤ numV b ∧ numV b ≤ hi) ∧ nI (numV b) ≠ but
      · exact ⟨q1, q3.1.1, q3.1.2, q3.2⟩
      · rw [if_neg q3] at h
        exact absurd h (ft_wr0 (by omega))
    · rw [if_neg q2] at h
      exact absurd h (ft_wr0 (by omega))
  · rw [if_neg q1] at h
    exact absurd h q1
/-- two nodes: a line comes, or goes -/
def lnM (n : Nat) (more : Bool) (b : G1) : G1 := if (numM 0 (n - 1) (nI (numM 0 (n - 1) (-1) b).1) (numM 0 (n - 1) (-1) b).2).2.2.2.1 = 0 then bT (numM 0 (n - 1) (nI (numM 0 (n - 1) (-1) b).1) (numM 0 (n - 1) (-1) b).2).2 (vp_updL b.2.2.2.2.2.1 29 (gLn more n (b.2.2.2.2.2.1 29) (numM 0 (n - 1) (-1) b).1 (numM 0 (n - 1) (nI (numM 0 (n - 1) (-1) b).1) (numM 0 (n - 1) (-1) b).2).1)) else (numM 0 (n - 1) (nI (numM 0 (n - 1) (-1) b).1) (numM 0 (n - 1) (-1) b).2).2
def lsM (n : Nat) (w : Int32) (b : G1) : G1 := if tkB b "line" = true then lnM n true (tkM b "line") else if tkB (tkM b "line") "less" = true then lnM n false (tkM (tkM b "line") "less") else lnM n false (bWr (tkM (tkM b "line") "less") 1 w)
def leM (n bc : Nat) (w : Int32) (b : G1) (c : G3) : G1 × G3 :=
  if tkB b "all" = true then (bT (tkM b "all") (vp_updL (tkM b "all").2.2.2.2.2.1 29 (allN n)), c) else
  if tkB (tkM b "all") "part" = true then prM n (tkM (tkM b "all") "part") c else
  if tkB (tkM (tkM b "all") "part") "base" = true then baM bc w (tkM (tkM (tkM b "all") "part") "base") c else
  if b.2.2.2.2.2.2.2.2.2 = true then (lsM n w (tkM (tkM (tkM b "all") "part") "base"), c) else
  if tkB (tkM (tkM (tkM b "all") "part") "base") "shape" = true then (shW (bSh (tkM (tkM (tkM (tkM b "all") "part") "base") "shape")), c) else
  (lsM n w (tkM (tkM (tkM (tkM b "all") "part") "base") "shape"), c)
def liM (n bc : Nat) (b : G1) (c : G3) : G1 × G3 := (musM (leM n bc (nI (tkP b)) (heB b) c).1 (nI 59), (leM n bc (nI (tkP b)) (heB b) c).2)
set_option maxRecDepth 100000 in
theorem m_lnM (adK : Nat → Nat) (d : Nat) (Y : MN) (P : Nat → MN) (a : G0) (b : G1) (c : G3) (e : G4) (f : G5) (g : G6) (h : G7) (n : Nat) (w : Int32) (more : Bool) (hn : n ≤ 11) (hn1 : 1 ≤ n) (hb : rdOk b) (hf4 : b.2.2.1 ≤ 4) {Q : pnR → List pnE → Prop} (k : pnWP mX7_readsLine adK (d + 6) Q 0 0 (hM Y P a (lnM n more b) c e f g h) [some (.ref 0), some (.int w), some (.int (nI (n - 1)))] [] 214) : pnWP mX7_readsLine adK (d + 6) Q 0 0 (hM Y P a b c e f g h) [some (.ref 0), some (.int w), some (.int (nI (n - 1))), some (.int (nB more))] [] 130 := by
  have CN1 := m_num adK (d + 3) Y P a b c e f g h 0 (n - 1) (-1) (by omega) (by omega) hb hf4
  obtain ⟨r1, r2, r3⟩ := rdOk_num (lo := 0) (hi := n - 1) (but := -1) hb hf4
  obtain ⟨s1, s2⟩ := num_keep (lo := 0) (hi := n - 1) (but := -1) (b := b)
  have hfi1 := num_fine (lo := 0) (hi := n - 1) (but := -1) (b := b)
  unfold lnM at k
  generalize numM 0 (n - 1) (-1) b = r at *
  have CN2 := m_num adK (d + 3) Y P a r.2 c e f g h 0 (n - 1) (nI r.1) (by omega) (by omega) r1 r2
  obtain ⟨t1, t2, t3⟩ := rdOk_num (lo := 0) (hi := n - 1) (but := nI r.1) r1 r2
  obtain ⟨u1, u2⟩ := num_keep (lo := 0) (hi := n - 1) (but := nI r.1) (b := r.2)
  have hfi2 := num_fine (lo := 0) (hi := n - 1) (but := nI r.1) (b := r.2)
  generalize numM 0 (n - 1) (nI r.1) r.2 = q at *
  have CF := m_fine adK (d + 5) Y P a q.2 c e f g h t2
  by_cases hq : q.2.2.2.1 = 0
  · rw [decide_eq_true hq] at CF
    rw [if_pos hq] at k
    obtain ⟨v1, v2, v3, v4⟩ := hfi2 hq
    obtain ⟨w1, w2, w3, w4⟩ := hfi1 v1
    have hne : r.1 ≠ q.1 := fun e => v4 (by rw [e])
    have CL := m_lineOf adK (d + 4) n r.1 q.1 hn (by omega) (by omega) hne
    have eT : q.2.2.2.2.2.2.1 = b.2.2.2.2.2.1 := by rw [u2, s2]
    have eT9 : q.2.2.2.2.2.2.1 29 = b.2.2.2.2.2.1 29 := by rw [eT]
    rw [← eT] at k
    cases more with
    | true =>
      have eg : gLn true n (q.2.2.2.2.2.2.1 29) r.1 q.1 = q.2.2.2.2.2.2.1 29 ||| bL (lnN n r.1 q.1) := rfl
      rw [eg] at k
      refine pn_aload_n (q := 131) dX7_readsLine_130 rfl rfl rfl ?_
      refine pn_iconst (q := 132) (v := nI 0) dX7_readsLine_131 rfl (by decide) ?_
      refine pn_iload_n (q := 133) dX7_readsLine_132 rfl rfl ?_
      refine pn_iconst (q := 134) (v := (-1)) dX7_readsLine_133 rfl (by decide) ?_
      refine pn_idV (q := 137) (bc9 := 0) (bs9 := 0) (CN1) lkX7_146 dX7_readsLine_134 rfl rfl (hM_cl) (hM_cl) (Nat.le_of_ble_eq_true rfl) rfl rfl rfl rfl rfl rfl (by omega) (by omega) (by omega) (Nat.le_of_ble_eq_true rfl) ?_
      refine pn_istore (q := 139) dX7_readsLine_137 rfl (by decide) ?_
      refine pn_aload_n (q := 140) dX7_readsLine_139 rfl rfl rfl ?_
      refine pn_iconst (q := 141) (v := nI 0) dX7_readsLine_140 rfl (by decide) ?_
      refine pn_iload_n (q := 142) dX7_readsLine_141 rfl rfl ?_
      refine pn_iload (q := 144) dX7_readsLine_142 rfl rfl ?_
      refine pn_idV (q := 147) (bc9 := 0) (bs9 := 0) (CN2) lkX7_146 dX7_readsLine_144 rfl rfl (hM_cl) (hM_cl) (Nat.le_of_ble_eq_true rfl) rfl rfl rfl rfl rfl rfl (by omega) (by omega) (by omega) (Nat.le_of_ble_eq_true rfl) ?_
      refine pn_istore (q := 149) dX7_readsLine_147 rfl (by decide) ?_
      refine pn_aload_n (q := 150) dX7_readsLine_149 rfl rfl rfl ?_
      refine pn_idV (q := 153) (bc9 := 0) (bs9 := 0) (CF) lkX7_116 dX7_readsLine_150 rfl rfl (hM_cl) (hM_cl) (Nat.le_of_ble_eq_true rfl) rfl rfl rfl rfl rfl rfl (by omega) (by omega) (by omega) (Nat.le_of_ble_eq_true rfl) ?_
      refine pn_beq (q := 156) (tgt := 214) dX7_readsLine_153 (by decide) rfl (fun hc153 => ?_) (fun hc153 => ?_)
      · cases hc153
      · refine pn_aload_n (q := 157) dX7_readsLine_156 rfl rfl rfl ?_
        refine pn_get (q := 160) fX7_24 dX7_readsLine_157 rfl rfl rfl ?_
        refine pn_bipush (q := 162) (v := nI 29) dX7_readsLine_160 rfl (by decide) ?_
        refine pn_iload_n (q := 163) dX7_readsLine_162 rfl rfl ?_
        refine pn_beq (q := 166) (tgt := 189) dX7_readsLine_163 (by decide) rfl (fun hc163 => ?_) (fun hc163 => ?_)
        · cases hc163
        · refine pn_aload_n (q := 167) dX7_readsLine_166 rfl rfl rfl ?_
          refine pn_get (q := 170) fX7_24 dX7_readsLine_167 rfl rfl rfl ?_
          refine pn_bipush (q := 172) (v := nI 29) dX7_readsLine_170 rfl (by decide) ?_
          refine pn_lald1 (q := 173) dX7_readsLine_172 rfl rfl rfl (by omega) (by decide) ?_
          refine pn_lconst (q := 174) (v := lN 1) dX7_readsLine_173 rfl (by decide) ?_
          refine pn_iload_n (q := 175) dX7_readsLine_174 rfl rfl ?_
          refine pn_iconst (q := 176) (v := nI 1) dX7_readsLine_175 rfl (by decide) ?_
          refine pn_iaddN (q := 177) dX7_readsLine_176 rfl ?_; rw [show n - 1 + 1 = n by omega]
          refine pn_iload (q := 179) dX7_readsLine_177 rfl rfl ?_
          refine pn_iload (q := 181) dX7_readsLine_179 rfl rfl ?_
          refine pn_roS1 (q := 184) (CL) lkX7_96 dX7_readsLine_181 rfl rfl (pnSel_of (I := []) rfl rfl) (pnFree_none rfl) rfl (by omega) (Nat.le_of_ble_eq_true rfl) rfl ?_
          refine pn_lshl (q := 185) dX7_readsLine_184 rfl ?_
          refine pn_lor (q := 186) dX7_readsLine_185 rfl ?_
          refine pn_goto (q := 213) dX7_readsLine_186 (by decide) ?_
          first | refine pn_last1 (q := 214) dX7_readsLine_213 rfl rfl rfl (by omega) (by first | decide | omega) ?_ | refine pn_last5 (q := 214) dX7_readsLine_213 rfl rfl rfl (by omega) (by first | decide | omega) ?_
          exact pn_take 3 k
    | false =>
      have eg : gLn false n (q.2.2.2.2.2.2.1 29) r.1 q.1 = q.2.2.2.2.2.2.1 29 &&& (bL (lnN n r.1 q.1) ^^^ (-1)) := rfl
      rw [eg] at k
      refine pn_aload_n (q := 131) dX7_readsLine_130 rfl rfl rfl ?_
      refine pn_iconst (q := 132) (v := nI 0) dX7_readsLine_131 rfl (by decide) ?_
      refine pn_iload_n (q := 133) dX7_readsLine_132 rfl rfl ?_
      refine pn_iconst (q := 134) (v := (-1)) dX7_readsLine_133 rfl (by decide) ?_
      refine pn_idV (q := 137) (bc9 := 0) (bs9 := 0) (CN1) lkX7_146 dX7_readsLine_134 rfl rfl (hM_cl) (hM_cl) (Nat.le_of_ble_eq_true rfl) rfl rfl rfl rfl rfl rfl (by omega) (by omega) (by omega) (Nat.le_of_ble_eq_true rfl) ?_
      refine pn_istore (q := 139) dX7_readsLine_137 rfl (by decide) ?_
      refine pn_aload_n (q := 140) dX7_readsLine_139 rfl rfl rfl ?_
      refine pn_iconst (q := 141) (v := nI 0) dX7_readsLine_140 rfl (by decide) ?_
      refine pn_iload_n (q := 142) dX7_readsLine_141 rfl rfl ?_
      refine pn_iload (q := 144) dX7_readsLine_142 rfl rfl ?_
      refine pn_idV (q := 147) (bc9 := 0) (bs9 := 0) (CN2) lkX7_146 dX7_readsLine_144 rfl rfl (hM_cl) (hM_cl) (Nat.le_of_ble_eq_true rfl) rfl rfl rfl rfl rfl rfl (by omega) (by omega) (by omega) (Nat.le_of_ble_eq_true rfl) ?_
      refine pn_istore (q := 149) dX7_readsLine_147 rfl (by decide) ?_
      refine pn_aload_n (q := 150) dX7_readsLine_149 rfl rfl rfl ?_
      refine pn_idV (q := 153) (bc9 := 0) (bs9 := 0) (CF) lkX7_116 dX7_readsLine_150 rfl rfl (hM_cl) (hM_cl) (Nat.le_of_ble_eq_true rfl) rfl rfl rfl rfl rfl rfl (by omega) (by omega) (by omega) (Nat.le_of_ble_eq_true rfl) ?_
      refine pn_beq (q := 156) (tgt := 214) dX7_readsLine_153 (by decide) rfl (fun hc153 => ?_) (fun hc153 => ?_)
      · cases hc153
      · refine pn_aload_n (q := 157) dX7_readsLine_156 rfl rfl rfl ?_
        refine pn_get (q := 160) fX7_24 dX7_readsLine_157 rfl rfl rfl ?_
        refine pn_bipush (q := 162) (v := nI 29) dX7_readsLine_160 rfl (by decide) ?_
        refine pn_iload_n (q := 163) dX7_readsLine_162 rfl rfl ?_
        refine pn_beq (q := 166) (tgt := 189) dX7_readsLine_163 (by decide) rfl (fun hc163 => ?_) (fun hc163 => ?_)
        · refine pn_aload_n (q := 190) dX7_readsLine_189 rfl rfl rfl ?_
          refine pn_get (q := 193) fX7_24 dX7_readsLine_190 rfl rfl rfl ?_
          refine pn_bipush (q := 195) (v := nI 29) dX7_readsLine_193 rfl (by decide) ?_
          refine pn_lald1 (q := 196) dX7_readsLine_195 rfl rfl rfl (by omega) (by decide) ?_
          refine pn_lconst (q := 197) (v := lN 1) dX7_readsLine_196 rfl (by decide) ?_
          refine pn_iload_n (q := 198) dX7_readsLine_197 rfl rfl ?_
          refine pn_iconst (q := 199) (v := nI 1) dX7_readsLine_198 rfl (by decide) ?_
          refine pn_iaddN (q := 200) dX7_readsLine_199 rfl ?_; rw [show n - 1 + 1 = n by omega]
          refine pn_iload (q := 202) dX7_readsLine_200 rfl rfl ?_
          refine pn_iload (q := 204) dX7_readsLine_202 rfl rfl ?_
          refine pn_roS1 (q := 207) (CL) lkX7_96 dX7_readsLine_204 rfl rfl (pnSel_of (I := []) rfl rfl) (pnFree_none rfl) rfl (by omega) (Nat.le_of_ble_eq_true rfl) rfl ?_
          refine pn_lshl (q := 208) dX7_readsLine_207 rfl ?_
          refine pn_ldc2 (q := 211) pw_1283 dX7_readsLine_208 rfl ?_
          refine pn_lxor (q := 212) dX7_readsLine_211 rfl ?_
          refine pn_land (q := 213) dX7_readsLine_212 rfl ?_
          first | refine pn_last1 (q := 214) dX7_readsLine_213 rfl rfl rfl (by omega) (by first | decide | omega) ?_ | refine pn_last5 (q := 214) dX7_readsLine_213 rfl rfl rfl (by omega) (by first | decide | omega) ?_
          exact pn_take 3 k
        · cases hc163
  · rw [decide_eq_false hq] at CF
    rw [if_neg hq] at k
    refine pn_aload_n (q := 131) dX7_readsLine_130 rfl rfl rfl ?_
    refine pn_iconst (q := 132) (v := nI 0) dX7_readsLine_131 rfl (by decide) ?_
    refine pn_iload_n (q := 133) dX7_readsLine_132 rfl rfl ?_
    refine pn_iconst (q := 134) (v := (-1)) dX7_readsLine_133 rfl (by decide) ?_
    refine pn_idV (q := 137) (bc9 := 0) (bs9 := 0) (CN1) lkX7_146 dX7_readsLine_134 rfl rfl (hM_cl) (hM_cl) (Nat.le_of_ble_eq_true rfl) rfl rfl rfl rfl rfl rfl (by omega) (by omega) (by omega) (Nat.le_of_ble_eq_true rfl) ?_
    refine pn_istore (q := 139) dX7_readsLine_137 rfl (by decide) ?_
    refine pn_aload_n (q := 140) dX7_readsLine_139 rfl rfl rfl ?_
    refine pn_iconst (q := 141) (v := nI 0) dX7_readsLine_140 rfl (by decide) ?_
    refine pn_iload_n (q := 142) dX7_readsLine_141 rfl rfl ?_
    refine pn_iload (q := 144) dX7_readsLine_142 rfl rfl ?_
    refine pn_idV (q := 147) (bc9 := 0) (bs9 := 0) (CN2) lkX7_146 dX7_readsLine_144 rfl rfl (hM_cl) (hM_cl) (Nat.le_of_ble_eq_true rfl) rfl rfl rfl rfl rfl rfl (by omega) (by omega) (by omega) (Nat.le_of_ble_eq_true rfl) ?_
    refine pn_istore (q := 149) dX7_readsLine_147 rfl (by decide) ?_
    refine pn_aload_n (q := 150) dX7_readsLine_149 rfl rfl rfl ?_
    refine pn_idV (q := 153) (bc9 := 0) (bs9 := 0) (CF) lkX7_116 dX7_readsLine_150 rfl rfl (hM_cl) (hM_cl) (Nat.le_of_ble_eq_true rfl) rfl rfl rfl rfl rfl rfl (by omega) (by omega) (by omega) (Nat.le_of_ble_eq_true rfl) ?_
    refine pn_beq (q := 156) (tgt := 214) dX7_readsLine_153 (by decide) rfl (fun hc153 => ?_) (fun hc153 => ?_)
    · exact pn_take 3 k
    · cases hc153
set_option maxRecDepth 100000 in
theorem m_lsM (adK : Nat → Nat) (d : Nat) (Y : MN) (P : Nat → MN) (a : G0) (b : G1) (c : G3) (e : G4) (f : G5) (g : G6) (h : G7) (n : Nat) (w : Int32) (hn : n ≤ 11) (hn1 : 1 ≤ n) (hb : rdOk b) (hf4 : b.2.2.1 ≤ 4) {Q : pnR → List pnE → Prop} (k : pnWP mX7_readsLine adK (d + 6) Q 0 0 (hM Y P a (lsM n w b) c e f g h) [some (.ref 0), some (.int w), some (.int (nI (n - 1)))] [] 214) : pnWP mX7_readsLine adK (d + 6) Q 0 0 (hM Y P a b c e f g h) [some (.ref 0), some (.int w), some (.int (nI (n - 1)))] [] 104 := by
  have CA := m_tk adK (d + 1) Y P a b c e f g h 34 ("PartedNetModel", 196, "line") rfl hb hf4
  obtain ⟨a1, a2, a3, a4⟩ := rdOk_tk (b := b) (j := 34) (x := ("PartedNetModel", 196, "line")) rfl hb hf4
  unfold lsM at k
  dsimp only at CA a1 a2 a3 a4
  generalize tkM b "line" = b1 at *
  have CB := m_tk adK (d + 1) Y P a b1 c e f g h 35 ("PartedNetModel", 198, "less") rfl a1 (by omega)
  obtain ⟨c1, c2, c3, c4⟩ := rdOk_tk (b := b1) (j := 35) (x := ("PartedNetModel", 198, "less")) rfl a1 (by omega)
  dsimp only at CB c1 c2 c3 c4
  generalize tkM b1 "less" = b2 at *
  cases g1 : tkB b "line" with
  | true =>
    rw [g1] at CA
    rw [if_pos g1] at k
    have k9 := m_lnM adK d Y P a b1 c e f g h n w true hn hn1 a1 (by omega) k
    refine pn_aload_n (q := 105) dX7_readsLine_104 rfl rfl rfl ?_
    refine pn_ldcS (q := 107) (j := 34) rfl dX7_readsLine_105 rfl ?_
    refine pn_idV (q := 110) (bc9 := 0) (bs9 := 0) (CA) lkX7_155 dX7_readsLine_107 rfl rfl (hM_cl) (hM_cl) (Nat.le_of_ble_eq_true rfl) rfl rfl rfl rfl rfl rfl (by omega) (by omega) (by omega) (Nat.le_of_ble_eq_true rfl) ?_
    refine pn_istore_n (q := 111) dX7_readsLine_110 rfl (by decide) ?_
    refine pn_iload_n (q := 112) dX7_readsLine_111 rfl rfl ?_
    refine pn_bne (q := 115) (tgt := 130) dX7_readsLine_112 (by decide) rfl (fun hc112 => ?_) (fun hc112 => ?_)
    · exact k9
    · cases hc112
  | false =>
    rw [g1] at CA
    rw [if_neg (by rw [g1]; exact Bool.false_ne_true)] at k
    cases g2 : tkB b1 "less" with
    | true =>
      rw [g2] at CB
      rw [if_pos g2] at k
      have k9 := m_lnM adK d Y P a b2 c e f g h n w false hn hn1 c1 (by omega) k
      refine pn_aload_n (q := 105) dX7_readsLine_104 rfl rfl rfl ?_
      refine pn_ldcS (q := 107) (j := 34) rfl dX7_readsLine_105 rfl ?_
      refine pn_idV (q := 110) (bc9 := 0) (bs9 := 0) (CA) lkX7_155 dX7_readsLine_107 rfl rfl (hM_cl) (hM_cl) (Nat.le_of_ble_eq_true rfl) rfl rfl rfl rfl rfl rfl (by omega) (by omega) (by omega) (Nat.le_of_ble_eq_true rfl) ?_
      refine pn_istore_n (q := 111) dX7_readsLine_110 rfl (by decide) ?_
      refine pn_iload_n (q := 112) dX7_readsLine_111 rfl rfl ?_
      refine pn_bne (q := 115) (tgt := 130) dX7_readsLine_112 (by decide) rfl (fun hc112 => ?_) (fun hc112 => ?_)
      · cases hc112
      · refine pn_aload_n (q := 116) dX7_readsLine_115 rfl rfl rfl ?_
        refine pn_ldcS (q := 118) (j := 35) rfl dX7_readsLine_116 rfl ?_
        refine pn_idV (q := 121) (bc9 := 0) (bs9 := 0) (CB) lkX7_155 dX7_readsLine_118 rfl rfl (hM_cl) (hM_cl) (Nat.le_of_ble_eq_true rfl) rfl rfl rfl rfl rfl rfl (by omega) (by omega) (by omega) (Nat.le_of_ble_eq_true rfl) ?_
        refine pn_bne (q := 124) (tgt := 130) dX7_readsLine_121 (by decide) rfl (fun hc121 => ?_) (fun hc121 => ?_)
        · exact k9
        · cases hc121
    | false =>
      rw [g2] at CB
      rw [if_neg (by rw [g2]; exact Bool.false_ne_true)] at k
      have k9 := m_lnM adK d Y P a (bWr b2 1 w) c e f g h n w false hn hn1 (rdOk_wr c1) (ft_wr (by omega) (by omega)) k
      refine pn_aload_n (q := 105) dX7_readsLine_104 rfl rfl rfl ?_
      refine pn_ldcS (q := 107) (j := 34) rfl dX7_readsLine_105 rfl ?_
      refine pn_idV (q := 110) (bc9 := 0) (bs9 := 0) (CA) lkX7_155 dX7_readsLine_107 rfl rfl (hM_cl) (hM_cl) (Nat.le_of_ble_eq_true rfl) rfl rfl rfl rfl rfl rfl (by omega) (by omega) (by omega) (Nat.le_of_ble_eq_true rfl) ?_
      refine pn_istore_n (q := 111) dX7_readsLine_110 rfl (by decide) ?_
      refine pn_iload_n (q := 112) dX7_readsLine_111 rfl rfl ?_
      refine pn_bne (q := 115) (tgt := 130) dX7_readsLine_112 (by decide) rfl (fun hc112 => ?_) (fun hc112 => ?_)
      · cases hc112
      · refine pn_aload_n (q := 116) dX7_readsLine_115 rfl rfl rfl ?_
        refine pn_ldcS (q := 118) (j := 35) rfl dX7_readsLine_116 rfl ?_
        refine pn_idV (q := 121) (bc9 := 0) (bs9 := 0) (CB) lkX7_155 dX7_readsLine_118 rfl rfl (hM_cl) (hM_cl) (Nat.le_of_ble_eq_true rfl) rfl rfl rfl rfl rfl rfl (by omega) (by omega) (by omega) (Nat.le_of_ble_eq_true rfl) ?_
        refine pn_bne (q := 124) (tgt := 130) dX7_readsLine_121 (by decide) rfl (fun hc121 => ?_) (fun hc121 => ?_)
        · cases hc121
        · refine pn_aload_n (q := 125) dX7_readsLine_124 rfl rfl rfl ?_
          refine pn_iconst (q := 126) (v := nI 1) dX7_readsLine_125 rfl (by decide) ?_
          refine pn_iload_n (q := 127) dX7_readsLine_126 rfl rfl ?_
          refine pn_idV (q := 130) (bc9 := 0) (bs9 := 0) (m_wrong adK (d + 5) Y P a b2 c e f g h 1 w (by omega)) lkX7_137 dX7_readsLine_127 rfl rfl (hM_cl) (hM_cl) (Nat.le_of_ble_eq_true rfl) rfl rfl rfl rfl rfl rfl (by omega) (by omega) (by omega) (Nat.le_of_ble_eq_true rfl) ?_
          exact k9
/-- what stays as it is while a text is read: its length, its bytes; and the bounds -/
def rdK (b b' : G1) : Prop := rdOk b' ∧ b'.2.2.1 ≤ 4 ∧ b'.1 = b.1 ∧ b'.2.2.2.2.1 = b.2.2.2.2.1
theorem rdK_tk {b b0 : G1} {j : Nat} {x : String × Nat × String} (hj : pnStr[j]? = some x) (h : rdK b0 b) : rdK b0 (tkM b x.2.2) := by
  obtain ⟨h1, h2, h3, h4⟩ := h
  obtain ⟨a1, a2, a3, a4⟩ := rdOk_tk (b := b) hj h1 h2
  exact ⟨a1, by omega, by rw [a3, h3], by rw [a4, h4]⟩
theorem rdK_num {lo hi : Nat} {but : Int32} {b b0 : G1} (h : rdK b0 b) : rdK b0 (numM lo hi but b).2 := by
  obtain ⟨h1, h2, h3, h4⟩ := h
  obtain ⟨r1, r2, r3⟩ := rdOk_num (lo := lo) (hi := hi) (but := but) h1 h2
  obtain ⟨s1, s2⟩ := num_keep (lo := lo) (hi := hi) (but := but) (b := b)
  exact ⟨r1, r2, by rw [s1, h3], by rw [s2, h4]⟩
theorem rdK_wr {b b0 : G1} {w : Nat} {p : Int32} (h : rdK b0 b) (hw : w ≤ 4) : rdK b0 (bWr b w p) := by
  obtain ⟨h1, h2, h3, h4⟩ := h
  obtain ⟨s1, s2⟩ := wr_keep b w p
  exact ⟨rdOk_wr h1, ft_wr h2 hw, by rw [s1, h3], by rw [s2, h4]⟩
theorem rdK_T {b b0 : G1} {T : Nat → Int64} (h : rdK b0 b) : rdK b0 (bT b T) := h
theorem rdK_he {b b0 : G1} (h : rdK b0 b) : rdK b0 (heB b) := ⟨rdOk_at h.1 (tkP_le h.1).2, h.2.1, h.2.2.1, h.2.2.2⟩
theorem rdK_rn {most : Nat} {b b0 : G1} {x : Nat → Int32} (h : rdK b0 b) : rdK b0 (rnM most 6 b (x, 0)).1 ∧ (rnM most 6 b (x, 0)).2.2 ≤ 5 := by
  obtain ⟨h1, h2, h3, h4⟩ := h
  obtain ⟨k1, k2, k3, k4, k5⟩ := rn_keep (most := most) 6 b (x, 0) h1 h2 rfl (by show 0 ≤ 5; omega)
  exact ⟨⟨k3, k4, by rw [k1, h3], by rw [k2, h4]⟩, k5⟩
theorem rdK_pr {n : Nat} {b b0 : G1} {c : G3} (h : rdK b0 b) : rdK b0 (prM n b c).1 ∧ (prM n b c).2.2 ≤ 5 := by
  obtain ⟨h1, h2⟩ := rdK_rn (most := n - 1) (x := c.1) h
  unfold prM
  generalize rnM (n - 1) 6 b (c.1, 0) = r at *
  by_cases q : r.1.2.2.1 = 0
  · rw [if_pos q]; exact ⟨h1, h2⟩
  · rw [if_neg q]; exact ⟨h1, h2⟩
theorem rdK_ba {bc : Nat} {w : Int32} {b b0 : G1} {c : G3} (h : rdK b0 b) : rdK b0 (baM bc w b c).1 ∧ (baM bc w b c).2.2 ≤ 5 := by
  have h0 : rdK b0 (baB bc w b) := by
    unfold baB
    by_cases q : bc = 4
    · rw [if_pos q]; exact rdK_wr h (by omega)
    · rw [if_neg q]; exact h
  obtain ⟨h1, h2⟩ := rdK_rn (most := 30) (x := c.1) h0
  unfold baM
  generalize rnM 30 6 (baB bc w b) (c.1, 0) = r at *
  by_cases q : r.1.2.2.1 = 0
  · rw [if_pos q]; exact ⟨h1, h2⟩
  · rw [if_neg q]; exact ⟨h1, h2⟩
theorem rdK_shZ {s : Int64} {b b0 : G1} (h : rdK b0 b) : rdK b0 (shZ s b) := by
  unfold shZ
  have z : ∀ r : Nat × G1, rdK b0 r.2 → rdK b0 (shZ2 r) := fun r hr => hr
  apply z
  by_cases q1 : s = -1
  · rw [if_pos q1]; exact rdK_num (rdK_wr (rdK_T h) (by omega))
  · rw [if_neg q1]
    by_cases q2 : s = lN 0
    · rw [if_pos q2]; exact rdK_T h
    · rw [if_neg q2]
      by_cases q3 : s = lN 3
      · rw [if_pos q3]; exact rdK_num (rdK_T h)
      · rw [if_neg q3]; exact rdK_num (rdK_T h)
theorem rdK_shW {b b0 : G1} (h : rdK b0 b) : rdK b0 (shW b) := by
  have h1 := rdK_tk (j := 30) (x := ("PartedNetModel", 153, "triangle")) rfl h
  have h2 := rdK_tk (j := 31) (x := ("PartedNetModel", 159, "path")) rfl h1
  have h3 := rdK_tk (j := 32) (x := ("PartedNetModel", 161, "star")) rfl h2
  have h4 := rdK_tk (j := 33) (x := ("PartedNetModel", 163, "ring")) rfl h3
  unfold shW
  repeat' split
  · exact rdK_shZ h1
  · exact rdK_shZ h2
  · exact rdK_shZ h3
  · exact rdK_shZ h4
  · exact rdK_shZ h4
theorem rdK_ln {n : Nat} {more : Bool} {b b0 : G1} (h : rdK b0 b) : rdK b0 (lnM n more b) := by
  have h1 := rdK_num (lo := 0) (hi := n - 1) (but := -1) h
  unfold lnM
  generalize numM 0 (n - 1) (-1) b = r at *
  have h2 := rdK_num (lo := 0) (hi := n - 1) (but := nI r.1) h1
  generalize numM 0 (n - 1) (nI r.1) r.2 = q at *
  by_cases q1 : q.2.2.2.1 = 0
  · rw [if_pos q1]; exact rdK_T h2
  · rw [if_neg q1]; exact h2
theorem rdK_ls {n : Nat} {w : Int32} {b b0 : G1} (h : rdK b0 b) : rdK b0 (lsM n w b) := by
  have h1 := rdK_tk (j := 34) (x := ("PartedNetModel", 196, "line")) rfl h
  have h2 := rdK_tk (j := 35) (x := ("PartedNetModel", 198, "less")) rfl h1
  unfold lsM
  by_cases q1 : tkB b "line" = true
  · rw [if_pos q1]; exact rdK_ln h1
  · rw [if_neg q1]
    by_cases q2 : tkB (tkM b "line") "less" = true
    · rw [if_pos q2]; exact rdK_ln h2
    · rw [if_neg q2]; exact rdK_ln (rdK_wr h2 (by omega))
theorem rdK_le {n bc : Nat} {w : Int32} {b b0 : G1} {c : G3} (hc : c.2 ≤ 5) (h : rdK b0 b) : rdK b0 (leM n bc w b c).1 ∧ (leM n bc w b c).2.2 ≤ 5 := by
  have h1 := rdK_tk (j := 26) (x := ("PartedNetModel", 176, "all")) rfl h
  have h2 := rdK_tk (j := 27) (x := ("PartedNetModel", 181, "part")) rfl h1
  have h3 := rdK_tk (j := 28) (x := ("PartedNetModel", 186, "base")) rfl h2
  have h4 := rdK_tk (j := 29) (x := ("PartedNetModel", 191, "shape")) rfl h3
  unfold leM
  by_cases q1 : tkB b "all" = true
  · rw [if_pos q1]; exact ⟨rdK_T h1, hc⟩
  · rw [if_neg q1]
    by_cases q2 : tkB (tkM b "all") "part" = true
    · rw [if_pos q2]; exact rdK_pr h2
    · rw [if_neg q2]
      by_cases q3 : tkB (tkM (tkM b "all") "part") "base" = true
      · rw [if_pos q3]; exact rdK_ba h3
      · rw [if_neg q3]
        by_cases q4 : b.2.2.2.2.2.2.2.2.2 = true
        · rw [if_pos q4]; exact ⟨rdK_ls h3, hc⟩
        · rw [if_neg q4]
          by_cases q5 : tkB (tkM (tkM (tkM b "all") "part") "base") "shape" = true
          · rw [if_pos q5]; exact ⟨rdK_shW (b := bSh _) h4, hc⟩
          · rw [if_neg q5]; exact ⟨rdK_ls h4, hc⟩
theorem rdK_mus {x : Int32} {b b0 : G1} (hx : ¬ x = -1) (h : rdK b0 b) : rdK b0 (musM b x) := by
  have hp := tkP_le h.1
  unfold musM
  by_cases q1 : b.2.2.1 = 0
  · rw [if_pos q1]
    by_cases q2 : byM b (tkP b) = x
    · rw [if_pos q2]
      have : tkP b < b.1 := by
        unfold byM at q2
        split at q2
        · assumption
        · exact absurd q2.symm hx
      exact ⟨rdOk_at h.1 this, h.2.1, h.2.2.1, h.2.2.2⟩
    · rw [if_neg q2]
      exact rdK_wr (rdK_he h) (by omega)
  · rw [if_neg q1]; exact h
set_option maxRecDepth 100000 in
theorem m_readsLine (adK : Nat → Nat) (d : Nat) (Y : MN) (P : Nat → MN) (a : G0) (b : G1) (c : G3) (e : G4) (f : G5) (g : G6) (h : G7) (n bc : Nat) (hT0 : b.2.2.2.2.2.1 0 = lN n) (hT4 : b.2.2.2.2.2.1 4 = lN bc) (hbc : bc ≤ 4) (hn : n ≤ 11) (hn1 : 1 ≤ n) (hb : rdOk b) (hf : b.2.2.1 = 0) (hpm : b.2.2.2.2.2.2.2.2.1 < 300) (hc5 : c.2 ≤ 5) : pnCt mX7_readsLine adK (d + 6) 0 0 [.ref 0] (hM Y P a b c e f g h) (pnIs (.inl none) (hM Y P a (liM n bc b c).1 (liM n bc b c).2 e f g h)) := by
  refine pnCt_of (by decide) kX7_readsLine (Nat.le_of_ble_eq_true rfl) rfl hM_cl (pnCS_b rfl) ?_
  have hK0 : rdK b b := ⟨hb, by omega, rfl, rfl⟩
  obtain ⟨⟨z1, z2, z3, z4⟩, z5⟩ := rdK_le (n := n) (bc := bc) (w := nI (tkP b)) (b := heB b) (b0 := b) (c := c) hc5 (rdK_he hK0)
  have CM := m_must adK (d + 3) Y P a (leM n bc (nI (tkP b)) (heB b) c).1 (leM n bc (nI (tkP b)) (heB b) c).2 e f g h (nI 59) z1 z2
  have fin : pnWP mX7_readsLine adK (d + 6) (pnIs (.inl none) (hM Y P a (liM n bc b c).1 (liM n bc b c).2 e f g h)) 0 0 (hM Y P a (leM n bc (nI (tkP b)) (heB b) c).1 (leM n bc (nI (tkP b)) (heB b) c).2 e f g h) [some (.ref 0), some (.int (nI (tkP b))), some (.int (nI (n - 1)))] [] 214 := by
    refine pn_aload_n (q := 215) dX7_readsLine_214 rfl rfl rfl ?_
    refine pn_bipush (q := 217) (v := nI 59) dX7_readsLine_215 rfl (by decide) ?_
    refine pn_idV (q := 220) (bc9 := 0) (bs9 := 0) (CM) lkX7_199 dX7_readsLine_217 rfl rfl (hM_cl) (hM_cl) (Nat.le_of_ble_eq_true rfl) rfl rfl rfl rfl rfl rfl (by omega) (by omega) (by omega) (Nat.le_of_ble_eq_true rfl) ?_
    refine pn_vret dX7_readsLine_220 rfl ?_
    exact ⟨rfl, rfl⟩
  have key : ∀ (b0 : G1) (w : Int32), rdOk b0 → b0.2.2.1 = 0 → b0.2.2.2.2.2.1 0 = lN n → b0.2.2.2.2.2.1 4 = lN bc → b0.2.2.2.2.2.2.2.2.1 < 300 → ∀ Q : pnR → List pnE → Prop, pnWP mX7_readsLine adK (d + 6) Q 0 0 (hM Y P a (leM n bc w b0 c).1 (leM n bc w b0 c).2 e f g h) [some (.ref 0), some (.int w), some (.int (nI (n - 1)))] [] 214 → pnWP mX7_readsLine adK (d + 6) Q 0 0 (hM Y P a b0 c e f g h) [some (.ref 0), some (.int w), some (.int (nI (n - 1)))] [] 20 := by
    intro b0 w hb0 hf0 hA0 hA4 hpm0 Q kk
    have CA := m_tk adK (d + 1) Y P a b0 c e f g h 26 ("PartedNetModel", 176, "all") rfl hb0 (by omega)
    obtain ⟨a1, a2, a3, a4⟩ := rdOk_tk (b := b0) (j := 26) (x := ("PartedNetModel", 176, "all")) rfl hb0 (by omega)
    have ELM : leM n bc w b0 c = if tkB b0 "all" = true then (bT (tkM b0 "all") (vp_updL (tkM b0 "all").2.2.2.2.2.1 29 (allN n)), c) else if tkB (tkM b0 "all") "part" = true then prM n (tkM (tkM b0 "all") "part") c else if tkB (tkM (tkM b0 "all") "part") "base" = true then baM bc w (tkM (tkM (tkM b0 "all") "part") "base") c else if b0.2.2.2.2.2.2.2.2.2 = true then (lsM n w (tkM (tkM (tkM b0 "all") "part") "base"), c) else if tkB (tkM (tkM (tkM b0 "all") "part") "base") "shape" = true then (shW (bSh (tkM (tkM (tkM (tkM b0 "all") "part") "base") "shape")), c) else (lsM n w (tkM (tkM (tkM (tkM b0 "all") "part") "base") "shape"), c) := rfl
    rw [ELM] at kk
    clear ELM
    dsimp only at CA a1 a2 a3 a4
    generalize tkM b0 "all" = b1 at *
    have CB := m_tk adK (d + 1) Y P a b1 c e f g h 27 ("PartedNetModel", 181, "part") rfl a1 (by omega)
    obtain ⟨c1, c2, c3, c4⟩ := rdOk_tk (b := b1) (j := 27) (x := ("PartedNetModel", 181, "part")) rfl a1 (by omega)
    dsimp only at CB c1 c2 c3 c4
    generalize tkM b1 "part" = b2 at *
    have CC := m_tk adK (d + 1) Y P a b2 c e f g h 28 ("PartedNetModel", 186, "base") rfl c1 (by omega)
    obtain ⟨d1, d2, d3, d4⟩ := rdOk_tk (b := b2) (j := 28) (x := ("PartedNetModel", 186, "base")) rfl c1 (by omega)
    dsimp only at CC d1 d2 d3 d4
    generalize tkM b2 "base" = b3 at *
    have CD := m_tk adK (d + 1) Y P a b3 c e f g h 29 ("PartedNetModel", 191, "shape") rfl d1 (by omega)
    obtain ⟨f1, f2, f3, f4⟩ := rdOk_tk (b := b3) (j := 29) (x := ("PartedNetModel", 191, "shape")) rfl d1 (by omega)
    dsimp only at CD f1 f2 f3 f4
    generalize tkM b3 "shape" = b4 at *
    have t1 : b1.2.2.2.2.2.1 0 = lN n := by rw [a4]; exact hA0
    have t2 : b2.2.2.2.2.2.1 0 = lN n := by rw [c4, a4]; exact hA0
    have t3 : b3.2.2.2.2.2.1 4 = lN bc := by rw [d4, c4, a4]; exact hA4
    have p2 : b2.2.2.2.2.2.2.2.2.1 < 300 := by rw [c4, a4]; exact hpm0
    have s3 : b3.2.2.2.2.2.2.2.2.2 = b0.2.2.2.2.2.2.2.2.2 := by rw [d4, c4, a4]
    cases g1 : tkB b0 "all" with
    | true =>
      rw [g1] at CA
      rw [if_pos g1] at kk
      refine pn_aload_n (q := 21) dX7_readsLine_20 rfl rfl rfl ?_
      refine pn_ldcS (q := 23) (j := 26) rfl dX7_readsLine_21 rfl ?_
      refine pn_idV (q := 26) (bc9 := 0) (bs9 := 0) (CA) lkX7_155 dX7_readsLine_23 rfl rfl (hM_cl) (hM_cl) (Nat.le_of_ble_eq_true rfl) rfl rfl rfl rfl rfl rfl (by omega) (by omega) (by omega) (Nat.le_of_ble_eq_true rfl) ?_
      refine pn_beq (q := 29) (tgt := 48) dX7_readsLine_26 (by decide) rfl (fun hc26 => ?_) (fun hc26 => ?_)
      · cases hc26
      · refine pn_aload_n (q := 30) dX7_readsLine_29 rfl rfl rfl ?_
        refine pn_get (q := 33) fX7_24 dX7_readsLine_30 rfl rfl rfl ?_
        refine pn_bipush (q := 35) (v := nI 29) dX7_readsLine_33 rfl (by decide) ?_
        refine pn_aload_n (q := 36) dX7_readsLine_35 rfl rfl rfl ?_
        refine pn_get (q := 39) fX7_24 dX7_readsLine_36 rfl rfl rfl ?_
        refine pn_iconst (q := 40) (v := nI 0) dX7_readsLine_39 rfl (by decide) ?_
        refine pn_lald1 (q := 41) dX7_readsLine_40 rfl rfl rfl (by omega) (by decide) ?_; rw [t1]
        refine pn_roS1 (q := 44) (m_allOf adK d n hn hn1) lkX7_177 dX7_readsLine_41 rfl rfl (pnSel_of (I := []) rfl rfl) (pnFree_none rfl) rfl (by omega) (Nat.le_of_ble_eq_true rfl) rfl ?_
        first | refine pn_last1 (q := 45) dX7_readsLine_44 rfl rfl rfl (by omega) (by first | decide | omega) ?_ | refine pn_last5 (q := 45) dX7_readsLine_44 rfl rfl rfl (by omega) (by first | decide | omega) ?_
        refine pn_goto (q := 214) dX7_readsLine_45 (by decide) ?_
        exact kk
    | false =>
      rw [g1] at CA
      rw [if_neg (by rw [g1]; exact Bool.false_ne_true)] at kk
      cases g2 : tkB b1 "part" with
      | true =>
        rw [g2] at CB
        rw [if_pos g2] at kk
        refine pn_aload_n (q := 21) dX7_readsLine_20 rfl rfl rfl ?_
        refine pn_ldcS (q := 23) (j := 26) rfl dX7_readsLine_21 rfl ?_
        refine pn_idV (q := 26) (bc9 := 0) (bs9 := 0) (CA) lkX7_155 dX7_readsLine_23 rfl rfl (hM_cl) (hM_cl) (Nat.le_of_ble_eq_true rfl) rfl rfl rfl rfl rfl rfl (by omega) (by omega) (by omega) (Nat.le_of_ble_eq_true rfl) ?_
        refine pn_beq (q := 29) (tgt := 48) dX7_readsLine_26 (by decide) rfl (fun hc26 => ?_) (fun hc26 => ?_)
        · refine pn_aload_n (q := 49) dX7_readsLine_48 rfl rfl rfl ?_
          refine pn_ldcS (q := 51) (j := 27) rfl dX7_readsLine_49 rfl ?_
          refine pn_idV (q := 54) (bc9 := 0) (bs9 := 0) (CB) lkX7_155 dX7_readsLine_51 rfl rfl (hM_cl) (hM_cl) (Nat.le_of_ble_eq_true rfl) rfl rfl rfl rfl rfl rfl (by omega) (by omega) (by omega) (Nat.le_of_ble_eq_true rfl) ?_
          refine pn_beq (q := 57) (tgt := 64) dX7_readsLine_54 (by decide) rfl (fun hc54 => ?_) (fun hc54 => ?_)
          · cases hc54
          · refine pn_aload_n (q := 58) dX7_readsLine_57 rfl rfl rfl ?_
            refine pn_idV (q := 61) (bc9 := 0) (bs9 := 0) (m_readsPart adK (d + 1) Y P a b2 c e f g h n t2 hn hn1 c1 (by omega) p2) lkX7_183 dX7_readsLine_58 rfl rfl (hM_cl) (hM_cl) (Nat.le_of_ble_eq_true rfl) rfl rfl rfl rfl rfl rfl (by omega) (by omega) (by omega) (Nat.le_of_ble_eq_true rfl) ?_
            refine pn_goto (q := 214) dX7_readsLine_61 (by decide) ?_
            exact kk
        · cases hc26
      | false =>
        rw [g2] at CB
        rw [if_neg (by rw [g2]; exact Bool.false_ne_true)] at kk
        cases g3 : tkB b2 "base" with
        | true =>
          rw [g3] at CC
          rw [if_pos g3] at kk
          refine pn_aload_n (q := 21) dX7_readsLine_20 rfl rfl rfl ?_
          refine pn_ldcS (q := 23) (j := 26) rfl dX7_readsLine_21 rfl ?_
          refine pn_idV (q := 26) (bc9 := 0) (bs9 := 0) (CA) lkX7_155 dX7_readsLine_23 rfl rfl (hM_cl) (hM_cl) (Nat.le_of_ble_eq_true rfl) rfl rfl rfl rfl rfl rfl (by omega) (by omega) (by omega) (Nat.le_of_ble_eq_true rfl) ?_
          refine pn_beq (q := 29) (tgt := 48) dX7_readsLine_26 (by decide) rfl (fun hc26 => ?_) (fun hc26 => ?_)
          · refine pn_aload_n (q := 49) dX7_readsLine_48 rfl rfl rfl ?_
            refine pn_ldcS (q := 51) (j := 27) rfl dX7_readsLine_49 rfl ?_
            refine pn_idV (q := 54) (bc9 := 0) (bs9 := 0) (CB) lkX7_155 dX7_readsLine_51 rfl rfl (hM_cl) (hM_cl) (Nat.le_of_ble_eq_true rfl) rfl rfl rfl rfl rfl rfl (by omega) (by omega) (by omega) (Nat.le_of_ble_eq_true rfl) ?_
            refine pn_beq (q := 57) (tgt := 64) dX7_readsLine_54 (by decide) rfl (fun hc54 => ?_) (fun hc54 => ?_)
            · refine pn_aload_n (q := 65) dX7_readsLine_64 rfl rfl rfl ?_
              refine pn_ldcS (q := 67) (j := 28) rfl dX7_readsLine_65 rfl ?_
              refine pn_idV (q := 70) (bc9 := 0) (bs9 := 0) (CC) lkX7_155 dX7_readsLine_67 rfl rfl (hM_cl) (hM_cl) (Nat.le_of_ble_eq_true rfl) rfl rfl rfl rfl rfl rfl (by omega) (by omega) (by omega) (Nat.le_of_ble_eq_true rfl) ?_
              refine pn_beq (q := 73) (tgt := 81) dX7_readsLine_70 (by decide) rfl (fun hc70 => ?_) (fun hc70 => ?_)
              · cases hc70
              · refine pn_aload_n (q := 74) dX7_readsLine_73 rfl rfl rfl ?_
                refine pn_iload_n (q := 75) dX7_readsLine_74 rfl rfl ?_
                refine pn_idV (q := 78) (bc9 := 0) (bs9 := 0) (m_readsBase adK (d + 1) Y P a b3 c e f g h bc w t3 hbc d1 (by omega)) lkX7_188 dX7_readsLine_75 rfl rfl (hM_cl) (hM_cl) (Nat.le_of_ble_eq_true rfl) rfl rfl rfl rfl rfl rfl (by omega) (by omega) (by omega) (Nat.le_of_ble_eq_true rfl) ?_
                refine pn_goto (q := 214) dX7_readsLine_78 (by decide) ?_
                exact kk
            · cases hc54
          · cases hc26
        | false =>
          rw [g3] at CC
          rw [if_neg (by rw [g3]; exact Bool.false_ne_true)] at kk
          cases g4 : b0.2.2.2.2.2.2.2.2.2 with
          | true =>
            rw [g4] at s3
            rw [if_pos g4] at kk
            have k9 := m_lsM adK d Y P a b3 c e f g h n w hn hn1 d1 (by omega) kk
            refine pn_aload_n (q := 21) dX7_readsLine_20 rfl rfl rfl ?_
            refine pn_ldcS (q := 23) (j := 26) rfl dX7_readsLine_21 rfl ?_
            refine pn_idV (q := 26) (bc9 := 0) (bs9 := 0) (CA) lkX7_155 dX7_readsLine_23 rfl rfl (hM_cl) (hM_cl) (Nat.le_of_ble_eq_true rfl) rfl rfl rfl rfl rfl rfl (by omega) (by omega) (by omega) (Nat.le_of_ble_eq_true rfl) ?_
            refine pn_beq (q := 29) (tgt := 48) dX7_readsLine_26 (by decide) rfl (fun hc26 => ?_) (fun hc26 => ?_)
            · refine pn_aload_n (q := 49) dX7_readsLine_48 rfl rfl rfl ?_
              refine pn_ldcS (q := 51) (j := 27) rfl dX7_readsLine_49 rfl ?_
              refine pn_idV (q := 54) (bc9 := 0) (bs9 := 0) (CB) lkX7_155 dX7_readsLine_51 rfl rfl (hM_cl) (hM_cl) (Nat.le_of_ble_eq_true rfl) rfl rfl rfl rfl rfl rfl (by omega) (by omega) (by omega) (Nat.le_of_ble_eq_true rfl) ?_
              refine pn_beq (q := 57) (tgt := 64) dX7_readsLine_54 (by decide) rfl (fun hc54 => ?_) (fun hc54 => ?_)
              · refine pn_aload_n (q := 65) dX7_readsLine_64 rfl rfl rfl ?_
                refine pn_ldcS (q := 67) (j := 28) rfl dX7_readsLine_65 rfl ?_
                refine pn_idV (q := 70) (bc9 := 0) (bs9 := 0) (CC) lkX7_155 dX7_readsLine_67 rfl rfl (hM_cl) (hM_cl) (Nat.le_of_ble_eq_true rfl) rfl rfl rfl rfl rfl rfl (by omega) (by omega) (by omega) (Nat.le_of_ble_eq_true rfl) ?_
                refine pn_beq (q := 73) (tgt := 81) dX7_readsLine_70 (by decide) rfl (fun hc70 => ?_) (fun hc70 => ?_)
                · refine pn_aload_n (q := 82) dX7_readsLine_81 rfl rfl rfl ?_
                  refine pn_get (q := 85) fX7_149 dX7_readsLine_82 rfl rfl rfl ?_
                  refine pn_bne (q := 88) (tgt := 104) dX7_readsLine_85 (by decide) rfl (fun hc85 => ?_) (fun hc85 => ?_)
                  · exact k9
                  · (rw [s3] at hc85; cases hc85)
                · cases hc70
              · cases hc54
            · cases hc26
          | false =>
            rw [g4] at s3
            rw [if_neg (by rw [g4]; exact Bool.false_ne_true)] at kk
            cases g5 : tkB b3 "shape" with
            | true =>
              rw [g5] at CD
              rw [if_pos g5] at kk
              refine pn_aload_n (q := 21) dX7_readsLine_20 rfl rfl rfl ?_
              refine pn_ldcS (q := 23) (j := 26) rfl dX7_readsLine_21 rfl ?_
              refine pn_idV (q := 26) (bc9 := 0) (bs9 := 0) (CA) lkX7_155 dX7_readsLine_23 rfl rfl (hM_cl) (hM_cl) (Nat.le_of_ble_eq_true rfl) rfl rfl rfl rfl rfl rfl (by omega) (by omega) (by omega) (Nat.le_of_ble_eq_true rfl) ?_
              refine pn_beq (q := 29) (tgt := 48) dX7_readsLine_26 (by decide) rfl (fun hc26 => ?_) (fun hc26 => ?_)
              · refine pn_aload_n (q := 49) dX7_readsLine_48 rfl rfl rfl ?_
                refine pn_ldcS (q := 51) (j := 27) rfl dX7_readsLine_49 rfl ?_
                refine pn_idV (q := 54) (bc9 := 0) (bs9 := 0) (CB) lkX7_155 dX7_readsLine_51 rfl rfl (hM_cl) (hM_cl) (Nat.le_of_ble_eq_true rfl) rfl rfl rfl rfl rfl rfl (by omega) (by omega) (by omega) (Nat.le_of_ble_eq_true rfl) ?_
                refine pn_beq (q := 57) (tgt := 64) dX7_readsLine_54 (by decide) rfl (fun hc54 => ?_) (fun hc54 => ?_)
                · refine pn_aload_n (q := 65) dX7_readsLine_64 rfl rfl rfl ?_
                  refine pn_ldcS (q := 67) (j := 28) rfl dX7_readsLine_65 rfl ?_
                  refine pn_idV (q := 70) (bc9 := 0) (bs9 := 0) (CC) lkX7_155 dX7_readsLine_67 rfl rfl (hM_cl) (hM_cl) (Nat.le_of_ble_eq_true rfl) rfl rfl rfl rfl rfl rfl (by omega) (by omega) (by omega) (Nat.le_of_ble_eq_true rfl) ?_
                  refine pn_beq (q := 73) (tgt := 81) dX7_readsLine_70 (by decide) rfl (fun hc70 => ?_) (fun hc70 => ?_)
                  · refine pn_aload_n (q := 82) dX7_readsLine_81 rfl rfl rfl ?_
                    refine pn_get (q := 85) fX7_149 dX7_readsLine_82 rfl rfl rfl ?_
                    refine pn_bne (q := 88) (tgt := 104) dX7_readsLine_85 (by decide) rfl (fun hc85 => ?_) (fun hc85 => ?_)
                    · (rw [s3] at hc85; cases hc85)
                    · refine pn_aload_n (q := 89) dX7_readsLine_88 rfl rfl rfl ?_
                      refine pn_ldcS (q := 91) (j := 29) rfl dX7_readsLine_89 rfl ?_
                      refine pn_idV (q := 94) (bc9 := 0) (bs9 := 0) (CD) lkX7_155 dX7_readsLine_91 rfl rfl (hM_cl) (hM_cl) (Nat.le_of_ble_eq_true rfl) rfl rfl rfl rfl rfl rfl (by omega) (by omega) (by omega) (Nat.le_of_ble_eq_true rfl) ?_
                      refine pn_beq (q := 97) (tgt := 104) dX7_readsLine_94 (by decide) rfl (fun hc94 => ?_) (fun hc94 => ?_)
                      · cases hc94
                      · refine pn_aload_n (q := 98) dX7_readsLine_97 rfl rfl rfl ?_
                        refine pn_idV (q := 101) (bc9 := 0) (bs9 := 0) (m_readsShape adK d Y P a b4 c e f g h f1 (by omega)) lkX7_193 dX7_readsLine_98 rfl rfl (hM_cl) (hM_cl) (Nat.le_of_ble_eq_true rfl) rfl rfl rfl rfl rfl rfl (by omega) (by omega) (by omega) (Nat.le_of_ble_eq_true rfl) ?_
                        refine pn_goto (q := 214) dX7_readsLine_101 (by decide) ?_
                        exact kk
                  · cases hc70
                · cases hc54
              · cases hc26
            | false =>
              rw [g5] at CD
              rw [if_neg (by rw [g5]; exact Bool.false_ne_true)] at kk
              have k9 := m_lsM adK d Y P a b4 c e f g h n w hn hn1 f1 (by omega) kk
              refine pn_aload_n (q := 21) dX7_readsLine_20 rfl rfl rfl ?_
              refine pn_ldcS (q := 23) (j := 26) rfl dX7_readsLine_21 rfl ?_
              refine pn_idV (q := 26) (bc9 := 0) (bs9 := 0) (CA) lkX7_155 dX7_readsLine_23 rfl rfl (hM_cl) (hM_cl) (Nat.le_of_ble_eq_true rfl) rfl rfl rfl rfl rfl rfl (by omega) (by omega) (by omega) (Nat.le_of_ble_eq_true rfl) ?_
              refine pn_beq (q := 29) (tgt := 48) dX7_readsLine_26 (by decide) rfl (fun hc26 => ?_) (fun hc26 => ?_)
              · refine pn_aload_n (q := 49) dX7_readsLine_48 rfl rfl rfl ?_
                refine pn_ldcS (q := 51) (j := 27) rfl dX7_readsLine_49 rfl ?_
                refine pn_idV (q := 54) (bc9 := 0) (bs9 := 0) (CB) lkX7_155 dX7_readsLine_51 rfl rfl (hM_cl) (hM_cl) (Nat.le_of_ble_eq_true rfl) rfl rfl rfl rfl rfl rfl (by omega) (by omega) (by omega) (Nat.le_of_ble_eq_true rfl) ?_
                refine pn_beq (q := 57) (tgt := 64) dX7_readsLine_54 (by decide) rfl (fun hc54 => ?_) (fun hc54 => ?_)
                · refine pn_aload_n (q := 65) dX7_readsLine_64 rfl rfl rfl ?_
                  refine pn_ldcS (q := 67) (j := 28) rfl dX7_readsLine_65 rfl ?_
                  refine pn_idV (q := 70) (bc9 := 0) (bs9 := 0) (CC) lkX7_155 dX7_readsLine_67 rfl rfl (hM_cl) (hM_cl) (Nat.le_of_ble_eq_true rfl) rfl rfl rfl rfl rfl rfl (by omega) (by omega) (by omega) (Nat.le_of_ble_eq_true rfl) ?_
                  refine pn_beq (q := 73) (tgt := 81) dX7_readsLine_70 (by decide) rfl (fun hc70 => ?_) (fun hc70 => ?_)
                  · refine pn_aload_n (q := 82) dX7_readsLine_81 rfl rfl rfl ?_
                    refine pn_get (q := 85) fX7_149 dX7_readsLine_82 rfl rfl rfl ?_
                    refine pn_bne (q := 88) (tgt := 104) dX7_readsLine_85 (by decide) rfl (fun hc85 => ?_) (fun hc85 => ?_)
                    · (rw [s3] at hc85; cases hc85)
                    · refine pn_aload_n (q := 89) dX7_readsLine_88 rfl rfl rfl ?_
                      refine pn_ldcS (q := 91) (j := 29) rfl dX7_readsLine_89 rfl ?_
                      refine pn_idV (q := 94) (bc9 := 0) (bs9 := 0) (CD) lkX7_155 dX7_readsLine_91 rfl rfl (hM_cl) (hM_cl) (Nat.le_of_ble_eq_true rfl) rfl rfl rfl rfl rfl rfl (by omega) (by omega) (by omega) (Nat.le_of_ble_eq_true rfl) ?_
                      refine pn_beq (q := 97) (tgt := 104) dX7_readsLine_94 (by decide) rfl (fun hc94 => ?_) (fun hc94 => ?_)
                      · exact k9
                      · cases hc94
                  · cases hc70
                · cases hc54
              · cases hc26
  have k20 := key (heB b) (nI (tkP b)) (rdOk_at hb (tkP_le hb).2) hf hT0 hT4 hpm _ fin
  refine pn_aload_n (q := 1) dX7_readsLine_0 rfl rfl rfl ?_
  refine pn_idV (q := 4) (bc9 := 0) (bs9 := 0) (m_here adK (d + 4) Y P a b c e f g h hb) lkX7_120 dX7_readsLine_1 rfl rfl (hM_cl) (hM_cl) (Nat.le_of_ble_eq_true rfl) rfl rfl rfl rfl rfl rfl (by omega) (by omega) (by omega) (Nat.le_of_ble_eq_true rfl) ?_
  refine pn_pop (q := 5) dX7_readsLine_4 rfl rfl ?_
  refine pn_aload_n (q := 6) dX7_readsLine_5 rfl rfl rfl ?_
  (refine pn_get (q := 9) fX7_103 dX7_readsLine_6 rfl rfl rfl ?_)
  refine pn_eq (h' := _) (st' := .int (nI (tkP b)) :: _) rfl rfl ?_
  refine pn_istore_n (q := 10) dX7_readsLine_9 rfl (by decide) ?_
  refine pn_aload_n (q := 11) dX7_readsLine_10 rfl rfl rfl ?_
  refine pn_get (q := 14) fX7_24 dX7_readsLine_11 rfl rfl rfl ?_
  refine pn_iconst (q := 15) (v := nI 0) dX7_readsLine_14 rfl (by decide) ?_
  refine pn_lald1 (q := 16) dX7_readsLine_15 rfl rfl rfl (by omega) (by decide) ?_; rw [show (heB b).2.2.2.2.2.1 0 = lN n from hT0]
  first | with_reducible refine pn_l2iN (q := 17) dX7_readsLine_16 rfl ?_ | refine pn_l2i (q := 17) dX7_readsLine_16 rfl ?_
  refine pn_iconst (q := 18) (v := nI 1) dX7_readsLine_17 rfl (by decide) ?_
  first | with_reducible refine pn_isubN (q := 19) dX7_readsLine_18 rfl (by omega) ?_ | refine pn_isub (q := 19) dX7_readsLine_18 rfl ?_
  refine pn_istore_n (q := 20) dX7_readsLine_19 rfl (by decide) ?_
  exact k20
