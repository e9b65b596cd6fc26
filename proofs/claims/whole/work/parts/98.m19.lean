/-! a line of the text, as the reference reads it -/
theorem num_fine {lo hi : Nat} {but : Int32} {b : G1} (h : (numM lo hi but b).2.2.2.1 = 0) : b.2.2.1 = 0 ∧ lo ≤ (numM lo hi but b).1 ∧ (numM lo hi but b).1 ≤ hi ∧ nI (numM lo hi but b).1 ≠ but := by
  unfold numM at h ⊢
  by_cases q1 : b.2.2.1 = 0
  · rw [if_pos q1] at h ⊢
    by_cases q2 : dgB (byM b (tkP b)) = true
    · rw [if_pos q2] at h ⊢
      by_cases q3 : (lo ≤ numV b ∧ numV b ≤ hi) ∧ nI (numV b) ≠ but
      · exact ⟨q1, q3.1.1, q3.1.2, q3.2⟩
      · rw [if_neg q3] at h
        exact absurd h (ft_wr0 (by omega))
    · rw [if_neg q2] at h
      exact absurd h (ft_wr0 (by omega))
  · rw [if_neg q1] at h
    exact absurd h q1
/-- two nodes: a line comes, or goes -/
def lnM (n : Nat) (more : Bool) (b : G1) : G1 := if (numM 0 (n - 1) (nI (numM 0 (n - 1) (-1) b).1) (numM 0 (n - 1) (-1) b).2).2.2.2.1 = 0 then bT (numM 0 (n - 1) (nI (numM 0 (n - 1) (-1) b).1) (numM 0 (n - 1) (-1) b).2).2 (vp_updL b.2.2.2.2.2.1 29 (gLn more n (b.2.2.2.2.2.1 29) (numM 0 (n - 1) (-1) b).1 (numM 0 (n - 1) (nI (numM 0 (n - 1) (-1) b).1) (numM 0 (n - 1) (-1) b).2).1)) else (numM 0 (n - 1) (nI (numM 0 (n - 1) (-1) b).1) (numM 0 (n - 1) (-1) b).2).2
def lsM (n : Nat) (w : Int32) (b : G1) : G1 := if tkB b "line" = true then lnM n true (tkM b "line") else if tkB (tkM b "line") "less" = true then lnM n false (tkM (tkM b "line") "less") else lnM n false (bWr (tkM (tkM b "line") "less") 1 w)
def leM (n bc : Nat) (w : Int32) (b : G1) (c : G3) : G1 × G3 :=
  if tkB b "all" = true then (bT (tkM b "all") (vp_updL (tkM b "all").2.2.2.2.2.1 29 (allN n)), c) else
  if tkB (tkM b "all") "part" = true then prM n (tkM (tkM b "all") "part") c else
  if tkB (tkM (tkM b "all") "part") "base" = true then baM bc w (tkM (tkM (tkM b "all") "part") "base") c else
  if b.2.2.2.2.2.2.2.2.2 = true then (lsM n w (tkM (tkM (tkM b "all") "part") "base"), c) else
  if tkB (tkM (tkM (tkM b "all") "part") "base") "shape" = true then (shW (bSh (tkM (tkM (tkM (tkM b "all") "part") "base") "shape")), c) else
  (lsM n w (tkM (tkM (tkM (tkM b "all") "part") "base") "shape"), c)
def liM (n bc : Nat) (b : G1) (c : G3) : G1 × G3 := (musM (leM n bc (nI (tkP b)) (heB b) c).1 (nI 59), (leM n bc (nI (tkP b)) (heB b) c).2)
set_option maxRecDepth 100000 in
theorem m_lnM (adK : Nat → Nat) (d : Nat) (Y : MN) (P : Nat → MN) (a : G0) (b : G1) (c : G3) (e : G4) (f : G5) (g : G6) (h : G7) (n : Nat) (w : Int32) (more : Bool) (hn : n ≤ 11) (hn1 : 1 ≤ n) (hb : rdOk b) (hf4 : b.2.2.1 ≤ 4) {Q : pnR → List pnE → Prop} (k : pnWP mX7_readsLine adK (d + 6) Q 0 0 (hM Y P a (lnM n more b) c e f g h) [some (.ref 0), some (.int w), some (.int (nI (n - 1)))] [] 214) : pnWP mX7_readsLine adK (d + 6) Q 0 0 (hM Y P a b c e f g h) [some (.ref 0), some (.int w), some (.int (nI (n - 1))), some (.int (nB more))] [] 130 := by
  have CN1 := m_num adK (d + 3) Y P a b c e f g h 0 (n - 1) (-1) (by omega) (by omega) hb hf4
  obtain ⟨r1, r2, r3⟩ := rdOk_num (lo := 0) (hi := n - 1) (but := -1) hb hf4
  obtain ⟨s1, s2⟩ := num_keep (lo := 0) (hi := n - 1) (but := -1) (b := b)
  have hfi1 := num_fine (lo := 0) (hi := n - 1) (but := -1) (b := b)
  unfold lnM at k
  generalize numM 0 (n - 1) (-1) b = r at *
  have CN2 := m_num adK (d + 3) Y P a r.2 c e f g h 0 (n - 1) (nI r.1) (by omega) (by omega) r1 r2
  obtain ⟨t1, t2, t3⟩ := rdOk_num (lo := 0) (hi := n - 1) (but := nI r.1) r1 r2
  obtain ⟨u1, u2⟩ := num_keep (lo := 0) (hi := n - 1) (but := nI r.1) (b := r.2)
  have hfi2 := num_fine (lo := 0) (hi := n - 1) (but := nI r.1) (b := r.2)
  generalize numM 0 (n - 1) (nI r.1) r.2 = q at *
  have CF := m_fine adK (d + 5) Y P a q.2 c e f g h t2
  by_cases hq : q.2.2.2.1 = 0
  · rw [decide_eq_true hq] at CF
    rw [if_pos hq] at k
    obtain ⟨v1, v2, v3, v4⟩ := hfi2 hq
    obtain ⟨w1, w2, w3, w4⟩ := hfi1 v1
    have hne : r.1 ≠ q.1 := fun e => v4 (by rw [e])
    have CL := m_lineOf adK (d + 4) n r.1 q.1 hn (by omega) (by omega) hne
    have eT : q.2.2.2.2.2.2.1 = b.2.2.2.2.2.1 := by rw [u2, s2]
    have eT9 : q.2.2.2.2.2.2.1 29 = b.2.2.2.2.2.1 29 := by rw [eT]
    rw [← eT] at k
    cases more with
    | true =>
      have eg : gLn true n (q.2.2.2.2.2.2.1 29) r.1 q.1 = q.2.2.2.2.2.2.1 29 ||| bL (lnN n r.1 q.1) := rfl
      rw [eg] at k
      refine pn_aload_n (q := 131) dX7_readsLine_130 rfl rfl rfl ?_
      refine pn_iconst (q := 132) (v := nI 0) dX7_readsLine_131 rfl (by decide) ?_
      refine pn_iload_n (q := 133) dX7_readsLine_132 rfl rfl ?_
      refine pn_iconst (q := 134) (v := (-1)) dX7_readsLine_133 rfl (by decide) ?_
      refine pn_idV (q := 137) (bc9 := 0) (bs9 := 0) (CN1) lkX7_146 dX7_readsLine_134 rfl rfl (hM_cl) (hM_cl) (Nat.le_of_ble_eq_true rfl) rfl rfl rfl rfl rfl rfl (by omega) (by omega) (by omega) (Nat.le_of_ble_eq_true rfl) ?_
      refine pn_istore (q := 139) dX7_readsLine_137 rfl (by decide) ?_
      refine pn_aload_n (q := 140) dX7_readsLine_139 rfl rfl rfl ?_
      refine pn_iconst (q := 141) (v := nI 0) dX7_readsLine_140 rfl (by decide) ?_
      refine pn_iload_n (q := 142) dX7_readsLine_141 rfl rfl ?_
      refine pn_iload (q := 144) dX7_readsLine_142 rfl rfl ?_
      refine pn_idV (q := 147) (bc9 := 0) (bs9 := 0) (CN2) lkX7_146 dX7_readsLine_144 rfl rfl (hM_cl) (hM_cl) (Nat.le_of_ble_eq_true rfl) rfl rfl rfl rfl rfl rfl (by omega) (by omega) (by omega) (Nat.le_of_ble_eq_true rfl) ?_
      refine pn_istore (q := 149) dX7_readsLine_147 rfl (by decide) ?_
      refine pn_aload_n (q := 150) dX7_readsLine_149 rfl rfl rfl ?_
      refine pn_idV (q := 153) (bc9 := 0) (bs9 := 0) (CF) lkX7_116 dX7_readsLine_150 rfl rfl (hM_cl) (hM_cl) (Nat.le_of_ble_eq_true rfl) rfl rfl rfl rfl rfl rfl (by omega) (by omega) (by omega) (Nat.le_of_ble_eq_true rfl) ?_
      refine pn_beq (q := 156) (tgt := 214) dX7_readsLine_153 (by decide) rfl (fun hc153 => ?_) (fun hc153 => ?_)
      · cases hc153
      · refine pn_aload_n (q := 157) dX7_readsLine_156 rfl rfl rfl ?_
        refine pn_get (q := 160) fX7_24 dX7_readsLine_157 rfl rfl rfl ?_
        refine pn_bipush (q := 162) (v := nI 29) dX7_readsLine_160 rfl (by decide) ?_
        refine pn_iload_n (q := 163) dX7_readsLine_162 rfl rfl ?_
        refine pn_beq (q := 166) (tgt := 189) dX7_readsLine_163 (by decide) rfl (fun hc163 => ?_) (fun hc163 => ?_)
        · cases hc163
        · refine pn_aload_n (q := 167) dX7_readsLine_166 rfl rfl rfl ?_
          refine pn_get (q := 170) fX7_24 dX7_readsLine_167 rfl rfl rfl ?_
          refine pn_bipush (q := 172) (v := nI 29) dX7_readsLine_170 rfl (by decide) ?_
          refine pn_lald1 (q := 173) dX7_readsLine_172 rfl rfl rfl (by omega) (by decide) ?_
          refine pn_lconst (q := 174) (v := lN 1) dX7_readsLine_173 rfl (by decide) ?_
          refine pn_iload_n (q := 175) dX7_readsLine_174 rfl rfl ?_
          refine pn_iconst (q := 176) (v := nI 1) dX7_readsLine_175 rfl (by decide) ?_
          refine pn_iaddN (q := 177) dX7_readsLine_176 rfl ?_; rw [show n - 1 + 1 = n by omega]
          refine pn_iload (q := 179) dX7_readsLine_177 rfl rfl ?_
          refine pn_iload (q := 181) dX7_readsLine_179 rfl rfl ?_
          refine pn_roS1 (q := 184) (CL) lkX7_96 dX7_readsLine_181 rfl rfl (pnSel_of (I := []) rfl rfl) (pnFree_none rfl) rfl (by omega) (Nat.le_of_ble_eq_true rfl) rfl ?_
          refine pn_lshl (q := 185) dX7_readsLine_184 rfl ?_
          refine pn_lor (q := 186) dX7_readsLine_185 rfl ?_
          refine pn_goto (q := 213) dX7_readsLine_186 (by decide) ?_
          first | refine pn_last1 (q := 214) dX7_readsLine_213 rfl rfl rfl (by omega) (by first | decide | omega) ?_ | refine pn_last5 (q := 214) dX7_readsLine_213 rfl rfl rfl (by omega) (by first | decide | omega) ?_
          exact pn_take 3 k
    | false =>
      have eg : gLn false n (q.2.2.2.2.2.2.1 29) r.1 q.1 = q.2.2.2.2.2.2.1 29 &&& (bL (lnN n r.1 q.1) ^^^ (-1)) := rfl
      rw [eg] at k
      refine pn_aload_n (q := 131) dX7_readsLine_130 rfl rfl rfl ?_
      refine pn_iconst (q := 132) (v := nI 0) dX7_readsLine_131 rfl (by decide) ?_
      refine pn_iload_n (q := 133) dX7_readsLine_132 rfl rfl ?_
      refine pn_iconst (q := 134) (v := (-1)) dX7_readsLine_133 rfl (by decide) ?_
      refine pn_idV (q := 137) (bc9 := 0) (bs9 := 0) (CN1) lkX7_146 dX7_readsLine_134 rfl rfl (hM_cl) (hM_cl) (Nat.le_of_ble_eq_true rfl) rfl rfl rfl rfl rfl rfl (by omega) (by omega) (by omega) (Nat.le_of_ble_eq_true rfl) ?_
      refine pn_istore (q := 139) dX7_readsLine_137 rfl (by decide) ?_
      refine pn_aload_n (q := 140) dX7_readsLine_139 rfl rfl rfl ?_
      refine pn_iconst (q := 141) (v := nI 0) dX7_readsLine_140 rfl (by decide) ?_
      refine pn_iload_n (q := 142) dX7_readsLine_141 rfl rfl ?_
      refine pn_iload (q := 144) dX7_readsLine_142 rfl rfl ?_
      refine pn_idV (q := 147) (bc9 := 0) (bs9 := 0) (CN2) lkX7_146 dX7_readsLine_144 rfl rfl (hM_cl) (hM_cl) (Nat.le_of_ble_eq_true rfl) rfl rfl rfl rfl rfl rfl (by omega) (by omega) (by omega) (Nat.le_of_ble_eq_true rfl) ?_
      refine pn_istore (q := 149) dX7_readsLine_147 rfl (by decide) ?_
      refine pn_aload_n (q := 150) dX7_readsLine_149 rfl rfl rfl ?_
      refine pn_idV (q := 153) (bc9 := 0) (bs9 := 0) (CF) lkX7_116 dX7_readsLine_150 rfl rfl (hM_cl) (hM_cl) (Nat.le_of_ble_eq_true rfl) rfl rfl rfl rfl rfl rfl (by omega) (by omega) (by omega) (Nat.le_of_ble_eq_true rfl) ?_
      refine pn_beq (q := 156) (tgt := 214) dX7_readsLine_153 (by decide) rfl (fun hc153 => ?_) (fun hc153 => ?_)
      · cases hc153
      · refine pn_aload_n (q := 157) dX7_readsLine_156 rfl rfl rfl ?_
        refine pn_get (q := 160) fX7_24 dX7_readsLine_157 rfl rfl rfl ?_
        refine pn_bipush (q := 162) (v := nI 29) dX7_readsLine_160 rfl (by decide) ?_
        refine pn_iload_n (q := 163) dX7_readsLine_162 rfl rfl ?_
        refine pn_beq (q := 166) (tgt := 189) dX7_readsLine_163 (by decide) rfl (fun hc163 => ?_) (fun hc163 => ?_)
        · refine pn_aload_n (q := 190) dX7_readsLine_189 rfl rfl rfl ?_
          refine pn_get (q := 193) fX7_24 dX7_readsLine_190 rfl rfl rfl ?_
          refine pn_bipush (q := 195) (v := nI 29) dX7_readsLine_193 rfl (by decide) ?_
          refine pn_lald1 (q := 196) dX7_readsLine_195 rfl rfl rfl (by omega) (by decide) ?_
          refine pn_lconst (q := 197) (v := lN 1) dX7_readsLine_196 rfl (by decide) ?_
          refine pn_iload_n (q := 198) dX7_readsLine_197 rfl rfl ?_
          refine pn_iconst (q := 199) (v := nI 1) dX7_readsLine_198 rfl (by decide) ?_
          refine pn_iaddN (q := 200) dX7_readsLine_199 rfl ?_; rw [show n - 1 + 1 = n by omega]
          refine pn_iload (q := 202) dX7_readsLine_200 rfl rfl ?_
          refine pn_iload (q := 204) dX7_readsLine_202 rfl rfl ?_
          refine pn_roS1 (q := 207) (CL) lkX7_96 dX7_readsLine_204 rfl rfl (pnSel_of (I := []) rfl rfl) (pnFree_none rfl) rfl (by omega) (Nat.le_of_ble_eq_true rfl) rfl ?_
          refine pn_lshl (q := 208) dX7_readsLine_207 rfl ?_
          refine pn_ldc2 (q := 211) pw_1283 dX7_readsLine_208 rfl ?_
          refine pn_lxor (q := 212) dX7_readsLine_211 rfl ?_
          refine pn_land (q := 213) dX7_readsLine_212 rfl ?_
          first | refine pn_last1 (q := 214) dX7_readsLine_213 rfl rfl rfl (by omega) (by first | decide | omega) ?_ | refine pn_last5 (q := 214) dX7_readsLine_213 rfl rfl rfl (by omega) (by first | decide | omega) ?_
          exact pn_take 3 k
        · cases hc163
  · rw [decide_eq_false hq] at CF
    rw [if_neg hq] at k
    refine pn_aload_n (q := 131) dX7_readsLine_130 rfl rfl rfl ?_
    refine pn_iconst (q := 132) (v := nI 0) dX7_readsLine_131 rfl (by decide) ?_
    refine pn_iload_n (q := 133) dX7_readsLine_132 rfl rfl ?_
    refine pn_iconst (q := 134) (v := (-1)) dX7_readsLine_133 rfl (by decide) ?_
    refine pn_idV (q := 137) (bc9 := 0) (bs9 := 0) (CN1) lkX7_146 dX7_readsLine_134 rfl rfl (hM_cl) (hM_cl) (Nat.le_of_ble_eq_true rfl) rfl rfl rfl rfl rfl rfl (by omega) (by omega) (by omega) (Nat.le_of_ble_eq_true rfl) ?_
    refine pn_istore (q := 139) dX7_readsLine_137 rfl (by decide) ?_
    refine pn_aload_n (q := 140) dX7_readsLine_139 rfl rfl rfl ?_
    refine pn_iconst (q := 141) (v := nI 0) dX7_readsLine_140 rfl (by decide) ?_
    refine pn_iload_n (q := 142) dX7_readsLine_141 rfl rfl ?_
    refine pn_iload (q := 144) dX7_readsLine_142 rfl rfl ?_
    refine pn_idV (q := 147) (bc9 := 0) (bs9 := 0) (CN2) lkX7_146 dX7_readsLine_144 rfl rfl (hM_cl) (hM_cl) (Nat.le_of_ble_eq_true rfl) rfl rfl rfl rfl rfl rfl (by omega) (by omega) (by omega) (Nat.le_of_ble_eq_true rfl) ?_
    refine pn_istore (q := 149) dX7_readsLine_147 rfl (by decide) ?_
    refine pn_aload_n (q := 150) dX7_readsLine_149 rfl rfl rfl ?_
    refine pn_idV (q := 153) (bc9 := 0) (bs9 := 0) (CF) lkX7_116 dX7_readsLine_150 rfl rfl (hM_cl) (hM_cl) (Nat.le_of_ble_eq_true rfl) rfl rfl rfl rfl rfl rfl (by omega) (by omega) (by omega) (Nat.le_of_ble_eq_true rfl) ?_
    refine pn_beq (q := 156) (tgt := 214) dX7_readsLine_153 (by decide) rfl (fun hc153 => ?_) (fun hc153 => ?_)
    · exact pn_take 3 k
    · cases hc153
set_option maxRecDepth 100000 in
theorem m_lsM (adK : Nat → Nat) (d : Nat) (Y : MN) (P : Nat → MN) (a : G0) (b : G1) (c : G3) (e : G4) (f : G5) (g : G6) (h : G7) (n : Nat) (w : Int32) (hn : n ≤ 11) (hn1 : 1 ≤ n) (hb : rdOk b) (hf4 : b.2.2.1 ≤ 4) {Q : pnR → List pnE → Prop} (k : pnWP mX7_readsLine adK (d + 6) Q 0 0 (hM Y P a (lsM n w b) c e f g h) [some (.ref 0), some (.int w), some (.int (nI (n - 1)))] [] 214) : pnWP mX7_readsLine adK (d + 6) Q 0 0 (hM Y P a b c e f g h) [some (.ref 0), some (.int w), some (.int (nI (n - 1)))] [] 104 := by
  have CA := m_tk adK (d + 1) Y P a b c e f g h 34 ("PartedNetModel", 196, "line") rfl hb hf4
  obtain ⟨a1, a2, a3, a4⟩ := rdOk_tk (b := b) (j := 34) (x := ("PartedNetModel", 196, "line")) rfl hb hf4
  unfold lsM at k
  dsimp only at CA a1 a2 a3 a4
  generalize tkM b "line" = b1 at *
  have CB := m_tk adK (d + 1) Y P a b1 c e f g h 35 ("PartedNetModel", 198, "less") rfl a1 (by omega)
  obtain ⟨c1, c2, c3, c4⟩ := rdOk_tk (b := b1) (j := 35) (x := ("PartedNetModel", 198, "less")) rfl a1 (by omega)
  dsimp only at CB c1 c2 c3 c4
  generalize tkM b1 "less" = b2 at *
  cases g1 : tkB b "line" with
  | true =>
    rw [g1] at CA
    rw [if_pos g1] at k
    have k9 := m_lnM adK d Y P a b1 c e f g h n w true hn hn1 a1 (by omega) k
    refine pn_aload_n (q := 105) dX7_readsLine_104 rfl rfl rfl ?_
    refine pn_ldcS (q := 107) (j := 34) rfl dX7_readsLine_105 rfl ?_
    refine pn_idV (q := 110) (bc9 := 0) (bs9 := 0) (CA) lkX7_155 dX7_readsLine_107 rfl rfl (hM_cl) (hM_cl) (Nat.le_of_ble_eq_true rfl) rfl rfl rfl rfl rfl rfl (by omega) (by omega) (by omega) (Nat.le_of_ble_eq_true rfl) ?_
    refine pn_istore_n (q := 111) dX7_readsLine_110 rfl (by decide) ?_
    refine pn_iload_n (q := 112) dX7_readsLine_111 rfl rfl ?_
    refine pn_bne (q := 115) (tgt := 130) dX7_readsLine_112 (by decide) rfl (fun hc112 => ?_) (fun hc112 => ?_)
    · exact k9
    · cases hc112
  | false =>
    rw [g1] at CA
    rw [if_neg (by rw [g1]; exact Bool.false_ne_true)] at k
    cases g2 : tkB b1 "less" with
    | true =>
      rw [g2] at CB
      rw [if_pos g2] at k
      have k9 := m_lnM adK d Y P a b2 c e f g h n w false hn hn1 c1 (by omega) k
      refine pn_aload_n (q := 105) dX7_readsLine_104 rfl rfl rfl ?_
      refine pn_ldcS (q := 107) (j := 34) rfl dX7_readsLine_105 rfl ?_
      refine pn_idV (q := 110) (bc9 := 0) (bs9 := 0) (CA) lkX7_155 dX7_readsLine_107 rfl rfl (hM_cl) (hM_cl) (Nat.le_of_ble_eq_true rfl) rfl rfl rfl rfl rfl rfl (by omega) (by omega) (by omega) (Nat.le_of_ble_eq_true rfl) ?_
      refine pn_istore_n (q := 111) dX7_readsLine_110 rfl (by decide) ?_
      refine pn_iload_n (q := 112) dX7_readsLine_111 rfl rfl ?_
      refine pn_bne (q := 115) (tgt := 130) dX7_readsLine_112 (by decide) rfl (fun hc112 => ?_) (fun hc112 => ?_)
      · cases hc112
      · refine pn_aload_n (q := 116) dX7_readsLine_115 rfl rfl rfl ?_
        refine pn_ldcS (q := 118) (j := 35) rfl dX7_readsLine_116 rfl ?_
        refine pn_idV (q := 121) (bc9 := 0) (bs9 := 0) (CB) lkX7_155 dX7_readsLine_118 rfl rfl (hM_cl) (hM_cl) (Nat.le_of_ble_eq_true rfl) rfl rfl rfl rfl rfl rfl (by omega) (by omega) (by omega) (Nat.le_of_ble_eq_true rfl) ?_
        refine pn_bne (q := 124) (tgt := 130) dX7_readsLine_121 (by decide) rfl (fun hc121 => ?_) (fun hc121 => ?_)
        · exact k9
        · cases hc121
    | false =>
      rw [g2] at CB
      rw [if_neg (by rw [g2]; exact Bool.false_ne_true)] at k
      have k9 := m_lnM adK d Y P a (bWr b2 1 w) c e f g h n w false hn hn1 (rdOk_wr c1) (ft_wr (by omega) (by omega)) k
      refine pn_aload_n (q := 105) dX7_readsLine_104 rfl rfl rfl ?_
      refine pn_ldcS (q := 107) (j := 34) rfl dX7_readsLine_105 rfl ?_
      refine pn_idV (q := 110) (bc9 := 0) (bs9 := 0) (CA) lkX7_155 dX7_readsLine_107 rfl rfl (hM_cl) (hM_cl) (Nat.le_of_ble_eq_true rfl) rfl rfl rfl rfl rfl rfl (by omega) (by omega) (by omega) (Nat.le_of_ble_eq_true rfl) ?_
      refine pn_istore_n (q := 111) dX7_readsLine_110 rfl (by decide) ?_
      refine pn_iload_n (q := 112) dX7_readsLine_111 rfl rfl ?_
      refine pn_bne (q := 115) (tgt := 130) dX7_readsLine_112 (by decide) rfl (fun hc112 => ?_) (fun hc112 => ?_)
      · cases hc112
      · refine pn_aload_n (q := 116) dX7_readsLine_115 rfl rfl rfl ?_
        refine pn_ldcS (q := 118) (j := 35) rfl dX7_readsLine_116 rfl ?_
        refine pn_idV (q := 121) (bc9 := 0) (bs9 := 0) (CB) lkX7_155 dX7_readsLine_118 rfl rfl (hM_cl) (hM_cl) (Nat.le_of_ble_eq_true rfl) rfl rfl rfl rfl rfl rfl (by omega) (by omega) (by omega) (Nat.le_of_ble_eq_true rfl) ?_
        refine pn_bne (q := 124) (tgt := 130) dX7_readsLine_121 (by decide) rfl (fun hc121 => ?_) (fun hc121 => ?_)
        · cases hc121
        · refine pn_aload_n (q := 125) dX7_readsLine_124 rfl rfl rfl ?_
          refine pn_iconst (q := 126) (v := nI 1) dX7_readsLine_125 rfl (by decide) ?_
          refine pn_iload_n (q := 127) dX7_readsLine_126 rfl rfl ?_
          refine pn_idV (q := 130) (bc9 := 0) (bs9 := 0) (m_wrong adK (d + 5) Y P a b2 c e f g h 1 w (by omega)) lkX7_137 dX7_readsLine_127 rfl rfl (hM_cl) (hM_cl) (Nat.le_of_ble_eq_true rfl) rfl rfl rfl rfl rfl rfl (by omega) (by omega) (by omega) (Nat.le_of_ble_eq_true rfl) ?_
          exact k9
