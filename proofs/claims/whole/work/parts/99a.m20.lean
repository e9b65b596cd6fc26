/-! parts and bases as a whole, as the reference sees them -/
/-- the nodes of part p, laid in hand -/
def cpE (x : Nat → Int32) (F : Nat → Int32) (p : Nat) : Nat → Nat → Int32
  | 0 => x
  | i + 1 => upd (cpE x F p i) i (F (5 * p + i))
def arP (n sh k : Nat) (g : Int64) (F : Nat → Int32) (pl : Nat → Nat) : Nat → Nat → Int64 → (Nat → Int64) → (Nat → Int32) → Nat → Bool × (Nat → Int64) × G3
  | 0, _, _, T, x, m => (true, T, x, m)
  | z + 1, p, t, T, x, m =>
    if lpN n sh k (cpE x F p (pl p)) 0 (pl p) = lN 0 ∨ ¬ lpN n sh k (cpE x F p (pl p)) 0 (pl p) &&& (g ^^^ (-1)) = lN 0 ∨ ¬ lpN n sh k (cpE x F p (pl p)) 0 (pl p) &&& t = lN 0 then (false, T, cpE x F p (pl p), pl p)
    else arP n sh k g F pl z (p + 1) (t ||| lpN n sh k (cpE x F p (pl p)) 0 (pl p)) (vp_updL T (30 + p) (lpN n sh k (cpE x F p (pl p)) 0 (pl p))) (cpE x F p (pl p)) (pl p)
abbrev arB (pl bc : Nat) (T : Nat → Int64) : Prop := ∀ u, u < bc → T (5 + 6 * u) = lN pl ∧ ∀ i, i < pl → ∀ j, j < i → T (5 + 6 * u + 1 + i) ≠ T (5 + 6 * u + 1 + j)
set_option maxRecDepth 100000 in
theorem m_areRightB (adK : Nat → Nat) (d : Nat) (Y : MN) (P : Nat → MN) (a : G0) (b : G1) (c : G3) (e : G4) (f : G5) (g : G6) (h : G7) (sh k bc : Nat) (tk : Int64) (hT1 : b.2.2.2.2.2.1 1 = lN sh) (hT2 : b.2.2.2.2.2.1 2 = lN k) (hT4 : b.2.2.2.2.2.1 4 = lN bc) (hS : shOk sh k) (hbc : bc ≤ 4) : pnWP mX7_areRight adK (d + 3) (pnIs (.inl (some (.int (nB (decide (arB (plN sh k) bc b.2.2.2.2.2.1)))))) (hM Y P a b c e f g h)) 0 0 (hM Y P a b c e f g h) [some (.ref 0), some (.long tk), none, some (.int (nI 0))] [] 140 := by
  obtain ⟨b1, b2, b3, b4, b5, b6⟩ := shOk_b hS
  have lpJ : ∀ u i, u < bc → i < plN sh k → ((∀ j, j < i → b.2.2.2.2.2.1 (5 + 6 * u + 1 + i) ≠ b.2.2.2.2.2.1 (5 + 6 * u + 1 + j)) → pnWP mX7_areRight adK (d + 3) (pnIs (.inl (some (.int (nB (decide (arB (plN sh k) bc b.2.2.2.2.2.1)))))) (hM Y P a b c e f g h)) 0 0 (hM Y P a b c e f g h) [some (.ref 0), some (.long tk), none, some (.int (nI u)), some (.int (nI (5 + 6 * u))), some (.int (nI i))] [] 252) →
      ∀ (z j : Nat), j + z = i → (∀ j', j' < j → b.2.2.2.2.2.1 (5 + 6 * u + 1 + i) ≠ b.2.2.2.2.2.1 (5 + 6 * u + 1 + j')) → pnWP mX7_areRight adK (d + 3) (pnIs (.inl (some (.int (nB (decide (arB (plN sh k) bc b.2.2.2.2.2.1)))))) (hM Y P a b c e f g h)) 0 0 (hM Y P a b c e f g h) [some (.ref 0), some (.long tk), none, some (.int (nI u)), some (.int (nI (5 + 6 * u))), some (.int (nI i)), some (.int (nI j))] [] 209 := by
    intro u i hu hi kk z
    induction z with
    | zero =>
      intro j hj H
      have hji : j = i := by omega
      subst hji
      refine pn_iload (q := 211) dX7_areRight_209 rfl rfl ?_
      refine pn_iload (q := 213) dX7_areRight_211 rfl rfl ?_
      first | refine pn_nge (q := 216) (tgt := 252) dX7_areRight_213 (by decide) rfl (by omega) (by omega) (fun hc213 => ?_) (fun hc213 => ?_) | refine pn_icmp_ge (q := 216) (tgt := 252) dX7_areRight_213 (by decide) rfl (fun hc213 => ?_) (fun hc213 => ?_)
      · exact pn_take 6 (kk H)
      · omega
    | succ z ih =>
      intro j hj H
      refine pn_iload (q := 211) dX7_areRight_209 rfl rfl ?_
      refine pn_iload (q := 213) dX7_areRight_211 rfl rfl ?_
      first | refine pn_nge (q := 216) (tgt := 252) dX7_areRight_213 (by decide) rfl (by omega) (by omega) (fun hc213 => ?_) (fun hc213 => ?_) | refine pn_icmp_ge (q := 216) (tgt := 252) dX7_areRight_213 (by decide) rfl (fun hc213 => ?_) (fun hc213 => ?_)
      · omega
      · refine pn_aload_n (q := 217) dX7_areRight_216 rfl rfl rfl ?_
        refine pn_get (q := 220) fX7_24 dX7_areRight_217 rfl rfl rfl ?_
        refine pn_iload (q := 222) dX7_areRight_220 rfl rfl ?_
        refine pn_iconst (q := 223) (v := nI 1) dX7_areRight_222 rfl (by decide) ?_
        first | with_reducible refine pn_iaddN (q := 224) dX7_areRight_223 rfl ?_ | refine pn_iadd (q := 224) dX7_areRight_223 rfl ?_
        refine pn_iload (q := 226) dX7_areRight_224 rfl rfl ?_
        first | with_reducible refine pn_iaddN (q := 227) dX7_areRight_226 rfl ?_ | refine pn_iadd (q := 227) dX7_areRight_226 rfl ?_
        refine pn_lald1 (q := 228) dX7_areRight_227 rfl rfl rfl (by omega) (by decide) ?_
        refine pn_aload_n (q := 229) dX7_areRight_228 rfl rfl rfl ?_
        refine pn_get (q := 232) fX7_24 dX7_areRight_229 rfl rfl rfl ?_
        refine pn_iload (q := 234) dX7_areRight_232 rfl rfl ?_
        refine pn_iconst (q := 235) (v := nI 1) dX7_areRight_234 rfl (by decide) ?_
        first | with_reducible refine pn_iaddN (q := 236) dX7_areRight_235 rfl ?_ | refine pn_iadd (q := 236) dX7_areRight_235 rfl ?_
        refine pn_iload (q := 238) dX7_areRight_236 rfl rfl ?_
        first | with_reducible refine pn_iaddN (q := 239) dX7_areRight_238 rfl ?_ | refine pn_iadd (q := 239) dX7_areRight_238 rfl ?_
        refine pn_lald1 (q := 240) dX7_areRight_239 rfl rfl rfl (by omega) (by decide) ?_
        refine pn_lne (q1 := 241) (q := 244) (tgt := 246) dX7_areRight_240 rfl dX7_areRight_241 (by decide) rfl (fun hc240 => ?_) (fun hc240 => ?_)
        · first | refine pn_iinc1 (q := 249) dX7_areRight_246 rfl rfl (by decide) ?_ | refine pn_iinc (q := 249) (mm := 1) dX7_areRight_246 rfl rfl (by decide) (by decide) ?_
          refine pn_goto (q := 209) dX7_areRight_249 (by decide) ?_
          exact ih (j + 1) (by omega) (fun j' hj' => by rcases Nat.lt_or_eq_of_le (Nat.le_of_lt_succ hj') with q | q; exact H j' q; rw [q]; exact hc240)
        · refine pn_iconst (q := 245) (v := nI 0) dX7_areRight_244 rfl (by decide) ?_
          refine pn_tret (b := decide (arB (plN sh k) bc b.2.2.2.2.2.1)) _ ?_ dX7_areRight_245 rfl ?_
          · rw [decide_eq_false (fun hh => (hh u hu).2 i hi j (by omega) hc240)]; rfl
          · exact ⟨rfl, rfl⟩
  have lpI : ∀ u, u < bc → b.2.2.2.2.2.1 (5 + 6 * u) = lN (plN sh k) → ((∀ i, i < plN sh k → ∀ j, j < i → b.2.2.2.2.2.1 (5 + 6 * u + 1 + i) ≠ b.2.2.2.2.2.1 (5 + 6 * u + 1 + j)) → pnWP mX7_areRight adK (d + 3) (pnIs (.inl (some (.int (nB (decide (arB (plN sh k) bc b.2.2.2.2.2.1)))))) (hM Y P a b c e f g h)) 0 0 (hM Y P a b c e f g h) [some (.ref 0), some (.long tk), none, some (.int (nI u))] [] 258) →
      ∀ (z i : Nat), i + z = plN sh k → (∀ i', i' < i → ∀ j, j < i' → b.2.2.2.2.2.1 (5 + 6 * u + 1 + i') ≠ b.2.2.2.2.2.1 (5 + 6 * u + 1 + j)) → pnWP mX7_areRight adK (d + 3) (pnIs (.inl (some (.int (nB (decide (arB (plN sh k) bc b.2.2.2.2.2.1)))))) (hM Y P a b c e f g h)) 0 0 (hM Y P a b c e f g h) [some (.ref 0), some (.long tk), none, some (.int (nI u)), some (.int (nI (5 + 6 * u))), some (.int (nI i))] [] 192 := by
    intro u hu hL kk z
    induction z with
    | zero =>
      intro i hi H
      have hii : i = plN sh k := by omega
      rw [hii] at H
      refine pn_iload (q := 194) dX7_areRight_192 rfl rfl ?_
      first | with_reducible refine pn_i2lN (q := 195) dX7_areRight_194 rfl (by omega) ?_ | refine pn_i2l (q := 195) dX7_areRight_194 rfl ?_
      refine pn_aload_n (q := 196) dX7_areRight_195 rfl rfl rfl ?_
      refine pn_get (q := 199) fX7_24 dX7_areRight_196 rfl rfl rfl ?_
      refine pn_iload (q := 201) dX7_areRight_199 rfl rfl ?_
      refine pn_lald1 (q := 202) dX7_areRight_201 rfl rfl rfl (by omega) (by decide) ?_; rw [hL]
      refine pn_lge (q1 := 203) (q := 206) (tgt := 258) dX7_areRight_202 rfl dX7_areRight_203 (by decide) rfl (fun hc202 => ?_) (fun hc202 => ?_)
      · exact pn_take 4 (kk H)
      · exact (hc202 ((lN_leI (by omega) (by omega)).mpr (by omega))).elim
    | succ z ih =>
      intro i hi H
      have k252 : (∀ j, j < i → b.2.2.2.2.2.1 (5 + 6 * u + 1 + i) ≠ b.2.2.2.2.2.1 (5 + 6 * u + 1 + j)) → pnWP mX7_areRight adK (d + 3) (pnIs (.inl (some (.int (nB (decide (arB (plN sh k) bc b.2.2.2.2.2.1)))))) (hM Y P a b c e f g h)) 0 0 (hM Y P a b c e f g h) [some (.ref 0), some (.long tk), none, some (.int (nI u)), some (.int (nI (5 + 6 * u))), some (.int (nI i))] [] 252 := by
        intro H2
        first | refine pn_iinc1 (q := 255) dX7_areRight_252 rfl rfl (by decide) ?_ | refine pn_iinc (q := 255) (mm := 1) dX7_areRight_252 rfl rfl (by decide) (by decide) ?_
        refine pn_goto (q := 192) dX7_areRight_255 (by decide) ?_
        exact ih (i + 1) (by omega) (fun i' hi' => by rcases Nat.lt_or_eq_of_le (Nat.le_of_lt_succ hi') with q | q; exact H i' q; rw [q]; exact H2)
      refine pn_iload (q := 194) dX7_areRight_192 rfl rfl ?_
      first | with_reducible refine pn_i2lN (q := 195) dX7_areRight_194 rfl (by omega) ?_ | refine pn_i2l (q := 195) dX7_areRight_194 rfl ?_
      refine pn_aload_n (q := 196) dX7_areRight_195 rfl rfl rfl ?_
      refine pn_get (q := 199) fX7_24 dX7_areRight_196 rfl rfl rfl ?_
      refine pn_iload (q := 201) dX7_areRight_199 rfl rfl ?_
      refine pn_lald1 (q := 202) dX7_areRight_201 rfl rfl rfl (by omega) (by decide) ?_; rw [hL]
      refine pn_lge (q1 := 203) (q := 206) (tgt := 258) dX7_areRight_202 rfl dX7_areRight_203 (by decide) rfl (fun hc202 => ?_) (fun hc202 => ?_)
      · (rw [lN_leI (by omega) (by omega)] at hc202; omega)
      · refine pn_iconst (q := 207) (v := nI 0) dX7_areRight_206 rfl (by decide) ?_
        refine pn_istore (q := 209) dX7_areRight_207 rfl (by decide) ?_
        exact lpJ u i hu (by omega) k252 i 0 (by omega) (fun j' hj' => absurd hj' (Nat.not_lt_zero _))
  have lpU : ∀ (z u : Nat), u + z = bc → (∀ u', u' < u → b.2.2.2.2.2.1 (5 + 6 * u') = lN (plN sh k) ∧ ∀ i, i < plN sh k → ∀ j, j < i → b.2.2.2.2.2.1 (5 + 6 * u' + 1 + i) ≠ b.2.2.2.2.2.1 (5 + 6 * u' + 1 + j)) → pnWP mX7_areRight adK (d + 3) (pnIs (.inl (some (.int (nB (decide (arB (plN sh k) bc b.2.2.2.2.2.1)))))) (hM Y P a b c e f g h)) 0 0 (hM Y P a b c e f g h) [some (.ref 0), some (.long tk), none, some (.int (nI u))] [] 140 := by
    intro z
    induction z with
    | zero =>
      intro u hu H
      have huu : u = bc := by omega
      rw [huu] at H
      refine pn_iload_n (q := 141) dX7_areRight_140 rfl rfl ?_
      first | with_reducible refine pn_i2lN (q := 142) dX7_areRight_141 rfl (by omega) ?_ | refine pn_i2l (q := 142) dX7_areRight_141 rfl ?_
      refine pn_aload_n (q := 143) dX7_areRight_142 rfl rfl rfl ?_
      refine pn_get (q := 146) fX7_24 dX7_areRight_143 rfl rfl rfl ?_
      refine pn_iconst (q := 147) (v := nI 4) dX7_areRight_146 rfl (by decide) ?_
      refine pn_lald1 (q := 148) dX7_areRight_147 rfl rfl rfl (by omega) (by decide) ?_; rw [hT4]
      refine pn_lge (q1 := 149) (q := 152) (tgt := 264) dX7_areRight_148 rfl dX7_areRight_149 (by decide) rfl (fun hc148 => ?_) (fun hc148 => ?_)
      · refine pn_iconst (q := 265) (v := nI 1) dX7_areRight_264 rfl (by decide) ?_
        refine pn_tret (b := decide (arB (plN sh k) bc b.2.2.2.2.2.1)) _ ?_ dX7_areRight_265 rfl ?_
        · rw [decide_eq_true H]; rfl
        · exact ⟨rfl, rfl⟩
      · exact (hc148 ((lN_leI (by omega) (by omega)).mpr (by omega))).elim
    | succ z ih =>
      intro u hu H
      have CE := m_endsOf adK d sh k b1 (by omega)
      by_cases hL : b.2.2.2.2.2.1 (5 + 6 * u) = lN (plN sh k)
      · have k258 : (∀ i, i < plN sh k → ∀ j, j < i → b.2.2.2.2.2.1 (5 + 6 * u + 1 + i) ≠ b.2.2.2.2.2.1 (5 + 6 * u + 1 + j)) → pnWP mX7_areRight adK (d + 3) (pnIs (.inl (some (.int (nB (decide (arB (plN sh k) bc b.2.2.2.2.2.1)))))) (hM Y P a b c e f g h)) 0 0 (hM Y P a b c e f g h) [some (.ref 0), some (.long tk), none, some (.int (nI u))] [] 258 := by
          intro H2
          first | refine pn_iinc1 (q := 261) dX7_areRight_258 rfl rfl (by decide) ?_ | refine pn_iinc (q := 261) (mm := 1) dX7_areRight_258 rfl rfl (by decide) (by decide) ?_
          refine pn_goto (q := 140) dX7_areRight_261 (by decide) ?_
          exact ih (u + 1) (by omega) (fun u' hu' => by rcases Nat.lt_or_eq_of_le (Nat.le_of_lt_succ hu') with q | q; exact H u' q; rw [q]; exact ⟨hL, H2⟩)
        refine pn_iload_n (q := 141) dX7_areRight_140 rfl rfl ?_
        first | with_reducible refine pn_i2lN (q := 142) dX7_areRight_141 rfl (by omega) ?_ | refine pn_i2l (q := 142) dX7_areRight_141 rfl ?_
        refine pn_aload_n (q := 143) dX7_areRight_142 rfl rfl rfl ?_
        refine pn_get (q := 146) fX7_24 dX7_areRight_143 rfl rfl rfl ?_
        refine pn_iconst (q := 147) (v := nI 4) dX7_areRight_146 rfl (by decide) ?_
        refine pn_lald1 (q := 148) dX7_areRight_147 rfl rfl rfl (by omega) (by decide) ?_; rw [hT4]
        refine pn_lge (q1 := 149) (q := 152) (tgt := 264) dX7_areRight_148 rfl dX7_areRight_149 (by decide) rfl (fun hc148 => ?_) (fun hc148 => ?_)
        · (rw [lN_leI (by omega) (by omega)] at hc148; omega)
        · refine pn_iconst (q := 153) (v := nI 5) dX7_areRight_152 rfl (by decide) ?_
          refine pn_bipush (q := 155) (v := nI 6) dX7_areRight_153 rfl (by decide) ?_
          refine pn_iload_n (q := 156) dX7_areRight_155 rfl rfl ?_
          first | with_reducible refine pn_imulN (q := 157) dX7_areRight_156 rfl ?_ | refine pn_imul (q := 157) dX7_areRight_156 rfl ?_
          first | with_reducible refine pn_iaddN (q := 158) dX7_areRight_157 rfl ?_ | refine pn_iadd (q := 158) dX7_areRight_157 rfl ?_
          refine pn_istore (q := 160) dX7_areRight_158 rfl (by decide) ?_
          refine pn_aload_n (q := 161) dX7_areRight_160 rfl rfl rfl ?_
          refine pn_get (q := 164) fX7_24 dX7_areRight_161 rfl rfl rfl ?_
          refine pn_iload (q := 166) dX7_areRight_164 rfl rfl ?_
          refine pn_lald1 (q := 167) dX7_areRight_166 rfl rfl rfl (by omega) (by decide) ?_; rw [hL]
          refine pn_aload_n (q := 168) dX7_areRight_167 rfl rfl rfl ?_
          refine pn_get (q := 171) fX7_24 dX7_areRight_168 rfl rfl rfl ?_
          refine pn_iconst (q := 172) (v := nI 1) dX7_areRight_171 rfl (by decide) ?_
          refine pn_lald1 (q := 173) dX7_areRight_172 rfl rfl rfl (by omega) (by decide) ?_; rw [hT1]
          refine pn_aload_n (q := 174) dX7_areRight_173 rfl rfl rfl ?_
          refine pn_get (q := 177) fX7_24 dX7_areRight_174 rfl rfl rfl ?_
          refine pn_iconst (q := 178) (v := nI 2) dX7_areRight_177 rfl (by decide) ?_
          refine pn_lald1 (q := 179) dX7_areRight_178 rfl rfl rfl (by omega) (by decide) ?_; rw [hT2]
          refine pn_roS1 (q := 182) (CE) lkX7_88 dX7_areRight_179 rfl rfl (pnSel_of (I := []) rfl rfl) (pnFree_none rfl) rfl (by omega) (Nat.le_of_ble_eq_true rfl) rfl ?_
          first | with_reducible refine pn_i2lN (q := 183) dX7_areRight_182 rfl (by omega) ?_ | refine pn_i2l (q := 183) dX7_areRight_182 rfl ?_
          refine pn_leq (q1 := 184) (q := 187) (tgt := 189) dX7_areRight_183 rfl dX7_areRight_184 (by decide) rfl (fun hc183 => ?_) (fun hc183 => ?_)
          · refine pn_iconst (q := 190) (v := nI 0) dX7_areRight_189 rfl (by decide) ?_
            refine pn_istore (q := 192) dX7_areRight_190 rfl (by decide) ?_
            exact lpI u (by omega) hL k258 (plN sh k) 0 (by omega) (fun j' hj' => absurd hj' (Nat.not_lt_zero _))
          · exact (hc183 rfl).elim
      · refine pn_iload_n (q := 141) dX7_areRight_140 rfl rfl ?_
        first | with_reducible refine pn_i2lN (q := 142) dX7_areRight_141 rfl (by omega) ?_ | refine pn_i2l (q := 142) dX7_areRight_141 rfl ?_
        refine pn_aload_n (q := 143) dX7_areRight_142 rfl rfl rfl ?_
        refine pn_get (q := 146) fX7_24 dX7_areRight_143 rfl rfl rfl ?_
        refine pn_iconst (q := 147) (v := nI 4) dX7_areRight_146 rfl (by decide) ?_
        refine pn_lald1 (q := 148) dX7_areRight_147 rfl rfl rfl (by omega) (by decide) ?_; rw [hT4]
        refine pn_lge (q1 := 149) (q := 152) (tgt := 264) dX7_areRight_148 rfl dX7_areRight_149 (by decide) rfl (fun hc148 => ?_) (fun hc148 => ?_)
        · (rw [lN_leI (by omega) (by omega)] at hc148; omega)
        · refine pn_iconst (q := 153) (v := nI 5) dX7_areRight_152 rfl (by decide) ?_
          refine pn_bipush (q := 155) (v := nI 6) dX7_areRight_153 rfl (by decide) ?_
          refine pn_iload_n (q := 156) dX7_areRight_155 rfl rfl ?_
          first | with_reducible refine pn_imulN (q := 157) dX7_areRight_156 rfl ?_ | refine pn_imul (q := 157) dX7_areRight_156 rfl ?_
          first | with_reducible refine pn_iaddN (q := 158) dX7_areRight_157 rfl ?_ | refine pn_iadd (q := 158) dX7_areRight_157 rfl ?_
          refine pn_istore (q := 160) dX7_areRight_158 rfl (by decide) ?_
          refine pn_aload_n (q := 161) dX7_areRight_160 rfl rfl rfl ?_
          refine pn_get (q := 164) fX7_24 dX7_areRight_161 rfl rfl rfl ?_
          refine pn_iload (q := 166) dX7_areRight_164 rfl rfl ?_
          refine pn_lald1 (q := 167) dX7_areRight_166 rfl rfl rfl (by omega) (by decide) ?_
          refine pn_aload_n (q := 168) dX7_areRight_167 rfl rfl rfl ?_
          refine pn_get (q := 171) fX7_24 dX7_areRight_168 rfl rfl rfl ?_
          refine pn_iconst (q := 172) (v := nI 1) dX7_areRight_171 rfl (by decide) ?_
          refine pn_lald1 (q := 173) dX7_areRight_172 rfl rfl rfl (by omega) (by decide) ?_; rw [hT1]
          refine pn_aload_n (q := 174) dX7_areRight_173 rfl rfl rfl ?_
          refine pn_get (q := 177) fX7_24 dX7_areRight_174 rfl rfl rfl ?_
          refine pn_iconst (q := 178) (v := nI 2) dX7_areRight_177 rfl (by decide) ?_
          refine pn_lald1 (q := 179) dX7_areRight_178 rfl rfl rfl (by omega) (by decide) ?_; rw [hT2]
          refine pn_roS1 (q := 182) (CE) lkX7_88 dX7_areRight_179 rfl rfl (pnSel_of (I := []) rfl rfl) (pnFree_none rfl) rfl (by omega) (Nat.le_of_ble_eq_true rfl) rfl ?_
          first | with_reducible refine pn_i2lN (q := 183) dX7_areRight_182 rfl (by omega) ?_ | refine pn_i2l (q := 183) dX7_areRight_182 rfl ?_
          refine pn_leq (q1 := 184) (q := 187) (tgt := 189) dX7_areRight_183 rfl dX7_areRight_184 (by decide) rfl (fun hc183 => ?_) (fun hc183 => ?_)
          · exact (hL hc183).elim
          · refine pn_iconst (q := 188) (v := nI 0) dX7_areRight_187 rfl (by decide) ?_
            refine pn_tret (b := decide (arB (plN sh k) bc b.2.2.2.2.2.1)) _ ?_ dX7_areRight_188 rfl ?_
            · rw [decide_eq_false (fun hh => hL (hh u (by omega)).1)]; rfl
            · exact ⟨rfl, rfl⟩
  exact lpU bc 0 (by omega) (fun j' hj' => absurd hj' (Nat.not_lt_zero _))
