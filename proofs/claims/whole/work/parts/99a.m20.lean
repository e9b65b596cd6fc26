/-! parts and bases as a whole, as the reference sees them -/
/-- the nodes of part p, laid in hand -/
def cpE (x : Nat → Int32) (F : Nat → Int32) (p : Nat) : Nat → Nat → Int32
  | 0 => x
  | i + 1 => upd (cpE x F p i) i (F (5 * p + i))
def arP (n sh k : Nat) (g : Int64) (F : Nat → Int32) (pl : Nat → Nat) : Nat → Nat → Int64 → (Nat → Int64) → (Nat → Int32) → Nat → Bool × (Nat → Int64) × G3
  | 0, _, _, T, x, m => (true, T, x, m)
  | z + 1, p, t, T, x, m =>
    if lpN n sh k (cpE x F p (pl p)) 0 (pl p) = lN 0 ∨ ¬ lpN n sh k (cpE x F p (pl p)) 0 (pl p) &&& (g ^^^ (-1)) = lN 0 ∨ ¬ lpN n sh k (cpE x F p (pl p)) 0 (pl p) &&& t = lN 0 then (false, T, cpE x F p (pl p), pl p)
    else arP n sh k g F pl z (p + 1) (t ||| lpN n sh k (cpE x F p (pl p)) 0 (pl p)) (vp_updL T (30 + p) (lpN n sh k (cpE x F p (pl p)) 0 (pl p))) (cpE x F p (pl p)) (pl p)
abbrev arB (pl bc : Nat) (T : Nat → Int64) : Prop := ∀ u, u < bc → T (5 + 6 * u) = lN pl ∧ ∀ i, i < pl → ∀ j, j < i → T (5 + 6 * u + 1 + i) ≠ T (5 + 6 * u + 1 + j)
set_option maxRecDepth 100000 in
theorem m_areRightB (adK : Nat → Nat) (d : Nat) (Y : MN) (P : Nat → MN) (a : G0) (b : G1) (c : G3) (e : G4) (f : G5) (g : G6) (h : G7) (sh k bc : Nat) (tk : Int64) (hT1 : b.2.2.2.2.2.1 1 = lN sh) (hT2 : b.2.2.2.2.2.1 2 = lN k) (hT4 : b.2.2.2.2.2.1 4 = lN bc) (hS : shOk sh k) (hbc : bc ≤ 4) : pnWP mX7_areRight adK (d + 3) (pnIs (.inl (some (.int (nB (decide (arB (plN sh k) bc b.2.2.2.2.2.1)))))) (hM Y P a b c e f g h)) 0 0 (hM Y P a b c e f g h) [some (.ref 0), some (.long tk), none, some (.int (nI 0))] [] 140 := by
  obtain ⟨b1, b2, b3, b4, b5, b6⟩ := shOk_b hS
  have lpJ : ∀ u i, u < bc → i < plN sh k → ((∀ j, j < i → b.2.2.2.2.2.1 (5 + 6 * u + 1 + i) ≠ b.2.2.2.2.2.1 (5 + 6 * u + 1 + j)) → pnWP mX7_areRight adK (d + 3) (pnIs (.inl (some (.int (nB (decide (arB (plN sh k) bc b.2.2.2.2.2.1)))))) (hM Y P a b c e f g h)) 0 0 (hM Y P a b c e f g h) [some (.ref 0), some (.long tk), none, some (.int (nI u)), some (.int (nI (5 + 6 * u))), some (.int (nI i))] [] 252) →
      ∀ (z j : Nat), j + z = i → (∀ j', j' < j → b.2.2.2.2.2.1 (5 + 6 * u + 1 + i) ≠ b.2.2.2.2.2.1 (5 + 6 * u + 1 + j')) → pnWP mX7_areRight adK (d + 3) (pnIs (.inl (some (.int (nB (decide (arB (plN sh k) bc b.2.2.2.2.2.1)))))) (hM Y P a b c e f g h)) 0 0 (hM Y P a b c e f g h) [some (.ref 0), some (.long tk), none, some (.int (nI u)), some (.int (nI (5 + 6 * u))), some (.int (nI i)), some (.int (nI j))] [] 209 := by
    intro u i hu hi kk z
    induction z with
    | zero =>
      intro j hj H
      have hji : j = i := by omega
      subst hji
      refine pn_iload (q := 211) dX7_areRight_209 rfl rfl ?_
      refine pn_iload (q := 213) dX7_areRight_211 rfl rfl ?_
      first | refine pn_nge (q := 216) (tgt := 252) dX7_areRight_213 (by decide) rfl (by omega) (by omega) (fun hc213 => ?_) (fun hc213 => ?_) | refine pn_icmp_ge (q := 216) (tgt := 252) dX7_areRight_213 (by decide) rfl (fun hc213 => ?_) (fun hc213 => ?_)
      · exact pn_take 6 (kk H)
      · omega
    | succ z ih =>
      intro j hj H
      refine pn_iload (q := 211) dX7_areRight_209 rfl rfl ?_
      refine pn_iload (q := 213) dX7_areRight_211 rfl rfl ?_
      first | refine pn_nge (q := 216) (tgt := 252) dX7_areRight_213 (by decide) rfl (by omega) (by omega) (fun hc213 => ?_) (fun hc213 => ?_) | refine pn_icmp_ge (q := 216) (tgt := 252) dX7_areRight_213 (by decide) rfl (fun hc213 => ?_) (fun hc213 => ?_)
      · omega
      · refine pn_aload_n (q := 217) dX7_areRight_216 rfl rfl rfl ?_
        refine pn_get (q := 220) fX7_24 dX7_areRight_217 rfl rfl rfl ?_
        refine pn_iload (q := 222) dX7_areRight_220 rfl rfl ?_
        refine pn_iconst (q := 223) (v := nI 1) dX7_areRight_222 rfl (by decide) ?_
        first | with_reducible refine pn_iaddN (q := 224) dX7_areRight_223 rfl ?_ | refine pn_iadd (q := 224) dX7_areRight_223 rfl ?_
        refine pn_iload (q := 226) dX7_areRight_224 rfl rfl ?_
        first | with_reducible refine pn_iaddN (q := 227) dX7_areRight_226 rfl ?_ | refine pn_iadd (q := 227) dX7_areRight_226 rfl ?_
        refine pn_lald1 (q := 228) dX7_areRight_227 rfl rfl rfl (by omega) (by decide) ?_
        refine pn_aload_n (q := 229) dX7_areRight_228 rfl rfl rfl ?_
        refine pn_get (q := 232) fX7_24 dX7_areRight_229 rfl rfl rfl ?_
        refine pn_iload (q := 234) dX7_areRight_232 rfl rfl ?_
        refine pn_iconst (q := 235) (v := nI 1) dX7_areRight_234 rfl (by decide) ?_
        first | with_reducible refine pn_iaddN (q := 236) dX7_areRight_235 rfl ?_ | refine pn_iadd (q := 236) dX7_areRight_235 rfl ?_
        refine pn_iload (q := 238) dX7_areRight_236 rfl rfl ?_
        first | with_reducible refine pn_iaddN (q := 239) dX7_areRight_238 rfl ?_ | refine pn_iadd (q := 239) dX7_areRight_238 rfl ?_
        refine pn_lald1 (q := 240) dX7_areRight_239 rfl rfl rfl (by omega) (by decide) ?_
        refine pn_lne (q1 := 241) (q := 244) (tgt := 246) dX7_areRight_240 rfl dX7_areRight_241 (by decide) rfl (fun hc240 => ?_) (fun hc240 => ?_)
        · first | refine pn_iinc1 (q := 249) dX7_areRight_246 rfl rfl (by decide) ?_ | refine pn_iinc (q := 249) (mm := 1) dX7_areRight_246 rfl rfl (by decide) (by decide) ?_
          refine pn_goto (q := 209) dX7_areRight_249 (by decide) ?_
          exact ih (j + 1) (by omega) (fun j' hj' => by rcases Nat.lt_or_eq_of_le (Nat.le_of_lt_succ hj') with q | q; exact H j' q; rw [q]; exact hc240)
        · refine pn_iconst (q := 245) (v := nI 0) dX7_areRight_244 rfl (by decide) ?_
          refine pn_tret (b := decide (arB (plN sh k) bc b.2.2.2.2.2.1)) _ ?_ dX7_areRight_245 rfl ?_
          · rw [decide_eq_false (fun hh => (hh u hu).2 i hi j (by omega) hc240)]; rfl
          · exact ⟨rfl, rfl⟩
  have lpI : ∀ u, u < bc → b.2.2.2.2.2.1 (5 + 6 * u) = lN (plN sh k) → ((∀ i, i < plN sh k → ∀ j, j < i → b.2.2.2.2.2.1 (5 + 6 * u + 1 + i) ≠ b.2.2.2.2.2.1 (5 + 6 * u + 1 + j)) → pnWP mX7_areRight adK (d + 3) (pnIs (.inl (some (.int (nB (decide (arB (plN sh k) bc b.2.2.2.2.2.1)))))) (hM Y P a b c e f g h)) 0 0 (hM Y P a b c e f g h) [some (.ref 0), some (.long tk), none, some (.int (nI u))] [] 258) →
      ∀ (z i : Nat), i + z = plN sh k → (∀ i', i' < i → ∀ j, j < i' → b.2.2.2.2.2.1 (5 + 6 * u + 1 + i') ≠ b.2.2.2.2.2.1 (5 + 6 * u + 1 + j)) → pnWP mX7_areRight adK (d + 3) (pnIs (.inl (some (.int (nB (decide (arB (plN sh k) bc b.2.2.2.2.2.1)))))) (hM Y P a b c e f g h)) 0 0 (hM Y P a b c e f g h) [some (.ref 0), some (.long tk), none, some (.int (nI u)), some (.int (nI (5 + 6 * u))), some (.int (nI i))] [] 192 := by
    intro u hu hL kk z
    induction z with
    | zero =>
      intro i hi H
      have hii : i = plN sh k := by omega
      rw [hii] at H
      refine pn_iload (q := 194) dX7_areRight_192 rfl rfl ?_
      first | with_reducible refine pn_i2lN (q := 195) dX7_areRight_194 rfl (by omega) ?_ | refine pn_i2l (q := 195) dX7_areRight_194 rfl ?_
      refine pn_aload_n (q := 196) dX7_areRight_195 rfl rfl rfl ?_
      refine pn_get (q := 199) fX7_24 dX7_areRight_196 rfl rfl rfl ?_
      refine pn_iload (q := 201) dX7_areRight_199 rfl rfl ?_
      refine pn_lald1 (q := 202) dX7_areRight_201 rfl rfl rfl (by omega) (by decide) ?_; rw [hL]
      refine pn_lge (q1 := 203) (q := 206) (tgt := 258) dX7_areRight_202 rfl dX7_areRight_203 (by decide) rfl (fun hc202 => ?_) (fun hc202 => ?_)
      · exact pn_take 4 (kk H)
      · exact (hc202 ((lN_leI (by omega) (by omega)).mpr (by omega))).elim
    | succ z ih =>
      intro i hi H
      have k252 : (∀ j, j < i → b.2.2.2.2.2.1 (5 + 6 * u + 1 + i) ≠ b.2.2.2.2.2.1 (5 + 6 * u + 1 + j)) → pnWP mX7_areRight adK (d + 3) (pnIs (.inl (some (.int (nB (decide (arB (plN sh k) bc b.2.2.2.2.2.1)))))) (hM Y P a b c e f g h)) 0 0 (hM Y P a b c e f g h) [some (.ref 0), some (.long tk), none, some (.int (nI u)), some (.int (nI (5 + 6 * u))), some (.int (nI i))] [] 252 := by
        intro H2
        first | refine pn_iinc1 (q := 255) dX7_areRight_252 rfl rfl (by decide) ?_ | refine pn_iinc (q := 255) (mm := 1) dX7_areRight_252 rfl rfl (by decide) (by decide) ?_
        refine pn_goto (q := 192) dX7_areRight_255 (by decide) ?_
        exact ih (i + 1) (by omega) (fun i' hi' => by rcases Nat.lt_or_eq_of_le (Nat.le_of_lt_succ hi') with q | q; exact H i' q; rw [q]; exact H2)
      refine pn_iload (q := 194) dX7_areRight_192 rfl rfl ?_
      first | with_reducible refine pn_i2lN (q := 195) dX7_areRight_194 rfl (by omega) ?_ | refine pn_i2l (q := 195) dX7_areRight_194 rfl ?_
      refine pn_aload_n (q := 196) dX7_areRight_195 rfl rfl rfl ?_
      refine pn_get (q := 199) fX7_24 dX7_areRight_196 rfl rfl rfl ?_
      refine pn_iload (q := 201) dX7_areRight_199 rfl rfl ?_
      refine pn_lald1 (q := 202) dX7_areRight_201 rfl rfl rfl (by omega) (by decide) ?_; rw [hL]
      refine pn_lge (q1 := 203) (q := 206) (tgt := 258) dX7_areRight_202 rfl dX7_areRight_203 (by decide) rfl (fun hc202 => ?_) (fun hc202 => ?_)
      · (rw [lN_leI (by omega) (by omega)] at hc202; omega)
      · refine pn_iconst (q := 207) (v := nI 0) dX7_areRight_206 rfl (by decide) ?_
        refine pn_istore (q := 209) dX7_areRight_207 rfl (by decide) ?_
        exact lpJ u i hu (by omega) k252 i 0 (by omega) (fun j' hj' => absurd hj' (Nat.not_lt_zero _))
  have lpU : ∀ (z u : Nat), u + z = bc → (∀ u', u' < u → b.2.2.2.2.2.1 (5 + 6 * u') = lN (plN sh k) ∧ ∀ i, i < plN sh k → ∀ j, j < i → b.2.2.2.2.2.1 (5 + 6 * u' + 1 + i) ≠ b.2.2.2.2.2.1 (5 + 6 * u' + 1 + j)) → pnWP mX7_areRight adK (d + 3) (pnIs (.inl (some (.int (nB (decide (arB (plN sh k) bc b.2.2.2.2.2.1)))))) (hM Y P a b c e f g h)) 0 0 (hM Y P a b c e f g h) [some (.ref 0), some (.long tk), none, some (.int (nI u))] [] 140 := by
    intro z
    induction z with
    | zero =>
      intro u hu H
      have huu : u = bc := by omega
      rw [huu] at H
      refine pn_iload_n (q := 141) dX7_areRight_140 rfl rfl ?_
      first | with_reducible refine pn_i2lN (q := 142) dX7_areRight_141 rfl (by omega) ?_ | refine pn_i2l (q := 142) dX7_areRight_141 rfl ?_
      refine pn_aload_n (q := 143) dX7_areRight_142 rfl rfl rfl ?_
      refine pn_get (q := 146) fX7_24 dX7_areRight_143 rfl rfl rfl ?_
      refine pn_iconst (q := 147) (v := nI 4) dX7_areRight_146 rfl (by decide) ?_
      refine pn_lald1 (q := 148) dX7_areRight_147 rfl rfl rfl (by omega) (by decide) ?_; rw [hT4]
      refine pn_lge (q1 := 149) (q := 152) (tgt := 264) dX7_areRight_148 rfl dX7_areRight_149 (by decide) rfl (fun hc148 => ?_) (fun hc148 => ?_)
      · refine pn_iconst (q := 265) (v := nI 1) dX7_areRight_264 rfl (by decide) ?_
        refine pn_tret (b := decide (arB (plN sh k) bc b.2.2.2.2.2.1)) _ ?_ dX7_areRight_265 rfl ?_
        · rw [decide_eq_true H]; rfl
        · exact ⟨rfl, rfl⟩
      · exact (hc148 ((lN_leI (by omega) (by omega)).mpr (by omega))).elim
    | succ z ih =>
      intro u hu H
      have CE := m_endsOf adK d sh k b1 (by omega)
      by_cases hL : b.2.2.2.2.2.1 (5 + 6 * u) = lN (plN sh k)
      · have k258 : (∀ i, i < plN sh k → ∀ j, j < i → b.2.2.2.2.2.1 (5 + 6 * u + 1 + i) ≠ b.2.2.2.2.2.1 (5 + 6 * u + 1 + j)) → pnWP mX7_areRight adK (d + 3) (pnIs (.inl (some (.int (nB (decide (arB (plN sh k) bc b.2.2.2.2.2.1)))))) (hM Y P a b c e f g h)) 0 0 (hM Y P a b c e f g h) [some (.ref 0), some (.long tk), none, some (.int (nI u))] [] 258 := by
          intro H2
          first | refine pn_iinc1 (q := 261) dX7_areRight_258 rfl rfl (by decide) ?_ | refine pn_iinc (q := 261) (mm := 1) dX7_areRight_258 rfl rfl (by decide) (by decide) ?_
          refine pn_goto (q := 140) dX7_areRight_261 (by decide) ?_
          exact ih (u + 1) (by omega) (fun u' hu' => by rcases Nat.lt_or_eq_of_le (Nat.le_of_lt_succ hu') with q | q; exact H u' q; rw [q]; exact ⟨hL, H2⟩)
        refine pn_iload_n (q := 141) dX7_areRight_140 rfl rfl ?_
        first | with_reducible refine pn_i2lN (q := 142) dX7_areRight_141 rfl (by omega) ?_ | refine pn_i2l (q := 142) dX7_areRight_141 rfl ?_
        refine pn_aload_n (q := 143) dX7_areRight_142 rfl rfl rfl ?_
        refine pn_get (q := 146) fX7_24 dX7_areRight_143 rfl rfl rfl ?_
        refine pn_iconst (q := 147) (v := nI 4) dX7_areRight_146 rfl (by decide) ?_
        refine pn_lald1 (q := 148) dX7_areRight_147 rfl rfl rfl (by omega) (by decide) ?_; rw [hT4]
        refine pn_lge (q1 := 149) (q := 152) (tgt := 264) dX7_areRight_148 rfl dX7_areRight_149 (by decide) rfl (fun hc148 => ?_) (fun hc148 => ?_)
        · (rw [lN_leI (by omega) (by omega)] at hc148; omega)
        · refine pn_iconst (q := 153) (v := nI 5) dX7_areRight_152 rfl (by decide) ?_
          refine pn_bipush (q := 155) (v := nI 6) dX7_areRight_153 rfl (by decide) ?_
          refine pn_iload_n (q := 156) dX7_areRight_155 rfl rfl ?_
          first | with_reducible refine pn_imulN (q := 157) dX7_areRight_156 rfl ?_ | refine pn_imul (q := 157) dX7_areRight_156 rfl ?_
          first | with_reducible refine pn_iaddN (q := 158) dX7_areRight_157 rfl ?_ | refine pn_iadd (q := 158) dX7_areRight_157 rfl ?_
          refine pn_istore (q := 160) dX7_areRight_158 rfl (by decide) ?_
          refine pn_aload_n (q := 161) dX7_areRight_160 rfl rfl rfl ?_
          refine pn_get (q := 164) fX7_24 dX7_areRight_161 rfl rfl rfl ?_
          refine pn_iload (q := 166) dX7_areRight_164 rfl rfl ?_
          refine pn_lald1 (q := 167) dX7_areRight_166 rfl rfl rfl (by omega) (by decide) ?_; rw [hL]
          refine pn_aload_n (q := 168) dX7_areRight_167 rfl rfl rfl ?_
          refine pn_get (q := 171) fX7_24 dX7_areRight_168 rfl rfl rfl ?_
          refine pn_iconst (q := 172) (v := nI 1) dX7_areRight_171 rfl (by decide) ?_
          refine pn_lald1 (q := 173) dX7_areRight_172 rfl rfl rfl (by omega) (by decide) ?_; rw [hT1]
          refine pn_aload_n (q := 174) dX7_areRight_173 rfl rfl rfl ?_
          refine pn_get (q := 177) fX7_24 dX7_areRight_174 rfl rfl rfl ?_
          refine pn_iconst (q := 178) (v := nI 2) dX7_areRight_177 rfl (by decide) ?_
          refine pn_lald1 (q := 179) dX7_areRight_178 rfl rfl rfl (by omega) (by decide) ?_; rw [hT2]
          refine pn_roS1 (q := 182) (CE) lkX7_88 dX7_areRight_179 rfl rfl (pnSel_of (I := []) rfl rfl) (pnFree_none rfl) rfl (by omega) (Nat.le_of_ble_eq_true rfl) rfl ?_
          first | with_reducible refine pn_i2lN (q := 183) dX7_areRight_182 rfl (by omega) ?_ | refine pn_i2l (q := 183) dX7_areRight_182 rfl ?_
          refine pn_leq (q1 := 184) (q := 187) (tgt := 189) dX7_areRight_183 rfl dX7_areRight_184 (by decide) rfl (fun hc183 => ?_) (fun hc183 => ?_)
          · refine pn_iconst (q := 190) (v := nI 0) dX7_areRight_189 rfl (by decide) ?_
            refine pn_istore (q := 192) dX7_areRight_190 rfl (by decide) ?_
            exact lpI u (by omega) hL k258 (plN sh k) 0 (by omega) (fun j' hj' => absurd hj' (Nat.not_lt_zero _))
          · exact (hc183 rfl).elim
      · refine pn_iload_n (q := 141) dX7_areRight_140 rfl rfl ?_
        first | with_reducible refine pn_i2lN (q := 142) dX7_areRight_141 rfl (by omega) ?_ | refine pn_i2l (q := 142) dX7_areRight_141 rfl ?_
        refine pn_aload_n (q := 143) dX7_areRight_142 rfl rfl rfl ?_
        refine pn_get (q := 146) fX7_24 dX7_areRight_143 rfl rfl rfl ?_
        refine pn_iconst (q := 147) (v := nI 4) dX7_areRight_146 rfl (by decide) ?_
        refine pn_lald1 (q := 148) dX7_areRight_147 rfl rfl rfl (by omega) (by decide) ?_; rw [hT4]
        refine pn_lge (q1 := 149) (q := 152) (tgt := 264) dX7_areRight_148 rfl dX7_areRight_149 (by decide) rfl (fun hc148 => ?_) (fun hc148 => ?_)
        · (rw [lN_leI (by omega) (by omega)] at hc148; omega)
        · refine pn_iconst (q := 153) (v := nI 5) dX7_areRight_152 rfl (by decide) ?_
          refine pn_bipush (q := 155) (v := nI 6) dX7_areRight_153 rfl (by decide) ?_
          refine pn_iload_n (q := 156) dX7_areRight_155 rfl rfl ?_
          first | with_reducible refine pn_imulN (q := 157) dX7_areRight_156 rfl ?_ | refine pn_imul (q := 157) dX7_areRight_156 rfl ?_
          first | with_reducible refine pn_iaddN (q := 158) dX7_areRight_157 rfl ?_ | refine pn_iadd (q := 158) dX7_areRight_157 rfl ?_
          refine pn_istore (q := 160) dX7_areRight_158 rfl (by decide) ?_
          refine pn_aload_n (q := 161) dX7_areRight_160 rfl rfl rfl ?_
          refine pn_get (q := 164) fX7_24 dX7_areRight_161 rfl rfl rfl ?_
          refine pn_iload (q := 166) dX7_areRight_164 rfl rfl ?_
          refine pn_lald1 (q := 167) dX7_areRight_166 rfl rfl rfl (by omega) (by decide) ?_
          refine pn_aload_n (q := 168) dX7_areRight_167 rfl rfl rfl ?_
          refine pn_get (q := 171) fX7_24 dX7_areRight_168 rfl rfl rfl ?_
          refine pn_iconst (q := 172) (v := nI 1) dX7_areRight_171 rfl (by decide) ?_
          refine pn_lald1 (q := 173) dX7_areRight_172 rfl rfl rfl (by omega) (by decide) ?_; rw [hT1]
          refine pn_aload_n (q := 174) dX7_areRight_173 rfl rfl rfl ?_
          refine pn_get (q := 177) fX7_24 dX7_areRight_174 rfl rfl rfl ?_
          refine pn_iconst (q := 178) (v := nI 2) dX7_areRight_177 rfl (by decide) ?_
          refine pn_lald1 (q := 179) dX7_areRight_178 rfl rfl rfl (by omega) (by decide) ?_; rw [hT2]
          refine pn_roS1 (q := 182) (CE) lkX7_88 dX7_areRight_179 rfl rfl (pnSel_of (I := []) rfl rfl) (pnFree_none rfl) rfl (by omega) (Nat.le_of_ble_eq_true rfl) rfl ?_
          first | with_reducible refine pn_i2lN (q := 183) dX7_areRight_182 rfl (by omega) ?_ | refine pn_i2l (q := 183) dX7_areRight_182 rfl ?_
          refine pn_leq (q1 := 184) (q := 187) (tgt := 189) dX7_areRight_183 rfl dX7_areRight_184 (by decide) rfl (fun hc183 => ?_) (fun hc183 => ?_)
          · exact (hL hc183).elim
          · refine pn_iconst (q := 188) (v := nI 0) dX7_areRight_187 rfl (by decide) ?_
            refine pn_tret (b := decide (arB (plN sh k) bc b.2.2.2.2.2.1)) _ ?_ dX7_areRight_188 rfl ?_
            · rw [decide_eq_false (fun hh => hL (hh u (by omega)).1)]; rfl
            · exact ⟨rfl, rfl⟩
  exact lpU bc 0 (by omega) (fun j' hj' => absurd hj' (Nat.not_lt_zero _))
/-- areRight: the answer, what is told, the nodes in hand -/
def arR2 (sh k bc pm : Nat) (r : Bool × (Nat → Int64) × G3) : Bool × (Nat → Int64) × G3 := if r.1 = true then (decide (arB (plN sh k) bc (vp_updL r.2.1 3 (lN pm))), vp_updL r.2.1 3 (lN pm), r.2.2) else (false, r.2)
def arR (n sh k bc : Nat) (b : G1) (c : G3) : Bool × (Nat → Int64) × G3 := arR2 sh k bc b.2.2.2.2.2.2.2.2.1 (arP n sh k (b.2.2.2.2.2.1 29) b.2.2.2.2.2.2.1 b.2.2.2.2.2.2.2.1 b.2.2.2.2.2.2.2.2.1 0 (lN 0) b.2.2.2.2.2.1 c.1 c.2)
set_option maxRecDepth 100000 in
theorem m_areRight (adK : Nat → Nat) (d : Nat) (Y : MN) (P : Nat → MN) (a : G0) (b : G1) (c : G3) (e : G4) (f : G5) (g : G6) (h : G7) (n sh k bc : Nat) (hT0 : b.2.2.2.2.2.1 0 = lN n) (hT1 : b.2.2.2.2.2.1 1 = lN sh) (hT2 : b.2.2.2.2.2.1 2 = lN k) (hT4 : b.2.2.2.2.2.1 4 = lN bc) (hS : shOk sh k) (hn : n ≤ 11) (hn1 : 1 ≤ n) (hbc : bc ≤ 4) (hpm : b.2.2.2.2.2.2.2.2.1 ≤ 60) (hpl : ∀ j, b.2.2.2.2.2.2.2.1 j ≤ 5) : pnCt mX7_areRight adK (d + 3) 0 0 [.ref 0] (hM Y P a b c e f g h) (pnIs (.inl (some (.int (nB (arR n sh k bc b c).1)))) (hM Y P a (bT b (arR n sh k bc b c).2.1) (arR n sh k bc b c).2.2 e f g h)) := by
  refine pnCt_of (by decide) kX7_areRight (Nat.le_of_ble_eq_true rfl) rfl hM_cl (pnCS_b rfl) ?_
  unfold arR
  generalize hR : arP n sh k (b.2.2.2.2.2.1 29) b.2.2.2.2.2.2.1 b.2.2.2.2.2.2.2.1 b.2.2.2.2.2.2.2.2.1 0 (lN 0) b.2.2.2.2.2.1 c.1 c.2 = R
  have loop : ∀ (z p : Nat) (tk : Int64) (T : Nat → Int64) (x : Nat → Int32) (m : Nat), p + z = b.2.2.2.2.2.2.2.2.1 → (∀ j, j < 30 → T j = b.2.2.2.2.2.1 j) → arP n sh k (b.2.2.2.2.2.1 29) b.2.2.2.2.2.2.1 b.2.2.2.2.2.2.2.1 z p tk T x m = R → pnWP mX7_areRight adK (d + 3) (pnIs (.inl (some (.int (nB (arR2 sh k bc b.2.2.2.2.2.2.2.2.1 R).1)))) (hM Y P a (bT b (arR2 sh k bc b.2.2.2.2.2.2.2.2.1 R).2.1) (arR2 sh k bc b.2.2.2.2.2.2.2.2.1 R).2.2 e f g h)) 0 0 (hM Y P a (bT b T) (x, m) e f g h) [some (.ref 0), some (.long tk), none, some (.int (nI p))] [] 4 := by
    intro z
    induction z with
    | zero =>
      intro p tk T x m hp hT e9
      have e8 : R = (true, T, x, m) := e9.symm
      have hTT : ∀ j, j < 30 → j ≠ 3 → vp_updL T 3 (lN b.2.2.2.2.2.2.2.2.1) j = b.2.2.2.2.2.1 j := fun j hj h3 => by
        unfold vp_updL
        rw [if_neg h3]
        exact hT j hj
      obtain ⟨B, hB⟩ : ∃ B, B = decide (arB (plN sh k) bc (vp_updL T 3 (lN b.2.2.2.2.2.2.2.2.1))) := ⟨_, rfl⟩
      have kb : pnWP mX7_areRight adK (d + 3) (pnIs (.inl (some (.int (nB B)))) (hM Y P a (bT b (vp_updL T 3 (lN b.2.2.2.2.2.2.2.2.1))) (x, m) e f g h)) 0 0 (hM Y P a (bT b (vp_updL T 3 (lN b.2.2.2.2.2.2.2.2.1))) (x, m) e f g h) [some (.ref 0), some (.long tk), none, some (.int (nI 0))] [] 140 := by
        rw [hB]
        exact m_areRightB adK d Y P a (bT b (vp_updL T 3 (lN b.2.2.2.2.2.2.2.2.1))) (x, m) e f g h sh k bc tk (by rw [← hT1]; exact hTT 1 (by omega) (by omega)) (by rw [← hT2]; exact hTT 2 (by omega) (by omega)) (by rw [← hT4]; exact hTT 4 (by omega) (by omega)) hS hbc
      have e8' : arR2 sh k bc b.2.2.2.2.2.2.2.2.1 R = (B, vp_updL T 3 (lN b.2.2.2.2.2.2.2.2.1), x, m) := by rw [e8, hB]; rfl
      rw [e8']
      refine pn_iload_n (q := 5) dX7_areRight_4 rfl rfl ?_
      refine pn_aload_n (q := 6) dX7_areRight_5 rfl rfl rfl ?_
      (refine pn_get (q := 9) fX7_173 dX7_areRight_6 rfl rfl rfl ?_)
      refine pn_eq (h' := _) (st' := .int (nI b.2.2.2.2.2.2.2.2.1) :: _) rfl rfl ?_
      first | refine pn_nge (q := 12) (tgt := 127) dX7_areRight_9 (by decide) rfl (by omega) (by omega) (fun hc9 => ?_) (fun hc9 => ?_) | refine pn_icmp_ge (q := 12) (tgt := 127) dX7_areRight_9 (by decide) rfl (fun hc9 => ?_) (fun hc9 => ?_)
      · refine pn_aload_n (q := 128) dX7_areRight_127 rfl rfl rfl ?_
        refine pn_get (q := 131) fX7_24 dX7_areRight_128 rfl rfl rfl ?_
        refine pn_iconst (q := 132) (v := nI 3) dX7_areRight_131 rfl (by decide) ?_
        refine pn_aload_n (q := 133) dX7_areRight_132 rfl rfl rfl ?_
        (refine pn_get (q := 136) fX7_173 dX7_areRight_133 rfl rfl rfl ?_)
        refine pn_eq (h' := _) (st' := .int (nI b.2.2.2.2.2.2.2.2.1) :: _) rfl rfl ?_
        first | with_reducible refine pn_i2lN (q := 137) dX7_areRight_136 rfl (by omega) ?_ | refine pn_i2l (q := 137) dX7_areRight_136 rfl ?_
        first | refine pn_last1 (q := 138) dX7_areRight_137 rfl rfl rfl (by omega) (by first | decide | omega) ?_ | refine pn_last5 (q := 138) dX7_areRight_137 rfl rfl rfl (by omega) (by first | decide | omega) ?_
        refine pn_iconst (q := 139) (v := nI 0) dX7_areRight_138 rfl (by decide) ?_
        refine pn_istore_n (q := 140) dX7_areRight_139 rfl (by decide) ?_
        exact pn_take 4 kb
      · omega
    | succ z ih =>
      intro p tk T x m hp hT e9
      have e7 : arP n sh k (b.2.2.2.2.2.1 29) b.2.2.2.2.2.2.1 b.2.2.2.2.2.2.2.1 (z + 1) p tk T x m = if lpN n sh k (cpE x b.2.2.2.2.2.2.1 p (b.2.2.2.2.2.2.2.1 p)) 0 (b.2.2.2.2.2.2.2.1 p) = lN 0 ∨ ¬ lpN n sh k (cpE x b.2.2.2.2.2.2.1 p (b.2.2.2.2.2.2.2.1 p)) 0 (b.2.2.2.2.2.2.2.1 p) &&& (b.2.2.2.2.2.1 29 ^^^ (-1)) = lN 0 ∨ ¬ lpN n sh k (cpE x b.2.2.2.2.2.2.1 p (b.2.2.2.2.2.2.2.1 p)) 0 (b.2.2.2.2.2.2.2.1 p) &&& tk = lN 0 then (false, T, cpE x b.2.2.2.2.2.2.1 p (b.2.2.2.2.2.2.2.1 p), b.2.2.2.2.2.2.2.1 p) else arP n sh k (b.2.2.2.2.2.1 29) b.2.2.2.2.2.2.1 b.2.2.2.2.2.2.2.1 z (p + 1) (tk ||| lpN n sh k (cpE x b.2.2.2.2.2.2.1 p (b.2.2.2.2.2.2.2.1 p)) 0 (b.2.2.2.2.2.2.2.1 p)) (vp_updL T (30 + p) (lpN n sh k (cpE x b.2.2.2.2.2.2.1 p (b.2.2.2.2.2.2.2.1 p)) 0 (b.2.2.2.2.2.2.2.1 p))) (cpE x b.2.2.2.2.2.2.1 p (b.2.2.2.2.2.2.2.1 p)) (b.2.2.2.2.2.2.2.1 p) := rfl
      rw [e9] at e7
      have hlp := hpl p
      have CP := m_partOfT adK d Y P a (bT b T) (cpE x b.2.2.2.2.2.2.1 p (b.2.2.2.2.2.2.2.1 p), b.2.2.2.2.2.2.2.1 p) e f g h n sh k (by rw [← hT0]; exact hT 0 (by omega)) (by rw [← hT1]; exact hT 1 (by omega)) (by rw [← hT2]; exact hT 2 (by omega)) hS hn hn1 hlp
      have CP2 : pnCt mX7_partOf adK (d + 2) 0 0 [.ref 0, .ref 4] (hM Y P a (bT b T) (cpE x b.2.2.2.2.2.2.1 p (b.2.2.2.2.2.2.2.1 p), b.2.2.2.2.2.2.2.1 p) e f g h) (pnIs (.inl (some (.long (lpN n sh k (cpE x b.2.2.2.2.2.2.1 p (b.2.2.2.2.2.2.2.1 p)) 0 (b.2.2.2.2.2.2.2.1 p))))) (hM Y P a (bT b T) (cpE x b.2.2.2.2.2.2.1 p (b.2.2.2.2.2.2.2.1 p), b.2.2.2.2.2.2.2.1 p) e f g h)) := CP
      have hT29 : (bT b T).2.2.2.2.2.1 29 = b.2.2.2.2.2.1 29 := hT 29 (by omega)
      have fill : (pnWP mX7_areRight adK (d + 3) (pnIs (.inl (some (.int (nB (arR2 sh k bc b.2.2.2.2.2.2.2.2.1 R).1)))) (hM Y P a (bT b (arR2 sh k bc b.2.2.2.2.2.2.2.2.1 R).2.1) (arR2 sh k bc b.2.2.2.2.2.2.2.2.1 R).2.2 e f g h)) 0 0 (hM Y P a (bT b T) (cpE x b.2.2.2.2.2.2.1 p (b.2.2.2.2.2.2.2.1 p), b.2.2.2.2.2.2.2.1 p) e f g h) [some (.ref 0), some (.long tk), none, some (.int (nI p)), some (.int (nI (b.2.2.2.2.2.2.2.1 p)))] [] 58) → ∀ (y i : Nat), i + y = b.2.2.2.2.2.2.2.1 p → pnWP mX7_areRight adK (d + 3) (pnIs (.inl (some (.int (nB (arR2 sh k bc b.2.2.2.2.2.2.2.2.1 R).1)))) (hM Y P a (bT b (arR2 sh k bc b.2.2.2.2.2.2.2.2.1 R).2.1) (arR2 sh k bc b.2.2.2.2.2.2.2.2.1 R).2.2 e f g h)) 0 0 (hM Y P a (bT b T) (cpE x b.2.2.2.2.2.2.1 p i, b.2.2.2.2.2.2.2.1 p) e f g h) [some (.ref 0), some (.long tk), none, some (.int (nI p)), some (.int (nI i))] [] 25 := by
        intro kk y
        induction y with
        | zero =>
          intro i hi
          have hii : i = b.2.2.2.2.2.2.2.1 p := by omega
          subst hii
          refine pn_iload (q := 27) dX7_areRight_25 rfl rfl ?_
          refine pn_aload_n (q := 28) dX7_areRight_27 rfl rfl rfl ?_
          (refine pn_get (q := 31) fX7_85 dX7_areRight_28 rfl rfl rfl ?_)
          refine pn_eq (h' := _) (st' := .int (nI (b.2.2.2.2.2.2.2.1 p)) :: _) rfl rfl ?_
          first | refine pn_nge (q := 34) (tgt := 58) dX7_areRight_31 (by decide) rfl (by omega) (by omega) (fun hc31 => ?_) (fun hc31 => ?_) | refine pn_icmp_ge (q := 34) (tgt := 58) dX7_areRight_31 (by decide) rfl (fun hc31 => ?_) (fun hc31 => ?_)
          · exact kk
          · omega
        | succ y ih2 =>
          intro i hi
          refine pn_iload (q := 27) dX7_areRight_25 rfl rfl ?_
          refine pn_aload_n (q := 28) dX7_areRight_27 rfl rfl rfl ?_
          (refine pn_get (q := 31) fX7_85 dX7_areRight_28 rfl rfl rfl ?_)
          refine pn_eq (h' := _) (st' := .int (nI (b.2.2.2.2.2.2.2.1 p)) :: _) rfl rfl ?_
          first | refine pn_nge (q := 34) (tgt := 58) dX7_areRight_31 (by decide) rfl (by omega) (by omega) (fun hc31 => ?_) (fun hc31 => ?_) | refine pn_icmp_ge (q := 34) (tgt := 58) dX7_areRight_31 (by decide) rfl (fun hc31 => ?_) (fun hc31 => ?_)
          · omega
          · refine pn_aload_n (q := 35) dX7_areRight_34 rfl rfl rfl ?_
            refine pn_get (q := 38) fX7_32 dX7_areRight_35 rfl rfl rfl ?_
            refine pn_iload (q := 40) dX7_areRight_38 rfl rfl ?_
            refine pn_aload_n (q := 41) dX7_areRight_40 rfl rfl rfl ?_
            refine pn_get (q := 44) fX7_35 dX7_areRight_41 rfl rfl rfl ?_
            refine pn_iconst (q := 45) (v := nI 5) dX7_areRight_44 rfl (by decide) ?_
            refine pn_iload_n (q := 46) dX7_areRight_45 rfl rfl ?_
            first | with_reducible refine pn_imulN (q := 47) dX7_areRight_46 rfl ?_ | refine pn_imul (q := 47) dX7_areRight_46 rfl ?_
            refine pn_iload (q := 49) dX7_areRight_47 rfl rfl ?_
            first | with_reducible refine pn_iaddN (q := 50) dX7_areRight_49 rfl ?_ | refine pn_iadd (q := 50) dX7_areRight_49 rfl ?_
            refine pn_iald (q := 51) dX7_areRight_50 rfl rfl rfl (by omega) (by first | decide | omega) ?_
            refine pn_iast (q := 52) dX7_areRight_51 rfl rfl rfl (by omega) (by first | decide | omega) ?_
            first | refine pn_iinc1 (q := 55) dX7_areRight_52 rfl rfl (by decide) ?_ | refine pn_iinc (q := 55) (mm := 1) dX7_areRight_52 rfl rfl (by decide) (by decide) ?_
            refine pn_goto (q := 25) dX7_areRight_55 (by decide) ?_
            exact ih2 (i + 1) (by omega)
      generalize lpN n sh k (cpE x b.2.2.2.2.2.2.1 p (b.2.2.2.2.2.2.2.1 p)) 0 (b.2.2.2.2.2.2.2.1 p) = s at *
      have k58 : pnWP mX7_areRight adK (d + 3) (pnIs (.inl (some (.int (nB (arR2 sh k bc b.2.2.2.2.2.2.2.2.1 R).1)))) (hM Y P a (bT b (arR2 sh k bc b.2.2.2.2.2.2.2.2.1 R).2.1) (arR2 sh k bc b.2.2.2.2.2.2.2.2.1 R).2.2 e f g h)) 0 0 (hM Y P a (bT b T) (cpE x b.2.2.2.2.2.2.1 p (b.2.2.2.2.2.2.2.1 p), b.2.2.2.2.2.2.2.1 p) e f g h) [some (.ref 0), some (.long tk), none, some (.int (nI p)), some (.int (nI (b.2.2.2.2.2.2.2.1 p)))] [] 58 := by
        by_cases q1 : s = lN 0
        · rw [if_pos (Or.inl q1)] at e7
          rw [e7]
          refine pn_aload_n (q := 59) dX7_areRight_58 rfl rfl rfl ?_
          refine pn_aload_n (q := 60) dX7_areRight_59 rfl rfl rfl ?_
          refine pn_get (q := 63) fX7_24 dX7_areRight_60 rfl rfl rfl ?_
          refine pn_idV (q := 66) (bc9 := 0) (bs9 := 0) (CP2) lkX7_202 dX7_areRight_63 rfl rfl (hM_cl) (hM_cl) (Nat.le_of_ble_eq_true rfl) rfl rfl rfl rfl rfl rfl (by omega) (by omega) (by omega) (Nat.le_of_ble_eq_true rfl) ?_
          refine pn_lstore (q := 68) dX7_areRight_66 rfl (by decide) ?_
          refine pn_lload (q := 70) dX7_areRight_68 rfl rfl ?_
          refine pn_lconst (q := 71) (v := lN 0) dX7_areRight_70 rfl (by decide) ?_
          refine pn_leq (q1 := 72) (q := 75) (tgt := 103) dX7_areRight_71 rfl dX7_areRight_72 (by decide) rfl (fun hc71 => ?_) (fun hc71 => ?_)
          · refine pn_iconst (q := 104) (v := nI 0) dX7_areRight_103 rfl (by decide) ?_
            refine pn_tret (b := false) _ ?_ dX7_areRight_104 rfl ?_
            · rfl
            · exact ⟨rfl, rfl⟩
          · exact (hc71 q1).elim
        · by_cases q2 : s &&& (b.2.2.2.2.2.1 29 ^^^ (-1)) = lN 0
          · by_cases q3 : s &&& tk = lN 0
            · rw [if_neg (by rintro (q | q | q); exact q1 q; exact q q2; exact q q3)] at e7
              have k9 := ih (p + 1) (tk ||| s) (vp_updL T (30 + p) s) (cpE x b.2.2.2.2.2.2.1 p (b.2.2.2.2.2.2.2.1 p)) (b.2.2.2.2.2.2.2.1 p) (by omega) (fun j hj => by unfold vp_updL; rw [if_neg (by omega)]; exact hT j hj) e7.symm
              refine pn_aload_n (q := 59) dX7_areRight_58 rfl rfl rfl ?_
              refine pn_aload_n (q := 60) dX7_areRight_59 rfl rfl rfl ?_
              refine pn_get (q := 63) fX7_24 dX7_areRight_60 rfl rfl rfl ?_
              refine pn_idV (q := 66) (bc9 := 0) (bs9 := 0) (CP2) lkX7_202 dX7_areRight_63 rfl rfl (hM_cl) (hM_cl) (Nat.le_of_ble_eq_true rfl) rfl rfl rfl rfl rfl rfl (by omega) (by omega) (by omega) (Nat.le_of_ble_eq_true rfl) ?_
              refine pn_lstore (q := 68) dX7_areRight_66 rfl (by decide) ?_
              refine pn_lload (q := 70) dX7_areRight_68 rfl rfl ?_
              refine pn_lconst (q := 71) (v := lN 0) dX7_areRight_70 rfl (by decide) ?_
              refine pn_leq (q1 := 72) (q := 75) (tgt := 103) dX7_areRight_71 rfl dX7_areRight_72 (by decide) rfl (fun hc71 => ?_) (fun hc71 => ?_)
              · exact (q1 hc71).elim
              · refine pn_lload (q := 77) dX7_areRight_75 rfl rfl ?_
                refine pn_aload_n (q := 78) dX7_areRight_77 rfl rfl rfl ?_
                refine pn_get (q := 81) fX7_24 dX7_areRight_78 rfl rfl rfl ?_
                refine pn_bipush (q := 83) (v := nI 29) dX7_areRight_81 rfl (by decide) ?_
                refine pn_lald1 (q := 84) dX7_areRight_83 rfl rfl rfl (by omega) (by decide) ?_; rw [hT29]
                refine pn_ldc2 (q := 87) pw_1283 dX7_areRight_84 rfl ?_
                refine pn_lxor (q := 88) dX7_areRight_87 rfl ?_
                refine pn_land (q := 89) dX7_areRight_88 rfl ?_
                refine pn_lconst (q := 90) (v := lN 0) dX7_areRight_89 rfl (by decide) ?_
                refine pn_lne (q1 := 91) (q := 94) (tgt := 103) dX7_areRight_90 rfl dX7_areRight_91 (by decide) rfl (fun hc90 => ?_) (fun hc90 => ?_)
                · exact (hc90 q2).elim
                · refine pn_lload (q := 96) dX7_areRight_94 rfl rfl ?_
                  refine pn_lload_n (q := 97) dX7_areRight_96 rfl rfl ?_
                  refine pn_land (q := 98) dX7_areRight_97 rfl ?_
                  refine pn_lconst (q := 99) (v := lN 0) dX7_areRight_98 rfl (by decide) ?_
                  refine pn_leq (q1 := 100) (q := 103) (tgt := 105) dX7_areRight_99 rfl dX7_areRight_100 (by decide) rfl (fun hc99 => ?_) (fun hc99 => ?_)
                  · refine pn_lload_n (q := 106) dX7_areRight_105 rfl rfl ?_
                    refine pn_lload (q := 108) dX7_areRight_106 rfl rfl ?_
                    refine pn_lor (q := 109) dX7_areRight_108 rfl ?_
                    refine pn_lstore_n (q := 110) dX7_areRight_109 rfl (by decide) ?_
                    refine pn_aload_n (q := 111) dX7_areRight_110 rfl rfl rfl ?_
                    refine pn_get (q := 114) fX7_24 dX7_areRight_111 rfl rfl rfl ?_
                    refine pn_bipush (q := 116) (v := nI 30) dX7_areRight_114 rfl (by decide) ?_
                    refine pn_iload_n (q := 117) dX7_areRight_116 rfl rfl ?_
                    first | with_reducible refine pn_iaddN (q := 118) dX7_areRight_117 rfl ?_ | refine pn_iadd (q := 118) dX7_areRight_117 rfl ?_
                    refine pn_lload (q := 120) dX7_areRight_118 rfl rfl ?_
                    first | refine pn_last1 (q := 121) dX7_areRight_120 rfl rfl rfl (by omega) (by first | decide | omega) ?_ | refine pn_last5 (q := 121) dX7_areRight_120 rfl rfl rfl (by omega) (by first | decide | omega) ?_
                    first | refine pn_iinc1 (q := 124) dX7_areRight_121 rfl rfl (by decide) ?_ | refine pn_iinc (q := 124) (mm := 1) dX7_areRight_121 rfl rfl (by decide) (by decide) ?_
                    refine pn_goto (q := 4) dX7_areRight_124 (by decide) ?_
                    exact pn_take 4 k9
                  · exact (hc99 q3).elim
            · rw [if_pos (Or.inr (Or.inr q3))] at e7
              rw [e7]
              refine pn_aload_n (q := 59) dX7_areRight_58 rfl rfl rfl ?_
              refine pn_aload_n (q := 60) dX7_areRight_59 rfl rfl rfl ?_
              refine pn_get (q := 63) fX7_24 dX7_areRight_60 rfl rfl rfl ?_
              refine pn_idV (q := 66) (bc9 := 0) (bs9 := 0) (CP2) lkX7_202 dX7_areRight_63 rfl rfl (hM_cl) (hM_cl) (Nat.le_of_ble_eq_true rfl) rfl rfl rfl rfl rfl rfl (by omega) (by omega) (by omega) (Nat.le_of_ble_eq_true rfl) ?_
              refine pn_lstore (q := 68) dX7_areRight_66 rfl (by decide) ?_
              refine pn_lload (q := 70) dX7_areRight_68 rfl rfl ?_
              refine pn_lconst (q := 71) (v := lN 0) dX7_areRight_70 rfl (by decide) ?_
              refine pn_leq (q1 := 72) (q := 75) (tgt := 103) dX7_areRight_71 rfl dX7_areRight_72 (by decide) rfl (fun hc71 => ?_) (fun hc71 => ?_)
              · exact (q1 hc71).elim
              · refine pn_lload (q := 77) dX7_areRight_75 rfl rfl ?_
                refine pn_aload_n (q := 78) dX7_areRight_77 rfl rfl rfl ?_
                refine pn_get (q := 81) fX7_24 dX7_areRight_78 rfl rfl rfl ?_
                refine pn_bipush (q := 83) (v := nI 29) dX7_areRight_81 rfl (by decide) ?_
                refine pn_lald1 (q := 84) dX7_areRight_83 rfl rfl rfl (by omega) (by decide) ?_; rw [hT29]
                refine pn_ldc2 (q := 87) pw_1283 dX7_areRight_84 rfl ?_
                refine pn_lxor (q := 88) dX7_areRight_87 rfl ?_
                refine pn_land (q := 89) dX7_areRight_88 rfl ?_
                refine pn_lconst (q := 90) (v := lN 0) dX7_areRight_89 rfl (by decide) ?_
                refine pn_lne (q1 := 91) (q := 94) (tgt := 103) dX7_areRight_90 rfl dX7_areRight_91 (by decide) rfl (fun hc90 => ?_) (fun hc90 => ?_)
                · exact (hc90 q2).elim
                · refine pn_lload (q := 96) dX7_areRight_94 rfl rfl ?_
                  refine pn_lload_n (q := 97) dX7_areRight_96 rfl rfl ?_
                  refine pn_land (q := 98) dX7_areRight_97 rfl ?_
                  refine pn_lconst (q := 99) (v := lN 0) dX7_areRight_98 rfl (by decide) ?_
                  refine pn_leq (q1 := 100) (q := 103) (tgt := 105) dX7_areRight_99 rfl dX7_areRight_100 (by decide) rfl (fun hc99 => ?_) (fun hc99 => ?_)
                  · exact (q3 hc99).elim
                  · refine pn_iconst (q := 104) (v := nI 0) dX7_areRight_103 rfl (by decide) ?_
                    refine pn_tret (b := false) _ ?_ dX7_areRight_104 rfl ?_
                    · rfl
                    · exact ⟨rfl, rfl⟩
          · rw [if_pos (Or.inr (Or.inl q2))] at e7
            rw [e7]
            refine pn_aload_n (q := 59) dX7_areRight_58 rfl rfl rfl ?_
            refine pn_aload_n (q := 60) dX7_areRight_59 rfl rfl rfl ?_
            refine pn_get (q := 63) fX7_24 dX7_areRight_60 rfl rfl rfl ?_
            refine pn_idV (q := 66) (bc9 := 0) (bs9 := 0) (CP2) lkX7_202 dX7_areRight_63 rfl rfl (hM_cl) (hM_cl) (Nat.le_of_ble_eq_true rfl) rfl rfl rfl rfl rfl rfl (by omega) (by omega) (by omega) (Nat.le_of_ble_eq_true rfl) ?_
            refine pn_lstore (q := 68) dX7_areRight_66 rfl (by decide) ?_
            refine pn_lload (q := 70) dX7_areRight_68 rfl rfl ?_
            refine pn_lconst (q := 71) (v := lN 0) dX7_areRight_70 rfl (by decide) ?_
            refine pn_leq (q1 := 72) (q := 75) (tgt := 103) dX7_areRight_71 rfl dX7_areRight_72 (by decide) rfl (fun hc71 => ?_) (fun hc71 => ?_)
            · exact (q1 hc71).elim
            · refine pn_lload (q := 77) dX7_areRight_75 rfl rfl ?_
              refine pn_aload_n (q := 78) dX7_areRight_77 rfl rfl rfl ?_
              refine pn_get (q := 81) fX7_24 dX7_areRight_78 rfl rfl rfl ?_
              refine pn_bipush (q := 83) (v := nI 29) dX7_areRight_81 rfl (by decide) ?_
              refine pn_lald1 (q := 84) dX7_areRight_83 rfl rfl rfl (by omega) (by decide) ?_; rw [hT29]
              refine pn_ldc2 (q := 87) pw_1283 dX7_areRight_84 rfl ?_
              refine pn_lxor (q := 88) dX7_areRight_87 rfl ?_
              refine pn_land (q := 89) dX7_areRight_88 rfl ?_
              refine pn_lconst (q := 90) (v := lN 0) dX7_areRight_89 rfl (by decide) ?_
              refine pn_lne (q1 := 91) (q := 94) (tgt := 103) dX7_areRight_90 rfl dX7_areRight_91 (by decide) rfl (fun hc90 => ?_) (fun hc90 => ?_)
              · refine pn_iconst (q := 104) (v := nI 0) dX7_areRight_103 rfl (by decide) ?_
                refine pn_tret (b := false) _ ?_ dX7_areRight_104 rfl ?_
                · rfl
                · exact ⟨rfl, rfl⟩
              · exact (q2 hc90).elim
      refine pn_iload_n (q := 5) dX7_areRight_4 rfl rfl ?_
      refine pn_aload_n (q := 6) dX7_areRight_5 rfl rfl rfl ?_
      (refine pn_get (q := 9) fX7_173 dX7_areRight_6 rfl rfl rfl ?_)
      refine pn_eq (h' := _) (st' := .int (nI b.2.2.2.2.2.2.2.2.1) :: _) rfl rfl ?_
      first | refine pn_nge (q := 12) (tgt := 127) dX7_areRight_9 (by decide) rfl (by omega) (by omega) (fun hc9 => ?_) (fun hc9 => ?_) | refine pn_icmp_ge (q := 12) (tgt := 127) dX7_areRight_9 (by decide) rfl (fun hc9 => ?_) (fun hc9 => ?_)
      · omega
      · refine pn_aload_n (q := 13) dX7_areRight_12 rfl rfl rfl ?_
        refine pn_aload_n (q := 14) dX7_areRight_13 rfl rfl rfl ?_
        refine pn_get (q := 17) fX7_38 dX7_areRight_14 rfl rfl rfl ?_
        refine pn_iload_n (q := 18) dX7_areRight_17 rfl rfl ?_
        refine pn_iald (q := 19) dX7_areRight_18 rfl rfl rfl (by omega) (by first | decide | omega) ?_
        refine pn_put (q := 22) fX7_85 dX7_areRight_19 rfl rfl (Nat.le_of_ble_eq_true rfl) (pnF_int _) ?_
        refine pn_iconst (q := 23) (v := nI 0) dX7_areRight_22 rfl (by decide) ?_
        refine pn_istore (q := 25) dX7_areRight_23 rfl (by decide) ?_
        exact fill k58 (b.2.2.2.2.2.2.2.1 p) 0 (by omega)
  refine pn_lconst (q := 1) (v := lN 0) dX7_areRight_0 rfl (by decide) ?_
  refine pn_lstore_n (q := 2) dX7_areRight_1 rfl (by decide) ?_
  refine pn_iconst (q := 3) (v := nI 0) dX7_areRight_2 rfl (by decide) ?_
  refine pn_istore_n (q := 4) dX7_areRight_3 rfl (by decide) ?_
  exact loop b.2.2.2.2.2.2.2.2.1 0 (lN 0) b.2.2.2.2.2.1 c.1 c.2 (by omega) (fun j hj => rfl) hR
