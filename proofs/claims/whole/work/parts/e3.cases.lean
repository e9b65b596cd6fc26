/-! ===== the law's cases ===== -/
theorem lq_feed (adK : Nat → Nat) {hX hY : List pnE} {t bc bs : Nat} (hL : LIw hX hY t bc bs) (x1 x2 x3 x4 x5 : Int32) : STQ mX6_feed mX7_feed adK 100 100 [.int x1, .int x2, .int x3, .int x4, .int x5] hX hY bc bs okI := by
  obtain ⟨b, tp, fp, N, A, Q, C, W, Z, ask, rf, Y, P, a, b1, c, e, f, g, h, e1, e2, hI, e3, h1, h2⟩ := hL
  rw [e1, e2]
  exact stq_mono (st_feed adK x1 x2 x3 x4 x5 b tp fp N A Q C W Z ask rf Y P a b1 c e f g h hI) h1 h2
set_option maxRecDepth 100000 in
set_option maxHeartbeats 4000000 in
theorem lc_feed {adK : Nat → Nat} {hX hY : List pnE} {o : Nat → Int64} {i t bc bs E F : Nat} (hn : adK 2001 ≤ 3072) (hi : i + 6 ≤ adK 2001) (hL : LIw hX hY t bc bs) (kk : LK adK i E F) : pnWP mL_law adK 104 QL (bc + 1 + E) (bs + 6 + F) (HW hX hY o) (LL adK i) [] 156 := by
  obtain ⟨wx, wy⟩ := LIw_W hL
  obtain ⟨Qx, Qy, mx, sx, my, sy, hx, hy, b1, b2, ⟨r0, hY0, hq0⟩, hall⟩ := lq_feed adK hL (nI (adK (3000 + (i + 1)))) (nI (adK (3000 + (i + 2)))) (nI (adK (3000 + (i + 3)))) (nI (adK (3000 + (i + 4)))) (nI (adK (3000 + (i + 5))))
  have fx : ∀ r h', Qx r h' → WX h' ∧ ∃ v, r = .inl (some v) ∧ okI v := fun r h' hq => by
    obtain ⟨t', bc', bs', l1, -, -, v, e1, -, e2⟩ := hall r h' hq r0 hY0 hq0
    exact ⟨(LIw_W l1).1, v, e1, e2⟩
  refine pn_aload_n (q := 157) dL_law_156 rfl rfl rfl ?_
  refine pn_aload_n (q := 158) dL_law_157 rfl rfl rfl ?_
  refine pn_iload (q := 160) dL_law_158 rfl rfl ?_
  refine pn_iconst (q := 161) (v := nI 1) dL_law_160 rfl (by decide) ?_
  first | with_reducible refine pn_iaddN (q := 162) dL_law_161 rfl ?_ | refine pn_iadd (q := 162) dL_law_161 rfl ?_
  refine pn_sld (q := 163) dL_law_162 rfl (by omega) hn ?_
  refine pn_aload_n (q := 164) dL_law_163 rfl rfl rfl ?_
  refine pn_iload (q := 166) dL_law_164 rfl rfl ?_
  refine pn_iconst (q := 167) (v := nI 2) dL_law_166 rfl (by decide) ?_
  first | with_reducible refine pn_iaddN (q := 168) dL_law_167 rfl ?_ | refine pn_iadd (q := 168) dL_law_167 rfl ?_
  refine pn_sld (q := 169) dL_law_168 rfl (by omega) hn ?_
  refine pn_aload_n (q := 170) dL_law_169 rfl rfl rfl ?_
  refine pn_iload (q := 172) dL_law_170 rfl rfl ?_
  refine pn_iconst (q := 173) (v := nI 3) dL_law_172 rfl (by decide) ?_
  first | with_reducible refine pn_iaddN (q := 174) dL_law_173 rfl ?_ | refine pn_iadd (q := 174) dL_law_173 rfl ?_
  refine pn_sld (q := 175) dL_law_174 rfl (by omega) hn ?_
  refine pn_aload_n (q := 176) dL_law_175 rfl rfl rfl ?_
  refine pn_iload (q := 178) dL_law_176 rfl rfl ?_
  refine pn_iconst (q := 179) (v := nI 4) dL_law_178 rfl (by decide) ?_
  first | with_reducible refine pn_iaddN (q := 180) dL_law_179 rfl ?_ | refine pn_iadd (q := 180) dL_law_179 rfl ?_
  refine pn_sld (q := 181) dL_law_180 rfl (by omega) hn ?_
  refine pn_aload_n (q := 182) dL_law_181 rfl rfl rfl ?_
  refine pn_iload (q := 184) dL_law_182 rfl rfl ?_
  refine pn_iconst (q := 185) (v := nI 5) dL_law_184 rfl (by decide) ?_
  first | with_reducible refine pn_iaddN (q := 186) dL_law_185 rfl ?_ | refine pn_iadd (q := 186) dL_law_185 rfl ?_
  refine pn_sld (q := 187) dL_law_186 rfl (by omega) hn ?_
  refine lw_X (av := [.int (nI (adK (3000 + (i + 1)))), .int (nI (adK (3000 + (i + 2)))), .int (nI (adK (3000 + (i + 3)))), .int (nI (adK (3000 + (i + 4)))), .int (nI (adK (3000 + (i + 5))))]) (bc9 := bc + 1 + E - mx) (bs9 := bs + 6 + F - sx) (q := 190) lkL_76 dL_law_187 rfl hx rfl wx wy rfl rfl rfl rfl rfl (by omega) (by omega) (by omega) (Nat.le_of_ble_eq_true rfl) (fun r h' hq => lw_fI (fx r h' hq)) (fun v hX' hq1 wx' => ?_)
  obtain ⟨x, rfl⟩ := lw_oI (fx _ _ hq1)
  refine pn_aload_n (q := 191) dL_law_190 rfl rfl rfl ?_
  refine pn_aload_n (q := 192) dL_law_191 rfl rfl rfl ?_
  refine pn_iload (q := 194) dL_law_192 rfl rfl ?_
  refine pn_iconst (q := 195) (v := nI 1) dL_law_194 rfl (by decide) ?_
  first | with_reducible refine pn_iaddN (q := 196) dL_law_195 rfl ?_ | refine pn_iadd (q := 196) dL_law_195 rfl ?_
  refine pn_sld (q := 197) dL_law_196 rfl (by omega) hn ?_
  refine pn_aload_n (q := 198) dL_law_197 rfl rfl rfl ?_
  refine pn_iload (q := 200) dL_law_198 rfl rfl ?_
  refine pn_iconst (q := 201) (v := nI 2) dL_law_200 rfl (by decide) ?_
  first | with_reducible refine pn_iaddN (q := 202) dL_law_201 rfl ?_ | refine pn_iadd (q := 202) dL_law_201 rfl ?_
  refine pn_sld (q := 203) dL_law_202 rfl (by omega) hn ?_
  refine pn_aload_n (q := 204) dL_law_203 rfl rfl rfl ?_
  refine pn_iload (q := 206) dL_law_204 rfl rfl ?_
  refine pn_iconst (q := 207) (v := nI 3) dL_law_206 rfl (by decide) ?_
  first | with_reducible refine pn_iaddN (q := 208) dL_law_207 rfl ?_ | refine pn_iadd (q := 208) dL_law_207 rfl ?_
  refine pn_sld (q := 209) dL_law_208 rfl (by omega) hn ?_
  refine pn_aload_n (q := 210) dL_law_209 rfl rfl rfl ?_
  refine pn_iload (q := 212) dL_law_210 rfl rfl ?_
  refine pn_iconst (q := 213) (v := nI 4) dL_law_212 rfl (by decide) ?_
  first | with_reducible refine pn_iaddN (q := 214) dL_law_213 rfl ?_ | refine pn_iadd (q := 214) dL_law_213 rfl ?_
  refine pn_sld (q := 215) dL_law_214 rfl (by omega) hn ?_
  refine pn_aload_n (q := 216) dL_law_215 rfl rfl rfl ?_
  refine pn_iload (q := 218) dL_law_216 rfl rfl ?_
  refine pn_iconst (q := 219) (v := nI 5) dL_law_218 rfl (by decide) ?_
  first | with_reducible refine pn_iaddN (q := 220) dL_law_219 rfl ?_ | refine pn_iadd (q := 220) dL_law_219 rfl ?_
  refine pn_sld (q := 221) dL_law_220 rfl (by omega) hn ?_
  refine lw_Y (av := [.int (nI (adK (3000 + (i + 1)))), .int (nI (adK (3000 + (i + 2)))), .int (nI (adK (3000 + (i + 3)))), .int (nI (adK (3000 + (i + 4)))), .int (nI (adK (3000 + (i + 5))))]) (bc9 := bc + 1 + E - mx - my) (bs9 := bs + 6 + F - sx - sy) (q := 224) lkL_79 dL_law_221 rfl hy rfl wx' wy rfl rfl rfl rfl rfl (by omega) (by omega) (by omega) (Nat.le_of_ble_eq_true rfl) (fun r h' hq => ?_) (fun v hY' hq2 wy' => ?_)
  · obtain ⟨t', bc', bs', l1, -, -, v', e1, e2, e3⟩ := hall _ _ hq1 r h' hq
    exact ⟨(LIw_W l1).2, v', e2, Or.inl e3⟩
  · obtain ⟨t', bc', bs', l1, c1, c2, v', e1, e2, e3⟩ := hall _ _ hq1 _ _ hq2
    cases e1
    cases e2
    refine pn_icmp_eq (q := 227) (tgt := 1417) dL_law_224 (by decide) rfl (fun _ => ?_) (fun hne => absurd rfl hne)
    exact pn_bud (kk _ _ _ _ bc' bs' l1) (by omega) (by omega)
theorem lq_text (adK : Nat → Nat) {hX hY : List pnE} {t bc bs : Nat} (hL : LIw hX hY t bc bs) (x1 : Int32) : STP mX6_text mX7_text adK 100 100 [.int x1] hX hY bc bs (cd1 "java/lang/IllegalArgumentException") okI := by
  obtain ⟨b, tp, fp, N, A, Q, C, W, Z, ask, rf, Y, P, a, b1, c, e, f, g, h, e1, e2, hI, e3, h1, h2⟩ := hL
  rw [e1, e2]
  exact stp_mono (st_text adK x1 b tp fp N A Q C W Z ask rf Y P a b1 c e f g h hI) h1 h2
set_option maxRecDepth 100000 in
set_option maxHeartbeats 4000000 in
theorem lc_text {adK : Nat → Nat} {hX hY : List pnE} {o : Nat → Int64} {i t bc bs E F : Nat} (hn : adK 2001 ≤ 3072) (hi : i + 6 ≤ adK 2001) (hL : LIw hX hY t bc bs) (kk : LK adK i E F) : pnWP mL_law adK 104 QL (bc + 1 + E) (bs + 6 + F) (HW hX hY o) (LL adK i) [] 229 := by
  obtain ⟨wx, wy⟩ := LIw_W hL
  obtain ⟨Qx, Qy, mx, sx, my, sy, hx, hy, b1, b2, ⟨r0, hY0, hq0⟩, hall⟩ := lq_text adK hL (nI (adK (3000 + (i + 1))))
  have fx : ∀ r h', Qx r h' → WX h' ∧ ((∃ v, r = .inl (some v) ∧ okI v) ∨ ∃ E, r = .inr E ∧ (E = "java/lang/IllegalArgumentException")) := fun r h' hq => by
    obtain ⟨t', bc', bs', l1, -, -, ⟨v, e1, -, -, e2⟩ | ⟨E9, v, e1, -, e2, e3, -, -⟩⟩ := hall r h' hq r0 hY0 hq0
    · exact ⟨(LIw_W l1).1, Or.inl ⟨v, e1, e2⟩⟩
    · exact ⟨(LIw_W l1).1, Or.inr ⟨E9, e1, cd1_p (by omega)⟩⟩
  refine pn_aload_n (q := 230) dL_law_229 rfl rfl rfl ?_
  refine pn_aload_n (q := 231) dL_law_230 rfl rfl rfl ?_
  refine pn_iload (q := 233) dL_law_231 rfl rfl ?_
  refine pn_iconst (q := 234) (v := nI 1) dL_law_233 rfl (by decide) ?_
  first | with_reducible refine pn_iaddN (q := 235) dL_law_234 rfl ?_ | refine pn_iadd (q := 235) dL_law_234 rfl ?_
  refine pn_sld (q := 236) dL_law_235 rfl (by omega) hn ?_
  refine pn_aload_n (q := 237) dL_law_236 rfl rfl rfl ?_
  refine lw_H (av := [.int (nI (adK (3000 + (i + 1))))]) (bc9 := bc + 1 + E - mx) (bs9 := bs + 6 + F - sx) (q := 240) lkH_text dL_law_237 rfl (hl_text _ hx wx fx) wx wy rfl rfl rfl rfl (by omega) (by omega) (by omega) (fun v hX' hq1 wx' => ?_) (fun E9 hX' hq1 wx' => ?_)
  · obtain ⟨x, rfl⟩ := hl_oI (fx _ _ hq1)
    refine pn_istore (q := 242) dL_law_240 rfl (by decide) ?_
    refine pn_aload_n (q := 243) dL_law_242 rfl rfl rfl ?_
    refine pn_aload_n (q := 244) dL_law_243 rfl rfl rfl ?_
    refine pn_iload (q := 246) dL_law_244 rfl rfl ?_
    refine pn_iconst (q := 247) (v := nI 1) dL_law_246 rfl (by decide) ?_
    first | with_reducible refine pn_iaddN (q := 248) dL_law_247 rfl ?_ | refine pn_iadd (q := 248) dL_law_247 rfl ?_
    refine pn_sld (q := 249) dL_law_248 rfl (by omega) hn ?_
    refine lw_Y (av := [.int (nI (adK (3000 + (i + 1))))]) (bc9 := bc + 1 + E - mx - my) (bs9 := bs + 6 + F - sx - sy) (q := 252) lkL_85 dL_law_249 rfl hy rfl wx' wy rfl rfl rfl rfl rfl (by omega) (by omega) (by omega) (Nat.le_of_ble_eq_true rfl) (fun r h' hq => ?_) (fun v hY' hq2 wy' => ?_)
    · obtain ⟨t', bc', bs', l1, -, -, ⟨v', -, -, e2, e3⟩ | ⟨E8, v', -, e2, -, -, -, e3⟩⟩ := hall _ _ hq1 r h' hq
      · exact ⟨(LIw_W l1).2, v', e2, Or.inl e3⟩
      · exact ⟨(LIw_W l1).2, v', e2, Or.inl e3⟩
    · obtain ⟨t', bc', bs', l1, c1, c2, dis⟩ := hall _ _ hq1 _ _ hq2
      rcases dis with ⟨v', e1, e2, e3, e4⟩ | ⟨E8, v', e1, -⟩
      · cases e1
        cases e3
        subst e2
        refine pn_istore (q := 254) dL_law_252 rfl (by decide) ?_
        refine pn_aload_n (q := 255) dL_law_254 rfl rfl rfl ?_
        refine lw_Y (av := []) (bc9 := bc + 1 + E - mx - my) (bs9 := bs + 6 + F - sx - sy) (q := 258) lkL_86 dL_law_255 rfl (lt_thr adK l1) rfl wx' wy' rfl rfl rfl rfl rfl (by omega) (by omega) (by omega) (Nat.le_of_ble_eq_true rfl) (fun r h' hq => ⟨by rw [hq.2]; exact wy', _, hq.1, Or.inl ⟨_, rfl⟩⟩) (fun v3 hY3 hq3 wy3 => ?_)
        obtain ⟨q1, q2⟩ := hq3
        subst q2
        cases q1
        refine pn_iload (q := 260) dL_law_258 rfl rfl ?_
        refine pn_icmp_eq (q := 263) (tgt := 265) dL_law_260 (by decide) rfl (fun _ => ?_) (fun hne => absurd rfl hne)
        refine pn_iload (q := 267) dL_law_265 rfl rfl ?_
        refine pn_if_ne (q := 270) (tgt := 282) dL_law_267 (by decide) rfl (fun hne => absurd rfl hne) (fun _ => ?_)
        refine pn_aload_n (q := 271) dL_law_270 rfl rfl rfl ?_
        refine pn_iconst (q := 272) (v := nI 0) dL_law_271 rfl (by decide) ?_
        refine pn_lald1 (q := 273) (j := 0) dL_law_272 rfl (HW_84 wx' wy') rfl (by decide) (by decide) ?_
        refine pn_iload (q := 275) dL_law_273 rfl rfl ?_
        refine pn_i2l (q := 276) dL_law_275 rfl ?_
        refine pn_leq (q1 := 277) (q := 280) (tgt := 282) dL_law_276 rfl dL_law_277 (by decide) rfl (fun _ => ?_) (fun hne => absurd pk_uLs hne)
        refine pn_goto (q := 1417) dL_law_282 (by decide) ?_
        exact pn_bud (pn_take 5 (kk _ _ _ _ bc' bs' l1)) (by omega) (by omega)
      · cases e1
  · refine pn_istore (q := 242) dL_law_240 rfl (by decide) ?_
    refine pn_aload_n (q := 243) dL_law_242 rfl rfl rfl ?_
    refine pn_aload_n (q := 244) dL_law_243 rfl rfl rfl ?_
    refine pn_iload (q := 246) dL_law_244 rfl rfl ?_
    refine pn_iconst (q := 247) (v := nI 1) dL_law_246 rfl (by decide) ?_
    first | with_reducible refine pn_iaddN (q := 248) dL_law_247 rfl ?_ | refine pn_iadd (q := 248) dL_law_247 rfl ?_
    refine pn_sld (q := 249) dL_law_248 rfl (by omega) hn ?_
    refine lw_Y (av := [.int (nI (adK (3000 + (i + 1))))]) (bc9 := bc + 1 + E - mx - my) (bs9 := bs + 6 + F - sx - sy) (q := 252) lkL_85 dL_law_249 rfl hy rfl wx' wy rfl rfl rfl rfl rfl (by omega) (by omega) (by omega) (Nat.le_of_ble_eq_true rfl) (fun r h' hq => ?_) (fun v hY' hq2 wy' => ?_)
    · obtain ⟨t', bc', bs', l1, -, -, ⟨v', -, -, e2, e3⟩ | ⟨E8, v', -, e2, -, -, -, e3⟩⟩ := hall _ _ hq1 r h' hq
      · exact ⟨(LIw_W l1).2, v', e2, Or.inl e3⟩
      · exact ⟨(LIw_W l1).2, v', e2, Or.inl e3⟩
    · obtain ⟨t', bc', bs', l1, c1, c2, dis⟩ := hall _ _ hq1 _ _ hq2
      rcases dis with ⟨v', e1, -⟩ | ⟨E8, v', e1, e2, e3, e5, e6, y, rfl⟩
      · cases e1
      · cases e1
        cases e2
        refine pn_istore (q := 254) dL_law_252 rfl (by decide) ?_
        refine pn_aload_n (q := 255) dL_law_254 rfl rfl rfl ?_
        refine lw_Y (av := []) (bc9 := bc + 1 + E - mx - my) (bs9 := bs + 6 + F - sx - sy) (q := 258) lkL_86 dL_law_255 rfl (lt_thr adK l1) rfl wx' wy' rfl rfl rfl rfl rfl (by omega) (by omega) (by omega) (Nat.le_of_ble_eq_true rfl) (fun r h' hq => ⟨by rw [hq.2]; exact wy', _, hq.1, Or.inl ⟨_, rfl⟩⟩) (fun v3 hY3 hq3 wy3 => ?_)
        obtain ⟨q1, q2⟩ := hq3
        subst q2
        cases q1
        refine pn_iload (q := 260) dL_law_258 rfl rfl ?_
        refine pn_icmp_eq (q := 263) (tgt := 265) dL_law_260 (by decide) rfl (fun _ => ?_) (fun hne => absurd (by rw [e3]) hne)
        refine pn_iload (q := 267) dL_law_265 rfl rfl ?_
        refine pn_if_ne (q := 270) (tgt := 282) dL_law_267 (by decide) rfl (fun _ => ?_) (fun hne => absurd hne (cd_nz (by omega) (by omega)))
        refine pn_goto (q := 1417) dL_law_282 (by decide) ?_
        exact pn_bud (pn_take 5 (kk _ _ _ _ bc' bs' l1)) (by omega) (by omega)
theorem lq_fault (adK : Nat → Nat) {hX hY : List pnE} {t bc bs : Nat} (hL : LIw hX hY t bc bs) : STQ mX6_fault mX7_fault adK 100 100 [] hX hY bc bs okI := by
  obtain ⟨b, tp, fp, N, A, Q, C, W, Z, ask, rf, Y, P, a, b1, c, e, f, g, h, e1, e2, hI, e3, h1, h2⟩ := hL
  rw [e1, e2]
  exact stq_mono (st_fault adK b tp fp N A Q C W Z ask rf Y P a b1 c e f g h hI) h1 h2
set_option maxRecDepth 100000 in
set_option maxHeartbeats 4000000 in
theorem lc_fault {adK : Nat → Nat} {hX hY : List pnE} {o : Nat → Int64} {i t bc bs E F : Nat} (hn : adK 2001 ≤ 3072) (hi : i + 6 ≤ adK 2001) (hL : LIw hX hY t bc bs) (kk : LK adK i E F) : pnWP mL_law adK 104 QL (bc + 1 + E) (bs + 6 + F) (HW hX hY o) (LL adK i) [] 285 := by
  obtain ⟨wx, wy⟩ := LIw_W hL
  obtain ⟨Qx, Qy, mx, sx, my, sy, hx, hy, b1, b2, ⟨r0, hY0, hq0⟩, hall⟩ := lq_fault adK hL
  have fx : ∀ r h', Qx r h' → WX h' ∧ ∃ v, r = .inl (some v) ∧ okI v := fun r h' hq => by
    obtain ⟨t', bc', bs', l1, -, -, v, e1, -, e2⟩ := hall r h' hq r0 hY0 hq0
    exact ⟨(LIw_W l1).1, v, e1, e2⟩
  refine pn_aload_n (q := 286) dL_law_285 rfl rfl rfl ?_
  refine lw_X (av := []) (bc9 := bc + 1 + E - mx) (bs9 := bs + 6 + F - sx) (q := 289) lkL_89 dL_law_286 rfl hx rfl wx wy rfl rfl rfl rfl rfl (by omega) (by omega) (by omega) (Nat.le_of_ble_eq_true rfl) (fun r h' hq => lw_fI (fx r h' hq)) (fun v hX' hq1 wx' => ?_)
  obtain ⟨x, rfl⟩ := lw_oI (fx _ _ hq1)
  refine pn_aload_n (q := 290) dL_law_289 rfl rfl rfl ?_
  refine lw_Y (av := []) (bc9 := bc + 1 + E - mx - my) (bs9 := bs + 6 + F - sx - sy) (q := 293) lkL_92 dL_law_290 rfl hy rfl wx' wy rfl rfl rfl rfl rfl (by omega) (by omega) (by omega) (Nat.le_of_ble_eq_true rfl) (fun r h' hq => ?_) (fun v hY' hq2 wy' => ?_)
  · obtain ⟨t', bc', bs', l1, -, -, v', e1, e2, e3⟩ := hall _ _ hq1 r h' hq
    exact ⟨(LIw_W l1).2, v', e2, Or.inl e3⟩
  · obtain ⟨t', bc', bs', l1, c1, c2, v', e1, e2, e3⟩ := hall _ _ hq1 _ _ hq2
    cases e1
    cases e2
    refine pn_icmp_eq (q := 296) (tgt := 1417) dL_law_293 (by decide) rfl (fun _ => ?_) (fun hne => absurd rfl hne)
    exact pn_bud (kk _ _ _ _ bc' bs' l1) (by omega) (by omega)
theorem lq_put (adK : Nat → Nat) {hX hY : List pnE} {t bc bs : Nat} (hL : LIw hX hY t bc bs) (x1 x2 x3 x4 x5 : Int32) : STP mX6_put mX7_put adK 100 100 [.int x1, .int x2, .int x3, .int x4, .int x5] hX hY bc bs (cd2 "java/lang/IllegalArgumentException" "java/lang/IllegalStateException") okI := by
  obtain ⟨b, tp, fp, N, A, Q, C, W, Z, ask, rf, Y, P, a, b1, c, e, f, g, h, e1, e2, hI, e3, h1, h2⟩ := hL
  rw [e1, e2]
  exact stp_mono (st_put adK x1 x2 x3 x4 x5 b tp fp N A Q C W Z ask rf Y P a b1 c e f g h hI) h1 h2
set_option maxRecDepth 100000 in
set_option maxHeartbeats 4000000 in
theorem lc_put {adK : Nat → Nat} {hX hY : List pnE} {o : Nat → Int64} {i t bc bs E F : Nat} (hn : adK 2001 ≤ 3072) (hi : i + 6 ≤ adK 2001) (hL : LIw hX hY t bc bs) (kk : LK adK i E F) : pnWP mL_law adK 104 QL (bc + 1 + E) (bs + 6 + F) (HW hX hY o) (LL adK i) [] 298 := by
  obtain ⟨wx, wy⟩ := LIw_W hL
  obtain ⟨Qx, Qy, mx, sx, my, sy, hx, hy, b1, b2, ⟨r0, hY0, hq0⟩, hall⟩ := lq_put adK hL (nI (adK (3000 + (i + 1)))) (nI (adK (3000 + (i + 2)))) (nI (adK (3000 + (i + 3)))) (nI (adK (3000 + (i + 4)))) (nI (adK (3000 + (i + 5))))
  have fx : ∀ r h', Qx r h' → WX h' ∧ ((∃ v, r = .inl (some v) ∧ okI v) ∨ ∃ E, r = .inr E ∧ (E = "java/lang/IllegalArgumentException" ∨ E = "java/lang/IllegalStateException")) := fun r h' hq => by
    obtain ⟨t', bc', bs', l1, -, -, ⟨v, e1, -, -, e2⟩ | ⟨E9, v, e1, -, e2, e3, -, -⟩⟩ := hall r h' hq r0 hY0 hq0
    · exact ⟨(LIw_W l1).1, Or.inl ⟨v, e1, e2⟩⟩
    · exact ⟨(LIw_W l1).1, Or.inr ⟨E9, e1, cd2_p (by omega)⟩⟩
  refine pn_aload_n (q := 299) dL_law_298 rfl rfl rfl ?_
  refine pn_aload_n (q := 300) dL_law_299 rfl rfl rfl ?_
  refine pn_iload (q := 302) dL_law_300 rfl rfl ?_
  refine pn_iconst (q := 303) (v := nI 1) dL_law_302 rfl (by decide) ?_
  first | with_reducible refine pn_iaddN (q := 304) dL_law_303 rfl ?_ | refine pn_iadd (q := 304) dL_law_303 rfl ?_
  refine pn_sld (q := 305) dL_law_304 rfl (by omega) hn ?_
  refine pn_aload_n (q := 306) dL_law_305 rfl rfl rfl ?_
  refine pn_iload (q := 308) dL_law_306 rfl rfl ?_
  refine pn_iconst (q := 309) (v := nI 2) dL_law_308 rfl (by decide) ?_
  first | with_reducible refine pn_iaddN (q := 310) dL_law_309 rfl ?_ | refine pn_iadd (q := 310) dL_law_309 rfl ?_
  refine pn_sld (q := 311) dL_law_310 rfl (by omega) hn ?_
  refine pn_aload_n (q := 312) dL_law_311 rfl rfl rfl ?_
  refine pn_iload (q := 314) dL_law_312 rfl rfl ?_
  refine pn_iconst (q := 315) (v := nI 3) dL_law_314 rfl (by decide) ?_
  first | with_reducible refine pn_iaddN (q := 316) dL_law_315 rfl ?_ | refine pn_iadd (q := 316) dL_law_315 rfl ?_
  refine pn_sld (q := 317) dL_law_316 rfl (by omega) hn ?_
  refine pn_aload_n (q := 318) dL_law_317 rfl rfl rfl ?_
  refine pn_iload (q := 320) dL_law_318 rfl rfl ?_
  refine pn_iconst (q := 321) (v := nI 4) dL_law_320 rfl (by decide) ?_
  first | with_reducible refine pn_iaddN (q := 322) dL_law_321 rfl ?_ | refine pn_iadd (q := 322) dL_law_321 rfl ?_
  refine pn_sld (q := 323) dL_law_322 rfl (by omega) hn ?_
  refine pn_aload_n (q := 324) dL_law_323 rfl rfl rfl ?_
  refine pn_iload (q := 326) dL_law_324 rfl rfl ?_
  refine pn_iconst (q := 327) (v := nI 5) dL_law_326 rfl (by decide) ?_
  first | with_reducible refine pn_iaddN (q := 328) dL_law_327 rfl ?_ | refine pn_iadd (q := 328) dL_law_327 rfl ?_
  refine pn_sld (q := 329) dL_law_328 rfl (by omega) hn ?_
  refine pn_aload_n (q := 330) dL_law_329 rfl rfl rfl ?_
  refine lw_H (av := [.int (nI (adK (3000 + (i + 1)))), .int (nI (adK (3000 + (i + 2)))), .int (nI (adK (3000 + (i + 3)))), .int (nI (adK (3000 + (i + 4)))), .int (nI (adK (3000 + (i + 5))))]) (bc9 := bc + 1 + E - mx) (bs9 := bs + 6 + F - sx) (q := 333) lkH_put dL_law_330 rfl (hl_put _ _ _ _ _ hx wx fx) wx wy rfl rfl rfl rfl (by omega) (by omega) (by omega) (fun v hX' hq1 wx' => ?_) (fun E9 hX' hq1 wx' => ?_)
  · obtain ⟨x, rfl⟩ := hl_oI (fx _ _ hq1)
    refine pn_istore (q := 335) dL_law_333 rfl (by decide) ?_
    refine pn_aload_n (q := 336) dL_law_335 rfl rfl rfl ?_
    refine pn_aload_n (q := 337) dL_law_336 rfl rfl rfl ?_
    refine pn_iload (q := 339) dL_law_337 rfl rfl ?_
    refine pn_iconst (q := 340) (v := nI 1) dL_law_339 rfl (by decide) ?_
    first | with_reducible refine pn_iaddN (q := 341) dL_law_340 rfl ?_ | refine pn_iadd (q := 341) dL_law_340 rfl ?_
    refine pn_sld (q := 342) dL_law_341 rfl (by omega) hn ?_
    refine pn_aload_n (q := 343) dL_law_342 rfl rfl rfl ?_
    refine pn_iload (q := 345) dL_law_343 rfl rfl ?_
    refine pn_iconst (q := 346) (v := nI 2) dL_law_345 rfl (by decide) ?_
    first | with_reducible refine pn_iaddN (q := 347) dL_law_346 rfl ?_ | refine pn_iadd (q := 347) dL_law_346 rfl ?_
    refine pn_sld (q := 348) dL_law_347 rfl (by omega) hn ?_
    refine pn_aload_n (q := 349) dL_law_348 rfl rfl rfl ?_
    refine pn_iload (q := 351) dL_law_349 rfl rfl ?_
    refine pn_iconst (q := 352) (v := nI 3) dL_law_351 rfl (by decide) ?_
    first | with_reducible refine pn_iaddN (q := 353) dL_law_352 rfl ?_ | refine pn_iadd (q := 353) dL_law_352 rfl ?_
    refine pn_sld (q := 354) dL_law_353 rfl (by omega) hn ?_
    refine pn_aload_n (q := 355) dL_law_354 rfl rfl rfl ?_
    refine pn_iload (q := 357) dL_law_355 rfl rfl ?_
    refine pn_iconst (q := 358) (v := nI 4) dL_law_357 rfl (by decide) ?_
    first | with_reducible refine pn_iaddN (q := 359) dL_law_358 rfl ?_ | refine pn_iadd (q := 359) dL_law_358 rfl ?_
    refine pn_sld (q := 360) dL_law_359 rfl (by omega) hn ?_
    refine pn_aload_n (q := 361) dL_law_360 rfl rfl rfl ?_
    refine pn_iload (q := 363) dL_law_361 rfl rfl ?_
    refine pn_iconst (q := 364) (v := nI 5) dL_law_363 rfl (by decide) ?_
    first | with_reducible refine pn_iaddN (q := 365) dL_law_364 rfl ?_ | refine pn_iadd (q := 365) dL_law_364 rfl ?_
    refine pn_sld (q := 366) dL_law_365 rfl (by omega) hn ?_
    refine lw_Y (av := [.int (nI (adK (3000 + (i + 1)))), .int (nI (adK (3000 + (i + 2)))), .int (nI (adK (3000 + (i + 3)))), .int (nI (adK (3000 + (i + 4)))), .int (nI (adK (3000 + (i + 5))))]) (bc9 := bc + 1 + E - mx - my) (bs9 := bs + 6 + F - sx - sy) (q := 369) lkL_96 dL_law_366 rfl hy rfl wx' wy rfl rfl rfl rfl rfl (by omega) (by omega) (by omega) (Nat.le_of_ble_eq_true rfl) (fun r h' hq => ?_) (fun v hY' hq2 wy' => ?_)
    · obtain ⟨t', bc', bs', l1, -, -, ⟨v', -, -, e2, e3⟩ | ⟨E8, v', -, e2, -, -, -, e3⟩⟩ := hall _ _ hq1 r h' hq
      · exact ⟨(LIw_W l1).2, v', e2, Or.inl e3⟩
      · exact ⟨(LIw_W l1).2, v', e2, Or.inl e3⟩
    · obtain ⟨t', bc', bs', l1, c1, c2, dis⟩ := hall _ _ hq1 _ _ hq2
      rcases dis with ⟨v', e1, e2, e3, e4⟩ | ⟨E8, v', e1, -⟩
      · cases e1
        cases e3
        subst e2
        refine pn_istore (q := 371) dL_law_369 rfl (by decide) ?_
        refine pn_aload_n (q := 372) dL_law_371 rfl rfl rfl ?_
        refine lw_Y (av := []) (bc9 := bc + 1 + E - mx - my) (bs9 := bs + 6 + F - sx - sy) (q := 375) lkL_86 dL_law_372 rfl (lt_thr adK l1) rfl wx' wy' rfl rfl rfl rfl rfl (by omega) (by omega) (by omega) (Nat.le_of_ble_eq_true rfl) (fun r h' hq => ⟨by rw [hq.2]; exact wy', _, hq.1, Or.inl ⟨_, rfl⟩⟩) (fun v3 hY3 hq3 wy3 => ?_)
        obtain ⟨q1, q2⟩ := hq3
        subst q2
        cases q1
        refine pn_iload (q := 377) dL_law_375 rfl rfl ?_
        refine pn_icmp_eq (q := 380) (tgt := 382) dL_law_377 (by decide) rfl (fun _ => ?_) (fun hne => absurd rfl hne)
        refine pn_iload (q := 384) dL_law_382 rfl rfl ?_
        refine pn_if_ne (q := 387) (tgt := 399) dL_law_384 (by decide) rfl (fun hne => absurd rfl hne) (fun _ => ?_)
        refine pn_aload_n (q := 388) dL_law_387 rfl rfl rfl ?_
        refine pn_iconst (q := 389) (v := nI 0) dL_law_388 rfl (by decide) ?_
        refine pn_lald1 (q := 390) (j := 0) dL_law_389 rfl (HW_84 wx' wy') rfl (by decide) (by decide) ?_
        refine pn_iload (q := 392) dL_law_390 rfl rfl ?_
        refine pn_i2l (q := 393) dL_law_392 rfl ?_
        refine pn_leq (q1 := 394) (q := 397) (tgt := 399) dL_law_393 rfl dL_law_394 (by decide) rfl (fun _ => ?_) (fun hne => absurd pk_uLs hne)
        refine pn_goto (q := 1417) dL_law_399 (by decide) ?_
        exact pn_bud (pn_take 5 (kk _ _ _ _ bc' bs' l1)) (by omega) (by omega)
      · cases e1
  · refine pn_istore (q := 335) dL_law_333 rfl (by decide) ?_
    refine pn_aload_n (q := 336) dL_law_335 rfl rfl rfl ?_
    refine pn_aload_n (q := 337) dL_law_336 rfl rfl rfl ?_
    refine pn_iload (q := 339) dL_law_337 rfl rfl ?_
    refine pn_iconst (q := 340) (v := nI 1) dL_law_339 rfl (by decide) ?_
    first | with_reducible refine pn_iaddN (q := 341) dL_law_340 rfl ?_ | refine pn_iadd (q := 341) dL_law_340 rfl ?_
    refine pn_sld (q := 342) dL_law_341 rfl (by omega) hn ?_
    refine pn_aload_n (q := 343) dL_law_342 rfl rfl rfl ?_
    refine pn_iload (q := 345) dL_law_343 rfl rfl ?_
    refine pn_iconst (q := 346) (v := nI 2) dL_law_345 rfl (by decide) ?_
    first | with_reducible refine pn_iaddN (q := 347) dL_law_346 rfl ?_ | refine pn_iadd (q := 347) dL_law_346 rfl ?_
    refine pn_sld (q := 348) dL_law_347 rfl (by omega) hn ?_
    refine pn_aload_n (q := 349) dL_law_348 rfl rfl rfl ?_
    refine pn_iload (q := 351) dL_law_349 rfl rfl ?_
    refine pn_iconst (q := 352) (v := nI 3) dL_law_351 rfl (by decide) ?_
    first | with_reducible refine pn_iaddN (q := 353) dL_law_352 rfl ?_ | refine pn_iadd (q := 353) dL_law_352 rfl ?_
    refine pn_sld (q := 354) dL_law_353 rfl (by omega) hn ?_
    refine pn_aload_n (q := 355) dL_law_354 rfl rfl rfl ?_
    refine pn_iload (q := 357) dL_law_355 rfl rfl ?_
    refine pn_iconst (q := 358) (v := nI 4) dL_law_357 rfl (by decide) ?_
    first | with_reducible refine pn_iaddN (q := 359) dL_law_358 rfl ?_ | refine pn_iadd (q := 359) dL_law_358 rfl ?_
    refine pn_sld (q := 360) dL_law_359 rfl (by omega) hn ?_
    refine pn_aload_n (q := 361) dL_law_360 rfl rfl rfl ?_
    refine pn_iload (q := 363) dL_law_361 rfl rfl ?_
    refine pn_iconst (q := 364) (v := nI 5) dL_law_363 rfl (by decide) ?_
    first | with_reducible refine pn_iaddN (q := 365) dL_law_364 rfl ?_ | refine pn_iadd (q := 365) dL_law_364 rfl ?_
    refine pn_sld (q := 366) dL_law_365 rfl (by omega) hn ?_
    refine lw_Y (av := [.int (nI (adK (3000 + (i + 1)))), .int (nI (adK (3000 + (i + 2)))), .int (nI (adK (3000 + (i + 3)))), .int (nI (adK (3000 + (i + 4)))), .int (nI (adK (3000 + (i + 5))))]) (bc9 := bc + 1 + E - mx - my) (bs9 := bs + 6 + F - sx - sy) (q := 369) lkL_96 dL_law_366 rfl hy rfl wx' wy rfl rfl rfl rfl rfl (by omega) (by omega) (by omega) (Nat.le_of_ble_eq_true rfl) (fun r h' hq => ?_) (fun v hY' hq2 wy' => ?_)
    · obtain ⟨t', bc', bs', l1, -, -, ⟨v', -, -, e2, e3⟩ | ⟨E8, v', -, e2, -, -, -, e3⟩⟩ := hall _ _ hq1 r h' hq
      · exact ⟨(LIw_W l1).2, v', e2, Or.inl e3⟩
      · exact ⟨(LIw_W l1).2, v', e2, Or.inl e3⟩
    · obtain ⟨t', bc', bs', l1, c1, c2, dis⟩ := hall _ _ hq1 _ _ hq2
      rcases dis with ⟨v', e1, -⟩ | ⟨E8, v', e1, e2, e3, e5, e6, y, rfl⟩
      · cases e1
      · cases e1
        cases e2
        refine pn_istore (q := 371) dL_law_369 rfl (by decide) ?_
        refine pn_aload_n (q := 372) dL_law_371 rfl rfl rfl ?_
        refine lw_Y (av := []) (bc9 := bc + 1 + E - mx - my) (bs9 := bs + 6 + F - sx - sy) (q := 375) lkL_86 dL_law_372 rfl (lt_thr adK l1) rfl wx' wy' rfl rfl rfl rfl rfl (by omega) (by omega) (by omega) (Nat.le_of_ble_eq_true rfl) (fun r h' hq => ⟨by rw [hq.2]; exact wy', _, hq.1, Or.inl ⟨_, rfl⟩⟩) (fun v3 hY3 hq3 wy3 => ?_)
        obtain ⟨q1, q2⟩ := hq3
        subst q2
        cases q1
        refine pn_iload (q := 377) dL_law_375 rfl rfl ?_
        refine pn_icmp_eq (q := 380) (tgt := 382) dL_law_377 (by decide) rfl (fun _ => ?_) (fun hne => absurd (by rw [e3]) hne)
        refine pn_iload (q := 384) dL_law_382 rfl rfl ?_
        refine pn_if_ne (q := 387) (tgt := 399) dL_law_384 (by decide) rfl (fun _ => ?_) (fun hne => absurd hne (cd_nz (by omega) (by omega)))
        refine pn_goto (q := 1417) dL_law_399 (by decide) ?_
        exact pn_bud (pn_take 5 (kk _ _ _ _ bc' bs' l1)) (by omega) (by omega)
theorem lq_take (adK : Nat → Nat) {hX hY : List pnE} {t bc bs : Nat} (hL : LIw hX hY t bc bs) (x1 : Int32) : STP mX6_take mX7_take adK 100 100 [.int x1] hX hY bc bs (cd1 "java/util/NoSuchElementException") okI := by
  obtain ⟨b, tp, fp, N, A, Q, C, W, Z, ask, rf, Y, P, a, b1, c, e, f, g, h, e1, e2, hI, e3, h1, h2⟩ := hL
  rw [e1, e2]
  exact stp_mono (st_take adK x1 b tp fp N A Q C W Z ask rf Y P a b1 c e f g h hI) h1 h2
set_option maxRecDepth 100000 in
set_option maxHeartbeats 4000000 in
theorem lc_take {adK : Nat → Nat} {hX hY : List pnE} {o : Nat → Int64} {i t bc bs E F : Nat} (hn : adK 2001 ≤ 3072) (hi : i + 6 ≤ adK 2001) (hL : LIw hX hY t bc bs) (kk : LK adK i E F) : pnWP mL_law adK 104 QL (bc + 1 + E) (bs + 6 + F) (HW hX hY o) (LL adK i) [] 402 := by
  obtain ⟨wx, wy⟩ := LIw_W hL
  obtain ⟨Qx, Qy, mx, sx, my, sy, hx, hy, b1, b2, ⟨r0, hY0, hq0⟩, hall⟩ := lq_take adK hL (nI (adK (3000 + (i + 1))))
  have fx : ∀ r h', Qx r h' → WX h' ∧ ((∃ v, r = .inl (some v) ∧ okI v) ∨ ∃ E, r = .inr E ∧ (E = "java/util/NoSuchElementException")) := fun r h' hq => by
    obtain ⟨t', bc', bs', l1, -, -, ⟨v, e1, -, -, e2⟩ | ⟨E9, v, e1, -, e2, e3, -, -⟩⟩ := hall r h' hq r0 hY0 hq0
    · exact ⟨(LIw_W l1).1, Or.inl ⟨v, e1, e2⟩⟩
    · exact ⟨(LIw_W l1).1, Or.inr ⟨E9, e1, cd1_p (by omega)⟩⟩
  refine pn_aload_n (q := 403) dL_law_402 rfl rfl rfl ?_
  refine pn_aload_n (q := 404) dL_law_403 rfl rfl rfl ?_
  refine pn_iload (q := 406) dL_law_404 rfl rfl ?_
  refine pn_iconst (q := 407) (v := nI 1) dL_law_406 rfl (by decide) ?_
  first | with_reducible refine pn_iaddN (q := 408) dL_law_407 rfl ?_ | refine pn_iadd (q := 408) dL_law_407 rfl ?_
  refine pn_sld (q := 409) dL_law_408 rfl (by omega) hn ?_
  refine pn_aload_n (q := 410) dL_law_409 rfl rfl rfl ?_
  refine lw_H (av := [.int (nI (adK (3000 + (i + 1))))]) (bc9 := bc + 1 + E - mx) (bs9 := bs + 6 + F - sx) (q := 413) lkH_take dL_law_410 rfl (hl_take _ hx wx fx) wx wy rfl rfl rfl rfl (by omega) (by omega) (by omega) (fun v hX' hq1 wx' => ?_) (fun E9 hX' hq1 wx' => ?_)
  · obtain ⟨x, rfl⟩ := hl_oI (fx _ _ hq1)
    refine pn_istore (q := 415) dL_law_413 rfl (by decide) ?_
    refine pn_aload_n (q := 416) dL_law_415 rfl rfl rfl ?_
    refine pn_aload_n (q := 417) dL_law_416 rfl rfl rfl ?_
    refine pn_iload (q := 419) dL_law_417 rfl rfl ?_
    refine pn_iconst (q := 420) (v := nI 1) dL_law_419 rfl (by decide) ?_
    first | with_reducible refine pn_iaddN (q := 421) dL_law_420 rfl ?_ | refine pn_iadd (q := 421) dL_law_420 rfl ?_
    refine pn_sld (q := 422) dL_law_421 rfl (by omega) hn ?_
    refine lw_Y (av := [.int (nI (adK (3000 + (i + 1))))]) (bc9 := bc + 1 + E - mx - my) (bs9 := bs + 6 + F - sx - sy) (q := 425) lkL_99 dL_law_422 rfl hy rfl wx' wy rfl rfl rfl rfl rfl (by omega) (by omega) (by omega) (Nat.le_of_ble_eq_true rfl) (fun r h' hq => ?_) (fun v hY' hq2 wy' => ?_)
    · obtain ⟨t', bc', bs', l1, -, -, ⟨v', -, -, e2, e3⟩ | ⟨E8, v', -, e2, -, -, -, e3⟩⟩ := hall _ _ hq1 r h' hq
      · exact ⟨(LIw_W l1).2, v', e2, Or.inl e3⟩
      · exact ⟨(LIw_W l1).2, v', e2, Or.inl e3⟩
    · obtain ⟨t', bc', bs', l1, c1, c2, dis⟩ := hall _ _ hq1 _ _ hq2
      rcases dis with ⟨v', e1, e2, e3, e4⟩ | ⟨E8, v', e1, -⟩
      · cases e1
        cases e3
        subst e2
        refine pn_istore (q := 427) dL_law_425 rfl (by decide) ?_
        refine pn_aload_n (q := 428) dL_law_427 rfl rfl rfl ?_
        refine lw_Y (av := []) (bc9 := bc + 1 + E - mx - my) (bs9 := bs + 6 + F - sx - sy) (q := 431) lkL_86 dL_law_428 rfl (lt_thr adK l1) rfl wx' wy' rfl rfl rfl rfl rfl (by omega) (by omega) (by omega) (Nat.le_of_ble_eq_true rfl) (fun r h' hq => ⟨by rw [hq.2]; exact wy', _, hq.1, Or.inl ⟨_, rfl⟩⟩) (fun v3 hY3 hq3 wy3 => ?_)
        obtain ⟨q1, q2⟩ := hq3
        subst q2
        cases q1
        refine pn_iload (q := 433) dL_law_431 rfl rfl ?_
        refine pn_icmp_eq (q := 436) (tgt := 438) dL_law_433 (by decide) rfl (fun _ => ?_) (fun hne => absurd rfl hne)
        refine pn_iload (q := 440) dL_law_438 rfl rfl ?_
        refine pn_if_ne (q := 443) (tgt := 455) dL_law_440 (by decide) rfl (fun hne => absurd rfl hne) (fun _ => ?_)
        refine pn_aload_n (q := 444) dL_law_443 rfl rfl rfl ?_
        refine pn_iconst (q := 445) (v := nI 0) dL_law_444 rfl (by decide) ?_
        refine pn_lald1 (q := 446) (j := 0) dL_law_445 rfl (HW_84 wx' wy') rfl (by decide) (by decide) ?_
        refine pn_iload (q := 448) dL_law_446 rfl rfl ?_
        refine pn_i2l (q := 449) dL_law_448 rfl ?_
        refine pn_leq (q1 := 450) (q := 453) (tgt := 455) dL_law_449 rfl dL_law_450 (by decide) rfl (fun _ => ?_) (fun hne => absurd pk_uLs hne)
        refine pn_goto (q := 1417) dL_law_455 (by decide) ?_
        exact pn_bud (pn_take 5 (kk _ _ _ _ bc' bs' l1)) (by omega) (by omega)
      · cases e1
  · refine pn_istore (q := 415) dL_law_413 rfl (by decide) ?_
    refine pn_aload_n (q := 416) dL_law_415 rfl rfl rfl ?_
    refine pn_aload_n (q := 417) dL_law_416 rfl rfl rfl ?_
    refine pn_iload (q := 419) dL_law_417 rfl rfl ?_
    refine pn_iconst (q := 420) (v := nI 1) dL_law_419 rfl (by decide) ?_
    first | with_reducible refine pn_iaddN (q := 421) dL_law_420 rfl ?_ | refine pn_iadd (q := 421) dL_law_420 rfl ?_
    refine pn_sld (q := 422) dL_law_421 rfl (by omega) hn ?_
    refine lw_Y (av := [.int (nI (adK (3000 + (i + 1))))]) (bc9 := bc + 1 + E - mx - my) (bs9 := bs + 6 + F - sx - sy) (q := 425) lkL_99 dL_law_422 rfl hy rfl wx' wy rfl rfl rfl rfl rfl (by omega) (by omega) (by omega) (Nat.le_of_ble_eq_true rfl) (fun r h' hq => ?_) (fun v hY' hq2 wy' => ?_)
    · obtain ⟨t', bc', bs', l1, -, -, ⟨v', -, -, e2, e3⟩ | ⟨E8, v', -, e2, -, -, -, e3⟩⟩ := hall _ _ hq1 r h' hq
      · exact ⟨(LIw_W l1).2, v', e2, Or.inl e3⟩
      · exact ⟨(LIw_W l1).2, v', e2, Or.inl e3⟩
    · obtain ⟨t', bc', bs', l1, c1, c2, dis⟩ := hall _ _ hq1 _ _ hq2
      rcases dis with ⟨v', e1, -⟩ | ⟨E8, v', e1, e2, e3, e5, e6, y, rfl⟩
      · cases e1
      · cases e1
        cases e2
        refine pn_istore (q := 427) dL_law_425 rfl (by decide) ?_
        refine pn_aload_n (q := 428) dL_law_427 rfl rfl rfl ?_
        refine lw_Y (av := []) (bc9 := bc + 1 + E - mx - my) (bs9 := bs + 6 + F - sx - sy) (q := 431) lkL_86 dL_law_428 rfl (lt_thr adK l1) rfl wx' wy' rfl rfl rfl rfl rfl (by omega) (by omega) (by omega) (Nat.le_of_ble_eq_true rfl) (fun r h' hq => ⟨by rw [hq.2]; exact wy', _, hq.1, Or.inl ⟨_, rfl⟩⟩) (fun v3 hY3 hq3 wy3 => ?_)
        obtain ⟨q1, q2⟩ := hq3
        subst q2
        cases q1
        refine pn_iload (q := 433) dL_law_431 rfl rfl ?_
        refine pn_icmp_eq (q := 436) (tgt := 438) dL_law_433 (by decide) rfl (fun _ => ?_) (fun hne => absurd (by rw [e3]) hne)
        refine pn_iload (q := 440) dL_law_438 rfl rfl ?_
        refine pn_if_ne (q := 443) (tgt := 455) dL_law_440 (by decide) rfl (fun _ => ?_) (fun hne => absurd hne (cd_nz (by omega) (by omega)))
        refine pn_goto (q := 1417) dL_law_455 (by decide) ?_
        exact pn_bud (pn_take 5 (kk _ _ _ _ bc' bs' l1)) (by omega) (by omega)
theorem lq_exchange (adK : Nat → Nat) {hX hY : List pnE} {t bc bs : Nat} (hL : LIw hX hY t bc bs) (x1 x2 x3 : Int32) : STP mX6_exchange mX7_exchange adK 100 100 [.int x1, .int x2, .int x3] hX hY bc bs (cd2 "java/util/NoSuchElementException" "java/lang/IllegalArgumentException") okI := by
  obtain ⟨b, tp, fp, N, A, Q, C, W, Z, ask, rf, Y, P, a, b1, c, e, f, g, h, e1, e2, hI, e3, h1, h2⟩ := hL
  rw [e1, e2]
  exact stp_mono (st_exchange adK x1 x2 x3 b tp fp N A Q C W Z ask rf Y P a b1 c e f g h hI) h1 h2
set_option maxRecDepth 100000 in
set_option maxHeartbeats 4000000 in
theorem lc_exchange {adK : Nat → Nat} {hX hY : List pnE} {o : Nat → Int64} {i t bc bs E F : Nat} (hn : adK 2001 ≤ 3072) (hi : i + 6 ≤ adK 2001) (hL : LIw hX hY t bc bs) (kk : LK adK i E F) : pnWP mL_law adK 104 QL (bc + 1 + E) (bs + 6 + F) (HW hX hY o) (LL adK i) [] 458 := by
  obtain ⟨wx, wy⟩ := LIw_W hL
  obtain ⟨Qx, Qy, mx, sx, my, sy, hx, hy, b1, b2, ⟨r0, hY0, hq0⟩, hall⟩ := lq_exchange adK hL (nI (adK (3000 + (i + 1)))) (nI (adK (3000 + (i + 2)))) (nI (adK (3000 + (i + 3))))
  have fx : ∀ r h', Qx r h' → WX h' ∧ ((∃ v, r = .inl (some v) ∧ okI v) ∨ ∃ E, r = .inr E ∧ (E = "java/util/NoSuchElementException" ∨ E = "java/lang/IllegalArgumentException")) := fun r h' hq => by
    obtain ⟨t', bc', bs', l1, -, -, ⟨v, e1, -, -, e2⟩ | ⟨E9, v, e1, -, e2, e3, -, -⟩⟩ := hall r h' hq r0 hY0 hq0
    · exact ⟨(LIw_W l1).1, Or.inl ⟨v, e1, e2⟩⟩
    · exact ⟨(LIw_W l1).1, Or.inr ⟨E9, e1, cd2_p (by omega)⟩⟩
  refine pn_aload_n (q := 459) dL_law_458 rfl rfl rfl ?_
  refine pn_aload_n (q := 460) dL_law_459 rfl rfl rfl ?_
  refine pn_iload (q := 462) dL_law_460 rfl rfl ?_
  refine pn_iconst (q := 463) (v := nI 1) dL_law_462 rfl (by decide) ?_
  first | with_reducible refine pn_iaddN (q := 464) dL_law_463 rfl ?_ | refine pn_iadd (q := 464) dL_law_463 rfl ?_
  refine pn_sld (q := 465) dL_law_464 rfl (by omega) hn ?_
  refine pn_aload_n (q := 466) dL_law_465 rfl rfl rfl ?_
  refine pn_iload (q := 468) dL_law_466 rfl rfl ?_
  refine pn_iconst (q := 469) (v := nI 2) dL_law_468 rfl (by decide) ?_
  first | with_reducible refine pn_iaddN (q := 470) dL_law_469 rfl ?_ | refine pn_iadd (q := 470) dL_law_469 rfl ?_
  refine pn_sld (q := 471) dL_law_470 rfl (by omega) hn ?_
  refine pn_aload_n (q := 472) dL_law_471 rfl rfl rfl ?_
  refine pn_iload (q := 474) dL_law_472 rfl rfl ?_
  refine pn_iconst (q := 475) (v := nI 3) dL_law_474 rfl (by decide) ?_
  first | with_reducible refine pn_iaddN (q := 476) dL_law_475 rfl ?_ | refine pn_iadd (q := 476) dL_law_475 rfl ?_
  refine pn_sld (q := 477) dL_law_476 rfl (by omega) hn ?_
  refine pn_aload_n (q := 478) dL_law_477 rfl rfl rfl ?_
  refine lw_H (av := [.int (nI (adK (3000 + (i + 1)))), .int (nI (adK (3000 + (i + 2)))), .int (nI (adK (3000 + (i + 3))))]) (bc9 := bc + 1 + E - mx) (bs9 := bs + 6 + F - sx) (q := 481) lkH_exchange dL_law_478 rfl (hl_exchange _ _ _ hx wx fx) wx wy rfl rfl rfl rfl (by omega) (by omega) (by omega) (fun v hX' hq1 wx' => ?_) (fun E9 hX' hq1 wx' => ?_)
  · obtain ⟨x, rfl⟩ := hl_oI (fx _ _ hq1)
    refine pn_istore (q := 483) dL_law_481 rfl (by decide) ?_
    refine pn_aload_n (q := 484) dL_law_483 rfl rfl rfl ?_
    refine pn_aload_n (q := 485) dL_law_484 rfl rfl rfl ?_
    refine pn_iload (q := 487) dL_law_485 rfl rfl ?_
    refine pn_iconst (q := 488) (v := nI 1) dL_law_487 rfl (by decide) ?_
    first | with_reducible refine pn_iaddN (q := 489) dL_law_488 rfl ?_ | refine pn_iadd (q := 489) dL_law_488 rfl ?_
    refine pn_sld (q := 490) dL_law_489 rfl (by omega) hn ?_
    refine pn_aload_n (q := 491) dL_law_490 rfl rfl rfl ?_
    refine pn_iload (q := 493) dL_law_491 rfl rfl ?_
    refine pn_iconst (q := 494) (v := nI 2) dL_law_493 rfl (by decide) ?_
    first | with_reducible refine pn_iaddN (q := 495) dL_law_494 rfl ?_ | refine pn_iadd (q := 495) dL_law_494 rfl ?_
    refine pn_sld (q := 496) dL_law_495 rfl (by omega) hn ?_
    refine pn_aload_n (q := 497) dL_law_496 rfl rfl rfl ?_
    refine pn_iload (q := 499) dL_law_497 rfl rfl ?_
    refine pn_iconst (q := 500) (v := nI 3) dL_law_499 rfl (by decide) ?_
    first | with_reducible refine pn_iaddN (q := 501) dL_law_500 rfl ?_ | refine pn_iadd (q := 501) dL_law_500 rfl ?_
    refine pn_sld (q := 502) dL_law_501 rfl (by omega) hn ?_
    refine lw_Y (av := [.int (nI (adK (3000 + (i + 1)))), .int (nI (adK (3000 + (i + 2)))), .int (nI (adK (3000 + (i + 3))))]) (bc9 := bc + 1 + E - mx - my) (bs9 := bs + 6 + F - sx - sy) (q := 505) lkL_103 dL_law_502 rfl hy rfl wx' wy rfl rfl rfl rfl rfl (by omega) (by omega) (by omega) (Nat.le_of_ble_eq_true rfl) (fun r h' hq => ?_) (fun v hY' hq2 wy' => ?_)
    · obtain ⟨t', bc', bs', l1, -, -, ⟨v', -, -, e2, e3⟩ | ⟨E8, v', -, e2, -, -, -, e3⟩⟩ := hall _ _ hq1 r h' hq
      · exact ⟨(LIw_W l1).2, v', e2, Or.inl e3⟩
      · exact ⟨(LIw_W l1).2, v', e2, Or.inl e3⟩
    · obtain ⟨t', bc', bs', l1, c1, c2, dis⟩ := hall _ _ hq1 _ _ hq2
      rcases dis with ⟨v', e1, e2, e3, e4⟩ | ⟨E8, v', e1, -⟩
      · cases e1
        cases e3
        subst e2
        refine pn_istore (q := 507) dL_law_505 rfl (by decide) ?_
        refine pn_aload_n (q := 508) dL_law_507 rfl rfl rfl ?_
        refine lw_Y (av := []) (bc9 := bc + 1 + E - mx - my) (bs9 := bs + 6 + F - sx - sy) (q := 511) lkL_86 dL_law_508 rfl (lt_thr adK l1) rfl wx' wy' rfl rfl rfl rfl rfl (by omega) (by omega) (by omega) (Nat.le_of_ble_eq_true rfl) (fun r h' hq => ⟨by rw [hq.2]; exact wy', _, hq.1, Or.inl ⟨_, rfl⟩⟩) (fun v3 hY3 hq3 wy3 => ?_)
        obtain ⟨q1, q2⟩ := hq3
        subst q2
        cases q1
        refine pn_iload (q := 513) dL_law_511 rfl rfl ?_
        refine pn_icmp_eq (q := 516) (tgt := 518) dL_law_513 (by decide) rfl (fun _ => ?_) (fun hne => absurd rfl hne)
        refine pn_iload (q := 520) dL_law_518 rfl rfl ?_
        refine pn_if_ne (q := 523) (tgt := 535) dL_law_520 (by decide) rfl (fun hne => absurd rfl hne) (fun _ => ?_)
        refine pn_aload_n (q := 524) dL_law_523 rfl rfl rfl ?_
        refine pn_iconst (q := 525) (v := nI 0) dL_law_524 rfl (by decide) ?_
        refine pn_lald1 (q := 526) (j := 0) dL_law_525 rfl (HW_84 wx' wy') rfl (by decide) (by decide) ?_
        refine pn_iload (q := 528) dL_law_526 rfl rfl ?_
        refine pn_i2l (q := 529) dL_law_528 rfl ?_
        refine pn_leq (q1 := 530) (q := 533) (tgt := 535) dL_law_529 rfl dL_law_530 (by decide) rfl (fun _ => ?_) (fun hne => absurd pk_uLs hne)
        refine pn_goto (q := 1417) dL_law_535 (by decide) ?_
        exact pn_bud (pn_take 5 (kk _ _ _ _ bc' bs' l1)) (by omega) (by omega)
      · cases e1
  · refine pn_istore (q := 483) dL_law_481 rfl (by decide) ?_
    refine pn_aload_n (q := 484) dL_law_483 rfl rfl rfl ?_
    refine pn_aload_n (q := 485) dL_law_484 rfl rfl rfl ?_
    refine pn_iload (q := 487) dL_law_485 rfl rfl ?_
    refine pn_iconst (q := 488) (v := nI 1) dL_law_487 rfl (by decide) ?_
    first | with_reducible refine pn_iaddN (q := 489) dL_law_488 rfl ?_ | refine pn_iadd (q := 489) dL_law_488 rfl ?_
    refine pn_sld (q := 490) dL_law_489 rfl (by omega) hn ?_
    refine pn_aload_n (q := 491) dL_law_490 rfl rfl rfl ?_
    refine pn_iload (q := 493) dL_law_491 rfl rfl ?_
    refine pn_iconst (q := 494) (v := nI 2) dL_law_493 rfl (by decide) ?_
    first | with_reducible refine pn_iaddN (q := 495) dL_law_494 rfl ?_ | refine pn_iadd (q := 495) dL_law_494 rfl ?_
    refine pn_sld (q := 496) dL_law_495 rfl (by omega) hn ?_
    refine pn_aload_n (q := 497) dL_law_496 rfl rfl rfl ?_
    refine pn_iload (q := 499) dL_law_497 rfl rfl ?_
    refine pn_iconst (q := 500) (v := nI 3) dL_law_499 rfl (by decide) ?_
    first | with_reducible refine pn_iaddN (q := 501) dL_law_500 rfl ?_ | refine pn_iadd (q := 501) dL_law_500 rfl ?_
    refine pn_sld (q := 502) dL_law_501 rfl (by omega) hn ?_
    refine lw_Y (av := [.int (nI (adK (3000 + (i + 1)))), .int (nI (adK (3000 + (i + 2)))), .int (nI (adK (3000 + (i + 3))))]) (bc9 := bc + 1 + E - mx - my) (bs9 := bs + 6 + F - sx - sy) (q := 505) lkL_103 dL_law_502 rfl hy rfl wx' wy rfl rfl rfl rfl rfl (by omega) (by omega) (by omega) (Nat.le_of_ble_eq_true rfl) (fun r h' hq => ?_) (fun v hY' hq2 wy' => ?_)
    · obtain ⟨t', bc', bs', l1, -, -, ⟨v', -, -, e2, e3⟩ | ⟨E8, v', -, e2, -, -, -, e3⟩⟩ := hall _ _ hq1 r h' hq
      · exact ⟨(LIw_W l1).2, v', e2, Or.inl e3⟩
      · exact ⟨(LIw_W l1).2, v', e2, Or.inl e3⟩
    · obtain ⟨t', bc', bs', l1, c1, c2, dis⟩ := hall _ _ hq1 _ _ hq2
      rcases dis with ⟨v', e1, -⟩ | ⟨E8, v', e1, e2, e3, e5, e6, y, rfl⟩
      · cases e1
      · cases e1
        cases e2
        refine pn_istore (q := 507) dL_law_505 rfl (by decide) ?_
        refine pn_aload_n (q := 508) dL_law_507 rfl rfl rfl ?_
        refine lw_Y (av := []) (bc9 := bc + 1 + E - mx - my) (bs9 := bs + 6 + F - sx - sy) (q := 511) lkL_86 dL_law_508 rfl (lt_thr adK l1) rfl wx' wy' rfl rfl rfl rfl rfl (by omega) (by omega) (by omega) (Nat.le_of_ble_eq_true rfl) (fun r h' hq => ⟨by rw [hq.2]; exact wy', _, hq.1, Or.inl ⟨_, rfl⟩⟩) (fun v3 hY3 hq3 wy3 => ?_)
        obtain ⟨q1, q2⟩ := hq3
        subst q2
        cases q1
        refine pn_iload (q := 513) dL_law_511 rfl rfl ?_
        refine pn_icmp_eq (q := 516) (tgt := 518) dL_law_513 (by decide) rfl (fun _ => ?_) (fun hne => absurd (by rw [e3]) hne)
        refine pn_iload (q := 520) dL_law_518 rfl rfl ?_
        refine pn_if_ne (q := 523) (tgt := 535) dL_law_520 (by decide) rfl (fun _ => ?_) (fun hne => absurd hne (cd_nz (by omega) (by omega)))
        refine pn_goto (q := 1417) dL_law_535 (by decide) ?_
        exact pn_bud (pn_take 5 (kk _ _ _ _ bc' bs' l1)) (by omega) (by omega)
theorem lq_finish (adK : Nat → Nat) {hX hY : List pnE} {t bc bs : Nat} (hL : LIw hX hY t bc bs) : STQ mX6_finish mX7_finish adK 100 100 [] hX hY bc bs okI := by
  obtain ⟨b, tp, fp, N, A, Q, C, W, Z, ask, rf, Y, P, a, b1, c, e, f, g, h, e1, e2, hI, e3, h1, h2⟩ := hL
  rw [e1, e2]
  exact stq_mono (st_finish adK b tp fp N A Q C W Z ask rf Y P a b1 c e f g h hI) h1 h2
set_option maxRecDepth 100000 in
set_option maxHeartbeats 4000000 in
theorem lc_finish {adK : Nat → Nat} {hX hY : List pnE} {o : Nat → Int64} {i t bc bs E F : Nat} (hn : adK 2001 ≤ 3072) (hi : i + 6 ≤ adK 2001) (hL : LIw hX hY t bc bs) (kk : LK adK i E F) : pnWP mL_law adK 104 QL (bc + 1 + E) (bs + 6 + F) (HW hX hY o) (LL adK i) [] 538 := by
  obtain ⟨wx, wy⟩ := LIw_W hL
  obtain ⟨Qx, Qy, mx, sx, my, sy, hx, hy, b1, b2, ⟨r0, hY0, hq0⟩, hall⟩ := lq_finish adK hL
  have fx : ∀ r h', Qx r h' → WX h' ∧ ∃ v, r = .inl (some v) ∧ okI v := fun r h' hq => by
    obtain ⟨t', bc', bs', l1, -, -, v, e1, -, e2⟩ := hall r h' hq r0 hY0 hq0
    exact ⟨(LIw_W l1).1, v, e1, e2⟩
  refine pn_aload_n (q := 539) dL_law_538 rfl rfl rfl ?_
  refine lw_X (av := []) (bc9 := bc + 1 + E - mx) (bs9 := bs + 6 + F - sx) (q := 542) lkL_104 dL_law_539 rfl hx rfl wx wy rfl rfl rfl rfl rfl (by omega) (by omega) (by omega) (Nat.le_of_ble_eq_true rfl) (fun r h' hq => lw_fI (fx r h' hq)) (fun v hX' hq1 wx' => ?_)
  obtain ⟨x, rfl⟩ := lw_oI (fx _ _ hq1)
  refine pn_aload_n (q := 543) dL_law_542 rfl rfl rfl ?_
  refine lw_Y (av := []) (bc9 := bc + 1 + E - mx - my) (bs9 := bs + 6 + F - sx - sy) (q := 546) lkL_107 dL_law_543 rfl hy rfl wx' wy rfl rfl rfl rfl rfl (by omega) (by omega) (by omega) (Nat.le_of_ble_eq_true rfl) (fun r h' hq => ?_) (fun v hY' hq2 wy' => ?_)
  · obtain ⟨t', bc', bs', l1, -, -, v', e1, e2, e3⟩ := hall _ _ hq1 r h' hq
    exact ⟨(LIw_W l1).2, v', e2, Or.inl e3⟩
  · obtain ⟨t', bc', bs', l1, c1, c2, v', e1, e2, e3⟩ := hall _ _ hq1 _ _ hq2
    cases e1
    cases e2
    refine pn_icmp_eq (q := 549) (tgt := 1417) dL_law_546 (by decide) rfl (fun _ => ?_) (fun hne => absurd rfl hne)
    exact pn_bud (kk _ _ _ _ bc' bs' l1) (by omega) (by omega)
theorem lq_develop (adK : Nat → Nat) {hX hY : List pnE} {t bc bs : Nat} (hL : LIw hX hY t bc bs) : STP mX6_develop mX7_develop adK 100 100 [] hX hY bc bs (cd1 "java/lang/IllegalStateException") okI := by
  obtain ⟨b, tp, fp, N, A, Q, C, W, Z, ask, rf, Y, P, a, b1, c, e, f, g, h, e1, e2, hI, e3, h1, h2⟩ := hL
  rw [e1, e2]
  exact stp_mono (st_develop adK b tp fp N A Q C W Z ask rf Y P a b1 c e f g h hI) h1 h2
set_option maxRecDepth 100000 in
set_option maxHeartbeats 4000000 in
theorem lc_develop {adK : Nat → Nat} {hX hY : List pnE} {o : Nat → Int64} {i t bc bs E F : Nat} (hn : adK 2001 ≤ 3072) (hi : i + 6 ≤ adK 2001) (hL : LIw hX hY t bc bs) (kk : LK adK i E F) : pnWP mL_law adK 104 QL (bc + 1 + E) (bs + 6 + F) (HW hX hY o) (LL adK i) [] 551 := by
  obtain ⟨wx, wy⟩ := LIw_W hL
  obtain ⟨Qx, Qy, mx, sx, my, sy, hx, hy, b1, b2, ⟨r0, hY0, hq0⟩, hall⟩ := lq_develop adK hL
  have fx : ∀ r h', Qx r h' → WX h' ∧ ((∃ v, r = .inl (some v) ∧ okI v) ∨ ∃ E, r = .inr E ∧ (E = "java/lang/IllegalStateException")) := fun r h' hq => by
    obtain ⟨t', bc', bs', l1, -, -, ⟨v, e1, -, -, e2⟩ | ⟨E9, v, e1, -, e2, e3, -, -⟩⟩ := hall r h' hq r0 hY0 hq0
    · exact ⟨(LIw_W l1).1, Or.inl ⟨v, e1, e2⟩⟩
    · exact ⟨(LIw_W l1).1, Or.inr ⟨E9, e1, cd1_p (by omega)⟩⟩
  refine pn_aload_n (q := 552) dL_law_551 rfl rfl rfl ?_
  refine pn_aload_n (q := 553) dL_law_552 rfl rfl rfl ?_
  refine lw_H (av := []) (bc9 := bc + 1 + E - mx) (bs9 := bs + 6 + F - sx) (q := 556) lkH_develop dL_law_553 rfl (hl_develop hx wx fx) wx wy rfl rfl rfl rfl (by omega) (by omega) (by omega) (fun v hX' hq1 wx' => ?_) (fun E9 hX' hq1 wx' => ?_)
  · obtain ⟨x, rfl⟩ := hl_oI (fx _ _ hq1)
    refine pn_istore (q := 558) dL_law_556 rfl (by decide) ?_
    refine pn_aload_n (q := 559) dL_law_558 rfl rfl rfl ?_
    refine lw_Y (av := []) (bc9 := bc + 1 + E - mx - my) (bs9 := bs + 6 + F - sx - sy) (q := 562) lkL_111 dL_law_559 rfl hy rfl wx' wy rfl rfl rfl rfl rfl (by omega) (by omega) (by omega) (Nat.le_of_ble_eq_true rfl) (fun r h' hq => ?_) (fun v hY' hq2 wy' => ?_)
    · obtain ⟨t', bc', bs', l1, -, -, ⟨v', -, -, e2, e3⟩ | ⟨E8, v', -, e2, -, -, -, e3⟩⟩ := hall _ _ hq1 r h' hq
      · exact ⟨(LIw_W l1).2, v', e2, Or.inl e3⟩
      · exact ⟨(LIw_W l1).2, v', e2, Or.inl e3⟩
    · obtain ⟨t', bc', bs', l1, c1, c2, dis⟩ := hall _ _ hq1 _ _ hq2
      rcases dis with ⟨v', e1, e2, e3, e4⟩ | ⟨E8, v', e1, -⟩
      · cases e1
        cases e3
        subst e2
        refine pn_istore (q := 564) dL_law_562 rfl (by decide) ?_
        refine pn_aload_n (q := 565) dL_law_564 rfl rfl rfl ?_
        refine lw_Y (av := []) (bc9 := bc + 1 + E - mx - my) (bs9 := bs + 6 + F - sx - sy) (q := 568) lkL_86 dL_law_565 rfl (lt_thr adK l1) rfl wx' wy' rfl rfl rfl rfl rfl (by omega) (by omega) (by omega) (Nat.le_of_ble_eq_true rfl) (fun r h' hq => ⟨by rw [hq.2]; exact wy', _, hq.1, Or.inl ⟨_, rfl⟩⟩) (fun v3 hY3 hq3 wy3 => ?_)
        obtain ⟨q1, q2⟩ := hq3
        subst q2
        cases q1
        refine pn_iload (q := 570) dL_law_568 rfl rfl ?_
        refine pn_icmp_eq (q := 573) (tgt := 575) dL_law_570 (by decide) rfl (fun _ => ?_) (fun hne => absurd rfl hne)
        refine pn_iload (q := 577) dL_law_575 rfl rfl ?_
        refine pn_if_ne (q := 580) (tgt := 592) dL_law_577 (by decide) rfl (fun hne => absurd rfl hne) (fun _ => ?_)
        refine pn_aload_n (q := 581) dL_law_580 rfl rfl rfl ?_
        refine pn_iconst (q := 582) (v := nI 0) dL_law_581 rfl (by decide) ?_
        refine pn_lald1 (q := 583) (j := 0) dL_law_582 rfl (HW_84 wx' wy') rfl (by decide) (by decide) ?_
        refine pn_iload (q := 585) dL_law_583 rfl rfl ?_
        refine pn_i2l (q := 586) dL_law_585 rfl ?_
        refine pn_leq (q1 := 587) (q := 590) (tgt := 592) dL_law_586 rfl dL_law_587 (by decide) rfl (fun _ => ?_) (fun hne => absurd pk_uLs hne)
        refine pn_goto (q := 1417) dL_law_592 (by decide) ?_
        exact pn_bud (pn_take 5 (kk _ _ _ _ bc' bs' l1)) (by omega) (by omega)
      · cases e1
  · refine pn_istore (q := 558) dL_law_556 rfl (by decide) ?_
    refine pn_aload_n (q := 559) dL_law_558 rfl rfl rfl ?_
    refine lw_Y (av := []) (bc9 := bc + 1 + E - mx - my) (bs9 := bs + 6 + F - sx - sy) (q := 562) lkL_111 dL_law_559 rfl hy rfl wx' wy rfl rfl rfl rfl rfl (by omega) (by omega) (by omega) (Nat.le_of_ble_eq_true rfl) (fun r h' hq => ?_) (fun v hY' hq2 wy' => ?_)
    · obtain ⟨t', bc', bs', l1, -, -, ⟨v', -, -, e2, e3⟩ | ⟨E8, v', -, e2, -, -, -, e3⟩⟩ := hall _ _ hq1 r h' hq
      · exact ⟨(LIw_W l1).2, v', e2, Or.inl e3⟩
      · exact ⟨(LIw_W l1).2, v', e2, Or.inl e3⟩
    · obtain ⟨t', bc', bs', l1, c1, c2, dis⟩ := hall _ _ hq1 _ _ hq2
      rcases dis with ⟨v', e1, -⟩ | ⟨E8, v', e1, e2, e3, e5, e6, y, rfl⟩
      · cases e1
      · cases e1
        cases e2
        refine pn_istore (q := 564) dL_law_562 rfl (by decide) ?_
        refine pn_aload_n (q := 565) dL_law_564 rfl rfl rfl ?_
        refine lw_Y (av := []) (bc9 := bc + 1 + E - mx - my) (bs9 := bs + 6 + F - sx - sy) (q := 568) lkL_86 dL_law_565 rfl (lt_thr adK l1) rfl wx' wy' rfl rfl rfl rfl rfl (by omega) (by omega) (by omega) (Nat.le_of_ble_eq_true rfl) (fun r h' hq => ⟨by rw [hq.2]; exact wy', _, hq.1, Or.inl ⟨_, rfl⟩⟩) (fun v3 hY3 hq3 wy3 => ?_)
        obtain ⟨q1, q2⟩ := hq3
        subst q2
        cases q1
        refine pn_iload (q := 570) dL_law_568 rfl rfl ?_
        refine pn_icmp_eq (q := 573) (tgt := 575) dL_law_570 (by decide) rfl (fun _ => ?_) (fun hne => absurd (by rw [e3]) hne)
        refine pn_iload (q := 577) dL_law_575 rfl rfl ?_
        refine pn_if_ne (q := 580) (tgt := 592) dL_law_577 (by decide) rfl (fun _ => ?_) (fun hne => absurd hne (cd_nz (by omega) (by omega)))
        refine pn_goto (q := 1417) dL_law_592 (by decide) ?_
        exact pn_bud (pn_take 5 (kk _ _ _ _ bc' bs' l1)) (by omega) (by omega)
theorem lq_undo (adK : Nat → Nat) {hX hY : List pnE} {t bc bs : Nat} (hL : LIw hX hY t bc bs) : STQ mX6_undo mX7_undo adK 100 100 [] hX hY bc bs okI := by
  obtain ⟨b, tp, fp, N, A, Q, C, W, Z, ask, rf, Y, P, a, b1, c, e, f, g, h, e1, e2, hI, e3, h1, h2⟩ := hL
  rw [e1, e2]
  exact stq_mono (st_undo adK b tp fp N A Q C W Z ask rf Y P a b1 c e f g h hI) h1 h2
set_option maxRecDepth 100000 in
set_option maxHeartbeats 4000000 in
theorem lc_undo {adK : Nat → Nat} {hX hY : List pnE} {o : Nat → Int64} {i t bc bs E F : Nat} (hn : adK 2001 ≤ 3072) (hi : i + 6 ≤ adK 2001) (hL : LIw hX hY t bc bs) (kk : LK adK i E F) : pnWP mL_law adK 104 QL (bc + 1 + E) (bs + 6 + F) (HW hX hY o) (LL adK i) [] 595 := by
  obtain ⟨wx, wy⟩ := LIw_W hL
  obtain ⟨Qx, Qy, mx, sx, my, sy, hx, hy, b1, b2, ⟨r0, hY0, hq0⟩, hall⟩ := lq_undo adK hL
  have fx : ∀ r h', Qx r h' → WX h' ∧ ∃ v, r = .inl (some v) ∧ okI v := fun r h' hq => by
    obtain ⟨t', bc', bs', l1, -, -, v, e1, -, e2⟩ := hall r h' hq r0 hY0 hq0
    exact ⟨(LIw_W l1).1, v, e1, e2⟩
  refine pn_aload_n (q := 596) dL_law_595 rfl rfl rfl ?_
  refine lw_X (av := []) (bc9 := bc + 1 + E - mx) (bs9 := bs + 6 + F - sx) (q := 599) lkL_112 dL_law_596 rfl hx rfl wx wy rfl rfl rfl rfl rfl (by omega) (by omega) (by omega) (Nat.le_of_ble_eq_true rfl) (fun r h' hq => lw_fI (fx r h' hq)) (fun v hX' hq1 wx' => ?_)
  obtain ⟨x, rfl⟩ := lw_oI (fx _ _ hq1)
  refine pn_aload_n (q := 600) dL_law_599 rfl rfl rfl ?_
  refine lw_Y (av := []) (bc9 := bc + 1 + E - mx - my) (bs9 := bs + 6 + F - sx - sy) (q := 603) lkL_115 dL_law_600 rfl hy rfl wx' wy rfl rfl rfl rfl rfl (by omega) (by omega) (by omega) (Nat.le_of_ble_eq_true rfl) (fun r h' hq => ?_) (fun v hY' hq2 wy' => ?_)
  · obtain ⟨t', bc', bs', l1, -, -, v', e1, e2, e3⟩ := hall _ _ hq1 r h' hq
    exact ⟨(LIw_W l1).2, v', e2, Or.inl e3⟩
  · obtain ⟨t', bc', bs', l1, c1, c2, v', e1, e2, e3⟩ := hall _ _ hq1 _ _ hq2
    cases e1
    cases e2
    refine pn_icmp_eq (q := 606) (tgt := 1417) dL_law_603 (by decide) rfl (fun _ => ?_) (fun hne => absurd rfl hne)
    exact pn_bud (kk _ _ _ _ bc' bs' l1) (by omega) (by omega)
theorem lq_told (adK : Nat → Nat) {hX hY : List pnE} {t bc bs : Nat} (hL : LIw hX hY t bc bs) (x1 : Int32) : STP mX6_told mX7_told adK 100 100 [.int x1] hX hY bc bs (cd1 "java/lang/IllegalArgumentException") okI := by
  obtain ⟨b, tp, fp, N, A, Q, C, W, Z, ask, rf, Y, P, a, b1, c, e, f, g, h, e1, e2, hI, e3, h1, h2⟩ := hL
  rw [e1, e2]
  exact stp_mono (st_told adK x1 b tp fp N A Q C W Z ask rf Y P a b1 c e f g h hI) h1 h2
set_option maxRecDepth 100000 in
set_option maxHeartbeats 4000000 in
theorem lc_told {adK : Nat → Nat} {hX hY : List pnE} {o : Nat → Int64} {i t bc bs E F : Nat} (hn : adK 2001 ≤ 3072) (hi : i + 6 ≤ adK 2001) (hL : LIw hX hY t bc bs) (kk : LK adK i E F) : pnWP mL_law adK 104 QL (bc + 1 + E) (bs + 6 + F) (HW hX hY o) (LL adK i) [] 608 := by
  obtain ⟨wx, wy⟩ := LIw_W hL
  obtain ⟨Qx, Qy, mx, sx, my, sy, hx, hy, b1, b2, ⟨r0, hY0, hq0⟩, hall⟩ := lq_told adK hL (nI (adK (3000 + (i + 1))))
  have fx : ∀ r h', Qx r h' → WX h' ∧ ((∃ v, r = .inl (some v) ∧ okI v) ∨ ∃ E, r = .inr E ∧ (E = "java/lang/IllegalArgumentException")) := fun r h' hq => by
    obtain ⟨t', bc', bs', l1, -, -, ⟨v, e1, -, -, e2⟩ | ⟨E9, v, e1, -, e2, e3, -, -⟩⟩ := hall r h' hq r0 hY0 hq0
    · exact ⟨(LIw_W l1).1, Or.inl ⟨v, e1, e2⟩⟩
    · exact ⟨(LIw_W l1).1, Or.inr ⟨E9, e1, cd1_p (by omega)⟩⟩
  refine pn_aload_n (q := 609) dL_law_608 rfl rfl rfl ?_
  refine pn_aload_n (q := 610) dL_law_609 rfl rfl rfl ?_
  refine pn_iload (q := 612) dL_law_610 rfl rfl ?_
  refine pn_iconst (q := 613) (v := nI 1) dL_law_612 rfl (by decide) ?_
  first | with_reducible refine pn_iaddN (q := 614) dL_law_613 rfl ?_ | refine pn_iadd (q := 614) dL_law_613 rfl ?_
  refine pn_sld (q := 615) dL_law_614 rfl (by omega) hn ?_
  refine pn_aload_n (q := 616) dL_law_615 rfl rfl rfl ?_
  refine lw_H (av := [.int (nI (adK (3000 + (i + 1))))]) (bc9 := bc + 1 + E - mx) (bs9 := bs + 6 + F - sx) (q := 619) lkH_told dL_law_616 rfl (hl_told _ hx wx fx) wx wy rfl rfl rfl rfl (by omega) (by omega) (by omega) (fun v hX' hq1 wx' => ?_) (fun E9 hX' hq1 wx' => ?_)
  · obtain ⟨x, rfl⟩ := hl_oI (fx _ _ hq1)
    refine pn_istore (q := 621) dL_law_619 rfl (by decide) ?_
    refine pn_aload_n (q := 622) dL_law_621 rfl rfl rfl ?_
    refine pn_aload_n (q := 623) dL_law_622 rfl rfl rfl ?_
    refine pn_iload (q := 625) dL_law_623 rfl rfl ?_
    refine pn_iconst (q := 626) (v := nI 1) dL_law_625 rfl (by decide) ?_
    first | with_reducible refine pn_iaddN (q := 627) dL_law_626 rfl ?_ | refine pn_iadd (q := 627) dL_law_626 rfl ?_
    refine pn_sld (q := 628) dL_law_627 rfl (by omega) hn ?_
    refine lw_Y (av := [.int (nI (adK (3000 + (i + 1))))]) (bc9 := bc + 1 + E - mx - my) (bs9 := bs + 6 + F - sx - sy) (q := 631) lkL_118 dL_law_628 rfl hy rfl wx' wy rfl rfl rfl rfl rfl (by omega) (by omega) (by omega) (Nat.le_of_ble_eq_true rfl) (fun r h' hq => ?_) (fun v hY' hq2 wy' => ?_)
    · obtain ⟨t', bc', bs', l1, -, -, ⟨v', -, -, e2, e3⟩ | ⟨E8, v', -, e2, -, -, -, e3⟩⟩ := hall _ _ hq1 r h' hq
      · exact ⟨(LIw_W l1).2, v', e2, Or.inl e3⟩
      · exact ⟨(LIw_W l1).2, v', e2, Or.inl e3⟩
    · obtain ⟨t', bc', bs', l1, c1, c2, dis⟩ := hall _ _ hq1 _ _ hq2
      rcases dis with ⟨v', e1, e2, e3, e4⟩ | ⟨E8, v', e1, -⟩
      · cases e1
        cases e3
        subst e2
        refine pn_istore (q := 633) dL_law_631 rfl (by decide) ?_
        refine pn_aload_n (q := 634) dL_law_633 rfl rfl rfl ?_
        refine lw_Y (av := []) (bc9 := bc + 1 + E - mx - my) (bs9 := bs + 6 + F - sx - sy) (q := 637) lkL_86 dL_law_634 rfl (lt_thr adK l1) rfl wx' wy' rfl rfl rfl rfl rfl (by omega) (by omega) (by omega) (Nat.le_of_ble_eq_true rfl) (fun r h' hq => ⟨by rw [hq.2]; exact wy', _, hq.1, Or.inl ⟨_, rfl⟩⟩) (fun v3 hY3 hq3 wy3 => ?_)
        obtain ⟨q1, q2⟩ := hq3
        subst q2
        cases q1
        refine pn_iload (q := 639) dL_law_637 rfl rfl ?_
        refine pn_icmp_eq (q := 642) (tgt := 644) dL_law_639 (by decide) rfl (fun _ => ?_) (fun hne => absurd rfl hne)
        refine pn_iload (q := 646) dL_law_644 rfl rfl ?_
        refine pn_if_ne (q := 649) (tgt := 661) dL_law_646 (by decide) rfl (fun hne => absurd rfl hne) (fun _ => ?_)
        refine pn_aload_n (q := 650) dL_law_649 rfl rfl rfl ?_
        refine pn_iconst (q := 651) (v := nI 0) dL_law_650 rfl (by decide) ?_
        refine pn_lald1 (q := 652) (j := 0) dL_law_651 rfl (HW_84 wx' wy') rfl (by decide) (by decide) ?_
        refine pn_iload (q := 654) dL_law_652 rfl rfl ?_
        refine pn_i2l (q := 655) dL_law_654 rfl ?_
        refine pn_leq (q1 := 656) (q := 659) (tgt := 661) dL_law_655 rfl dL_law_656 (by decide) rfl (fun _ => ?_) (fun hne => absurd pk_uLs hne)
        refine pn_goto (q := 1417) dL_law_661 (by decide) ?_
        exact pn_bud (pn_take 5 (kk _ _ _ _ bc' bs' l1)) (by omega) (by omega)
      · cases e1
  · refine pn_istore (q := 621) dL_law_619 rfl (by decide) ?_
    refine pn_aload_n (q := 622) dL_law_621 rfl rfl rfl ?_
    refine pn_aload_n (q := 623) dL_law_622 rfl rfl rfl ?_
    refine pn_iload (q := 625) dL_law_623 rfl rfl ?_
    refine pn_iconst (q := 626) (v := nI 1) dL_law_625 rfl (by decide) ?_
    first | with_reducible refine pn_iaddN (q := 627) dL_law_626 rfl ?_ | refine pn_iadd (q := 627) dL_law_626 rfl ?_
    refine pn_sld (q := 628) dL_law_627 rfl (by omega) hn ?_
    refine lw_Y (av := [.int (nI (adK (3000 + (i + 1))))]) (bc9 := bc + 1 + E - mx - my) (bs9 := bs + 6 + F - sx - sy) (q := 631) lkL_118 dL_law_628 rfl hy rfl wx' wy rfl rfl rfl rfl rfl (by omega) (by omega) (by omega) (Nat.le_of_ble_eq_true rfl) (fun r h' hq => ?_) (fun v hY' hq2 wy' => ?_)
    · obtain ⟨t', bc', bs', l1, -, -, ⟨v', -, -, e2, e3⟩ | ⟨E8, v', -, e2, -, -, -, e3⟩⟩ := hall _ _ hq1 r h' hq
      · exact ⟨(LIw_W l1).2, v', e2, Or.inl e3⟩
      · exact ⟨(LIw_W l1).2, v', e2, Or.inl e3⟩
    · obtain ⟨t', bc', bs', l1, c1, c2, dis⟩ := hall _ _ hq1 _ _ hq2
      rcases dis with ⟨v', e1, -⟩ | ⟨E8, v', e1, e2, e3, e5, e6, y, rfl⟩
      · cases e1
      · cases e1
        cases e2
        refine pn_istore (q := 633) dL_law_631 rfl (by decide) ?_
        refine pn_aload_n (q := 634) dL_law_633 rfl rfl rfl ?_
        refine lw_Y (av := []) (bc9 := bc + 1 + E - mx - my) (bs9 := bs + 6 + F - sx - sy) (q := 637) lkL_86 dL_law_634 rfl (lt_thr adK l1) rfl wx' wy' rfl rfl rfl rfl rfl (by omega) (by omega) (by omega) (Nat.le_of_ble_eq_true rfl) (fun r h' hq => ⟨by rw [hq.2]; exact wy', _, hq.1, Or.inl ⟨_, rfl⟩⟩) (fun v3 hY3 hq3 wy3 => ?_)
        obtain ⟨q1, q2⟩ := hq3
        subst q2
        cases q1
        refine pn_iload (q := 639) dL_law_637 rfl rfl ?_
        refine pn_icmp_eq (q := 642) (tgt := 644) dL_law_639 (by decide) rfl (fun _ => ?_) (fun hne => absurd (by rw [e3]) hne)
        refine pn_iload (q := 646) dL_law_644 rfl rfl ?_
        refine pn_if_ne (q := 649) (tgt := 661) dL_law_646 (by decide) rfl (fun _ => ?_) (fun hne => absurd hne (cd_nz (by omega) (by omega)))
        refine pn_goto (q := 1417) dL_law_661 (by decide) ?_
        exact pn_bud (pn_take 5 (kk _ _ _ _ bc' bs' l1)) (by omega) (by omega)
theorem lq_line (adK : Nat → Nat) {hX hY : List pnE} {t bc bs : Nat} (hL : LIw hX hY t bc bs) (x1 x2 x3 : Int32) : STP mX6_line mX7_line adK 100 100 [.int x1, .int x2, .int x3] hX hY bc bs (cd2 "java/util/NoSuchElementException" "java/lang/IllegalArgumentException") okI := by
  obtain ⟨b, tp, fp, N, A, Q, C, W, Z, ask, rf, Y, P, a, b1, c, e, f, g, h, e1, e2, hI, e3, h1, h2⟩ := hL
  rw [e1, e2]
  exact stp_mono (st_line adK x1 x2 x3 b tp fp N A Q C W Z ask rf Y P a b1 c e f g h hI) h1 h2
set_option maxRecDepth 100000 in
set_option maxHeartbeats 4000000 in
theorem lc_line {adK : Nat → Nat} {hX hY : List pnE} {o : Nat → Int64} {i t bc bs E F : Nat} (hn : adK 2001 ≤ 3072) (hi : i + 6 ≤ adK 2001) (hL : LIw hX hY t bc bs) (kk : LK adK i E F) : pnWP mL_law adK 104 QL (bc + 1 + E) (bs + 6 + F) (HW hX hY o) (LL adK i) [] 664 := by
  obtain ⟨wx, wy⟩ := LIw_W hL
  obtain ⟨Qx, Qy, mx, sx, my, sy, hx, hy, b1, b2, ⟨r0, hY0, hq0⟩, hall⟩ := lq_line adK hL (nI (adK (3000 + (i + 1)))) (nI (adK (3000 + (i + 2)))) (nI (adK (3000 + (i + 3))))
  have fx : ∀ r h', Qx r h' → WX h' ∧ ((∃ v, r = .inl (some v) ∧ okI v) ∨ ∃ E, r = .inr E ∧ (E = "java/util/NoSuchElementException" ∨ E = "java/lang/IllegalArgumentException")) := fun r h' hq => by
    obtain ⟨t', bc', bs', l1, -, -, ⟨v, e1, -, -, e2⟩ | ⟨E9, v, e1, -, e2, e3, -, -⟩⟩ := hall r h' hq r0 hY0 hq0
    · exact ⟨(LIw_W l1).1, Or.inl ⟨v, e1, e2⟩⟩
    · exact ⟨(LIw_W l1).1, Or.inr ⟨E9, e1, cd2_p (by omega)⟩⟩
  refine pn_aload_n (q := 665) dL_law_664 rfl rfl rfl ?_
  refine pn_aload_n (q := 666) dL_law_665 rfl rfl rfl ?_
  refine pn_iload (q := 668) dL_law_666 rfl rfl ?_
  refine pn_iconst (q := 669) (v := nI 1) dL_law_668 rfl (by decide) ?_
  first | with_reducible refine pn_iaddN (q := 670) dL_law_669 rfl ?_ | refine pn_iadd (q := 670) dL_law_669 rfl ?_
  refine pn_sld (q := 671) dL_law_670 rfl (by omega) hn ?_
  refine pn_aload_n (q := 672) dL_law_671 rfl rfl rfl ?_
  refine pn_iload (q := 674) dL_law_672 rfl rfl ?_
  refine pn_iconst (q := 675) (v := nI 2) dL_law_674 rfl (by decide) ?_
  first | with_reducible refine pn_iaddN (q := 676) dL_law_675 rfl ?_ | refine pn_iadd (q := 676) dL_law_675 rfl ?_
  refine pn_sld (q := 677) dL_law_676 rfl (by omega) hn ?_
  refine pn_aload_n (q := 678) dL_law_677 rfl rfl rfl ?_
  refine pn_iload (q := 680) dL_law_678 rfl rfl ?_
  refine pn_iconst (q := 681) (v := nI 3) dL_law_680 rfl (by decide) ?_
  first | with_reducible refine pn_iaddN (q := 682) dL_law_681 rfl ?_ | refine pn_iadd (q := 682) dL_law_681 rfl ?_
  refine pn_sld (q := 683) dL_law_682 rfl (by omega) hn ?_
  refine pn_aload_n (q := 684) dL_law_683 rfl rfl rfl ?_
  refine lw_H (av := [.int (nI (adK (3000 + (i + 1)))), .int (nI (adK (3000 + (i + 2)))), .int (nI (adK (3000 + (i + 3))))]) (bc9 := bc + 1 + E - mx) (bs9 := bs + 6 + F - sx) (q := 687) lkH_line dL_law_684 rfl (hl_line _ _ _ hx wx fx) wx wy rfl rfl rfl rfl (by omega) (by omega) (by omega) (fun v hX' hq1 wx' => ?_) (fun E9 hX' hq1 wx' => ?_)
  · obtain ⟨x, rfl⟩ := hl_oI (fx _ _ hq1)
    refine pn_istore (q := 689) dL_law_687 rfl (by decide) ?_
    refine pn_aload_n (q := 690) dL_law_689 rfl rfl rfl ?_
    refine pn_aload_n (q := 691) dL_law_690 rfl rfl rfl ?_
    refine pn_iload (q := 693) dL_law_691 rfl rfl ?_
    refine pn_iconst (q := 694) (v := nI 1) dL_law_693 rfl (by decide) ?_
    first | with_reducible refine pn_iaddN (q := 695) dL_law_694 rfl ?_ | refine pn_iadd (q := 695) dL_law_694 rfl ?_
    refine pn_sld (q := 696) dL_law_695 rfl (by omega) hn ?_
    refine pn_aload_n (q := 697) dL_law_696 rfl rfl rfl ?_
    refine pn_iload (q := 699) dL_law_697 rfl rfl ?_
    refine pn_iconst (q := 700) (v := nI 2) dL_law_699 rfl (by decide) ?_
    first | with_reducible refine pn_iaddN (q := 701) dL_law_700 rfl ?_ | refine pn_iadd (q := 701) dL_law_700 rfl ?_
    refine pn_sld (q := 702) dL_law_701 rfl (by omega) hn ?_
    refine pn_aload_n (q := 703) dL_law_702 rfl rfl rfl ?_
    refine pn_iload (q := 705) dL_law_703 rfl rfl ?_
    refine pn_iconst (q := 706) (v := nI 3) dL_law_705 rfl (by decide) ?_
    first | with_reducible refine pn_iaddN (q := 707) dL_law_706 rfl ?_ | refine pn_iadd (q := 707) dL_law_706 rfl ?_
    refine pn_sld (q := 708) dL_law_707 rfl (by omega) hn ?_
    refine lw_Y (av := [.int (nI (adK (3000 + (i + 1)))), .int (nI (adK (3000 + (i + 2)))), .int (nI (adK (3000 + (i + 3))))]) (bc9 := bc + 1 + E - mx - my) (bs9 := bs + 6 + F - sx - sy) (q := 711) lkL_121 dL_law_708 rfl hy rfl wx' wy rfl rfl rfl rfl rfl (by omega) (by omega) (by omega) (Nat.le_of_ble_eq_true rfl) (fun r h' hq => ?_) (fun v hY' hq2 wy' => ?_)
    · obtain ⟨t', bc', bs', l1, -, -, ⟨v', -, -, e2, e3⟩ | ⟨E8, v', -, e2, -, -, -, e3⟩⟩ := hall _ _ hq1 r h' hq
      · exact ⟨(LIw_W l1).2, v', e2, Or.inl e3⟩
      · exact ⟨(LIw_W l1).2, v', e2, Or.inl e3⟩
    · obtain ⟨t', bc', bs', l1, c1, c2, dis⟩ := hall _ _ hq1 _ _ hq2
      rcases dis with ⟨v', e1, e2, e3, e4⟩ | ⟨E8, v', e1, -⟩
      · cases e1
        cases e3
        subst e2
        refine pn_istore (q := 713) dL_law_711 rfl (by decide) ?_
        refine pn_aload_n (q := 714) dL_law_713 rfl rfl rfl ?_
        refine lw_Y (av := []) (bc9 := bc + 1 + E - mx - my) (bs9 := bs + 6 + F - sx - sy) (q := 717) lkL_86 dL_law_714 rfl (lt_thr adK l1) rfl wx' wy' rfl rfl rfl rfl rfl (by omega) (by omega) (by omega) (Nat.le_of_ble_eq_true rfl) (fun r h' hq => ⟨by rw [hq.2]; exact wy', _, hq.1, Or.inl ⟨_, rfl⟩⟩) (fun v3 hY3 hq3 wy3 => ?_)
        obtain ⟨q1, q2⟩ := hq3
        subst q2
        cases q1
        refine pn_iload (q := 719) dL_law_717 rfl rfl ?_
        refine pn_icmp_eq (q := 722) (tgt := 724) dL_law_719 (by decide) rfl (fun _ => ?_) (fun hne => absurd rfl hne)
        refine pn_iload (q := 726) dL_law_724 rfl rfl ?_
        refine pn_if_ne (q := 729) (tgt := 741) dL_law_726 (by decide) rfl (fun hne => absurd rfl hne) (fun _ => ?_)
        refine pn_aload_n (q := 730) dL_law_729 rfl rfl rfl ?_
        refine pn_iconst (q := 731) (v := nI 0) dL_law_730 rfl (by decide) ?_
        refine pn_lald1 (q := 732) (j := 0) dL_law_731 rfl (HW_84 wx' wy') rfl (by decide) (by decide) ?_
        refine pn_iload (q := 734) dL_law_732 rfl rfl ?_
        refine pn_i2l (q := 735) dL_law_734 rfl ?_
        refine pn_leq (q1 := 736) (q := 739) (tgt := 741) dL_law_735 rfl dL_law_736 (by decide) rfl (fun _ => ?_) (fun hne => absurd pk_uLs hne)
        refine pn_goto (q := 1417) dL_law_741 (by decide) ?_
        exact pn_bud (pn_take 5 (kk _ _ _ _ bc' bs' l1)) (by omega) (by omega)
      · cases e1
  · refine pn_istore (q := 689) dL_law_687 rfl (by decide) ?_
    refine pn_aload_n (q := 690) dL_law_689 rfl rfl rfl ?_
    refine pn_aload_n (q := 691) dL_law_690 rfl rfl rfl ?_
    refine pn_iload (q := 693) dL_law_691 rfl rfl ?_
    refine pn_iconst (q := 694) (v := nI 1) dL_law_693 rfl (by decide) ?_
    first | with_reducible refine pn_iaddN (q := 695) dL_law_694 rfl ?_ | refine pn_iadd (q := 695) dL_law_694 rfl ?_
    refine pn_sld (q := 696) dL_law_695 rfl (by omega) hn ?_
    refine pn_aload_n (q := 697) dL_law_696 rfl rfl rfl ?_
    refine pn_iload (q := 699) dL_law_697 rfl rfl ?_
    refine pn_iconst (q := 700) (v := nI 2) dL_law_699 rfl (by decide) ?_
    first | with_reducible refine pn_iaddN (q := 701) dL_law_700 rfl ?_ | refine pn_iadd (q := 701) dL_law_700 rfl ?_
    refine pn_sld (q := 702) dL_law_701 rfl (by omega) hn ?_
    refine pn_aload_n (q := 703) dL_law_702 rfl rfl rfl ?_
    refine pn_iload (q := 705) dL_law_703 rfl rfl ?_
    refine pn_iconst (q := 706) (v := nI 3) dL_law_705 rfl (by decide) ?_
    first | with_reducible refine pn_iaddN (q := 707) dL_law_706 rfl ?_ | refine pn_iadd (q := 707) dL_law_706 rfl ?_
    refine pn_sld (q := 708) dL_law_707 rfl (by omega) hn ?_
    refine lw_Y (av := [.int (nI (adK (3000 + (i + 1)))), .int (nI (adK (3000 + (i + 2)))), .int (nI (adK (3000 + (i + 3))))]) (bc9 := bc + 1 + E - mx - my) (bs9 := bs + 6 + F - sx - sy) (q := 711) lkL_121 dL_law_708 rfl hy rfl wx' wy rfl rfl rfl rfl rfl (by omega) (by omega) (by omega) (Nat.le_of_ble_eq_true rfl) (fun r h' hq => ?_) (fun v hY' hq2 wy' => ?_)
    · obtain ⟨t', bc', bs', l1, -, -, ⟨v', -, -, e2, e3⟩ | ⟨E8, v', -, e2, -, -, -, e3⟩⟩ := hall _ _ hq1 r h' hq
      · exact ⟨(LIw_W l1).2, v', e2, Or.inl e3⟩
      · exact ⟨(LIw_W l1).2, v', e2, Or.inl e3⟩
    · obtain ⟨t', bc', bs', l1, c1, c2, dis⟩ := hall _ _ hq1 _ _ hq2
      rcases dis with ⟨v', e1, -⟩ | ⟨E8, v', e1, e2, e3, e5, e6, y, rfl⟩
      · cases e1
      · cases e1
        cases e2
        refine pn_istore (q := 713) dL_law_711 rfl (by decide) ?_
        refine pn_aload_n (q := 714) dL_law_713 rfl rfl rfl ?_
        refine lw_Y (av := []) (bc9 := bc + 1 + E - mx - my) (bs9 := bs + 6 + F - sx - sy) (q := 717) lkL_86 dL_law_714 rfl (lt_thr adK l1) rfl wx' wy' rfl rfl rfl rfl rfl (by omega) (by omega) (by omega) (Nat.le_of_ble_eq_true rfl) (fun r h' hq => ⟨by rw [hq.2]; exact wy', _, hq.1, Or.inl ⟨_, rfl⟩⟩) (fun v3 hY3 hq3 wy3 => ?_)
        obtain ⟨q1, q2⟩ := hq3
        subst q2
        cases q1
        refine pn_iload (q := 719) dL_law_717 rfl rfl ?_
        refine pn_icmp_eq (q := 722) (tgt := 724) dL_law_719 (by decide) rfl (fun _ => ?_) (fun hne => absurd (by rw [e3]) hne)
        refine pn_iload (q := 726) dL_law_724 rfl rfl ?_
        refine pn_if_ne (q := 729) (tgt := 741) dL_law_726 (by decide) rfl (fun _ => ?_) (fun hne => absurd hne (cd_nz (by omega) (by omega)))
        refine pn_goto (q := 1417) dL_law_741 (by decide) ?_
        exact pn_bud (pn_take 5 (kk _ _ _ _ bc' bs' l1)) (by omega) (by omega)
theorem lq_node (adK : Nat → Nat) {hX hY : List pnE} {t bc bs : Nat} (hL : LIw hX hY t bc bs) (x1 x2 : Int32) : STP mX6_node mX7_node adK 100 100 [.int x1, .int x2] hX hY bc bs (cd2 "java/util/NoSuchElementException" "java/lang/IllegalArgumentException") okI := by
  obtain ⟨b, tp, fp, N, A, Q, C, W, Z, ask, rf, Y, P, a, b1, c, e, f, g, h, e1, e2, hI, e3, h1, h2⟩ := hL
  rw [e1, e2]
  exact stp_mono (st_node adK x1 x2 b tp fp N A Q C W Z ask rf Y P a b1 c e f g h hI) h1 h2
set_option maxRecDepth 100000 in
set_option maxHeartbeats 4000000 in
theorem lc_node {adK : Nat → Nat} {hX hY : List pnE} {o : Nat → Int64} {i t bc bs E F : Nat} (hn : adK 2001 ≤ 3072) (hi : i + 6 ≤ adK 2001) (hL : LIw hX hY t bc bs) (kk : LK adK i E F) : pnWP mL_law adK 104 QL (bc + 1 + E) (bs + 6 + F) (HW hX hY o) (LL adK i) [] 744 := by
  obtain ⟨wx, wy⟩ := LIw_W hL
  obtain ⟨Qx, Qy, mx, sx, my, sy, hx, hy, b1, b2, ⟨r0, hY0, hq0⟩, hall⟩ := lq_node adK hL (nI (adK (3000 + (i + 1)))) (nI (adK (3000 + (i + 2))))
  have fx : ∀ r h', Qx r h' → WX h' ∧ ((∃ v, r = .inl (some v) ∧ okI v) ∨ ∃ E, r = .inr E ∧ (E = "java/util/NoSuchElementException" ∨ E = "java/lang/IllegalArgumentException")) := fun r h' hq => by
    obtain ⟨t', bc', bs', l1, -, -, ⟨v, e1, -, -, e2⟩ | ⟨E9, v, e1, -, e2, e3, -, -⟩⟩ := hall r h' hq r0 hY0 hq0
    · exact ⟨(LIw_W l1).1, Or.inl ⟨v, e1, e2⟩⟩
    · exact ⟨(LIw_W l1).1, Or.inr ⟨E9, e1, cd2_p (by omega)⟩⟩
  refine pn_aload_n (q := 745) dL_law_744 rfl rfl rfl ?_
  refine pn_aload_n (q := 746) dL_law_745 rfl rfl rfl ?_
  refine pn_iload (q := 748) dL_law_746 rfl rfl ?_
  refine pn_iconst (q := 749) (v := nI 1) dL_law_748 rfl (by decide) ?_
  first | with_reducible refine pn_iaddN (q := 750) dL_law_749 rfl ?_ | refine pn_iadd (q := 750) dL_law_749 rfl ?_
  refine pn_sld (q := 751) dL_law_750 rfl (by omega) hn ?_
  refine pn_aload_n (q := 752) dL_law_751 rfl rfl rfl ?_
  refine pn_iload (q := 754) dL_law_752 rfl rfl ?_
  refine pn_iconst (q := 755) (v := nI 2) dL_law_754 rfl (by decide) ?_
  first | with_reducible refine pn_iaddN (q := 756) dL_law_755 rfl ?_ | refine pn_iadd (q := 756) dL_law_755 rfl ?_
  refine pn_sld (q := 757) dL_law_756 rfl (by omega) hn ?_
  refine pn_aload_n (q := 758) dL_law_757 rfl rfl rfl ?_
  refine lw_H (av := [.int (nI (adK (3000 + (i + 1)))), .int (nI (adK (3000 + (i + 2))))]) (bc9 := bc + 1 + E - mx) (bs9 := bs + 6 + F - sx) (q := 761) lkH_node dL_law_758 rfl (hl_node _ _ hx wx fx) wx wy rfl rfl rfl rfl (by omega) (by omega) (by omega) (fun v hX' hq1 wx' => ?_) (fun E9 hX' hq1 wx' => ?_)
  · obtain ⟨x, rfl⟩ := hl_oI (fx _ _ hq1)
    refine pn_istore (q := 763) dL_law_761 rfl (by decide) ?_
    refine pn_aload_n (q := 764) dL_law_763 rfl rfl rfl ?_
    refine pn_aload_n (q := 765) dL_law_764 rfl rfl rfl ?_
    refine pn_iload (q := 767) dL_law_765 rfl rfl ?_
    refine pn_iconst (q := 768) (v := nI 1) dL_law_767 rfl (by decide) ?_
    first | with_reducible refine pn_iaddN (q := 769) dL_law_768 rfl ?_ | refine pn_iadd (q := 769) dL_law_768 rfl ?_
    refine pn_sld (q := 770) dL_law_769 rfl (by omega) hn ?_
    refine pn_aload_n (q := 771) dL_law_770 rfl rfl rfl ?_
    refine pn_iload (q := 773) dL_law_771 rfl rfl ?_
    refine pn_iconst (q := 774) (v := nI 2) dL_law_773 rfl (by decide) ?_
    first | with_reducible refine pn_iaddN (q := 775) dL_law_774 rfl ?_ | refine pn_iadd (q := 775) dL_law_774 rfl ?_
    refine pn_sld (q := 776) dL_law_775 rfl (by omega) hn ?_
    refine lw_Y (av := [.int (nI (adK (3000 + (i + 1)))), .int (nI (adK (3000 + (i + 2))))]) (bc9 := bc + 1 + E - mx - my) (bs9 := bs + 6 + F - sx - sy) (q := 779) lkL_125 dL_law_776 rfl hy rfl wx' wy rfl rfl rfl rfl rfl (by omega) (by omega) (by omega) (Nat.le_of_ble_eq_true rfl) (fun r h' hq => ?_) (fun v hY' hq2 wy' => ?_)
    · obtain ⟨t', bc', bs', l1, -, -, ⟨v', -, -, e2, e3⟩ | ⟨E8, v', -, e2, -, -, -, e3⟩⟩ := hall _ _ hq1 r h' hq
      · exact ⟨(LIw_W l1).2, v', e2, Or.inl e3⟩
      · exact ⟨(LIw_W l1).2, v', e2, Or.inl e3⟩
    · obtain ⟨t', bc', bs', l1, c1, c2, dis⟩ := hall _ _ hq1 _ _ hq2
      rcases dis with ⟨v', e1, e2, e3, e4⟩ | ⟨E8, v', e1, -⟩
      · cases e1
        cases e3
        subst e2
        refine pn_istore (q := 781) dL_law_779 rfl (by decide) ?_
        refine pn_aload_n (q := 782) dL_law_781 rfl rfl rfl ?_
        refine lw_Y (av := []) (bc9 := bc + 1 + E - mx - my) (bs9 := bs + 6 + F - sx - sy) (q := 785) lkL_86 dL_law_782 rfl (lt_thr adK l1) rfl wx' wy' rfl rfl rfl rfl rfl (by omega) (by omega) (by omega) (Nat.le_of_ble_eq_true rfl) (fun r h' hq => ⟨by rw [hq.2]; exact wy', _, hq.1, Or.inl ⟨_, rfl⟩⟩) (fun v3 hY3 hq3 wy3 => ?_)
        obtain ⟨q1, q2⟩ := hq3
        subst q2
        cases q1
        refine pn_iload (q := 787) dL_law_785 rfl rfl ?_
        refine pn_icmp_eq (q := 790) (tgt := 792) dL_law_787 (by decide) rfl (fun _ => ?_) (fun hne => absurd rfl hne)
        refine pn_iload (q := 794) dL_law_792 rfl rfl ?_
        refine pn_if_ne (q := 797) (tgt := 809) dL_law_794 (by decide) rfl (fun hne => absurd rfl hne) (fun _ => ?_)
        refine pn_aload_n (q := 798) dL_law_797 rfl rfl rfl ?_
        refine pn_iconst (q := 799) (v := nI 0) dL_law_798 rfl (by decide) ?_
        refine pn_lald1 (q := 800) (j := 0) dL_law_799 rfl (HW_84 wx' wy') rfl (by decide) (by decide) ?_
        refine pn_iload (q := 802) dL_law_800 rfl rfl ?_
        refine pn_i2l (q := 803) dL_law_802 rfl ?_
        refine pn_leq (q1 := 804) (q := 807) (tgt := 809) dL_law_803 rfl dL_law_804 (by decide) rfl (fun _ => ?_) (fun hne => absurd pk_uLs hne)
        refine pn_goto (q := 1417) dL_law_809 (by decide) ?_
        exact pn_bud (pn_take 5 (kk _ _ _ _ bc' bs' l1)) (by omega) (by omega)
      · cases e1
  · refine pn_istore (q := 763) dL_law_761 rfl (by decide) ?_
    refine pn_aload_n (q := 764) dL_law_763 rfl rfl rfl ?_
    refine pn_aload_n (q := 765) dL_law_764 rfl rfl rfl ?_
    refine pn_iload (q := 767) dL_law_765 rfl rfl ?_
    refine pn_iconst (q := 768) (v := nI 1) dL_law_767 rfl (by decide) ?_
    first | with_reducible refine pn_iaddN (q := 769) dL_law_768 rfl ?_ | refine pn_iadd (q := 769) dL_law_768 rfl ?_
    refine pn_sld (q := 770) dL_law_769 rfl (by omega) hn ?_
    refine pn_aload_n (q := 771) dL_law_770 rfl rfl rfl ?_
    refine pn_iload (q := 773) dL_law_771 rfl rfl ?_
    refine pn_iconst (q := 774) (v := nI 2) dL_law_773 rfl (by decide) ?_
    first | with_reducible refine pn_iaddN (q := 775) dL_law_774 rfl ?_ | refine pn_iadd (q := 775) dL_law_774 rfl ?_
    refine pn_sld (q := 776) dL_law_775 rfl (by omega) hn ?_
    refine lw_Y (av := [.int (nI (adK (3000 + (i + 1)))), .int (nI (adK (3000 + (i + 2))))]) (bc9 := bc + 1 + E - mx - my) (bs9 := bs + 6 + F - sx - sy) (q := 779) lkL_125 dL_law_776 rfl hy rfl wx' wy rfl rfl rfl rfl rfl (by omega) (by omega) (by omega) (Nat.le_of_ble_eq_true rfl) (fun r h' hq => ?_) (fun v hY' hq2 wy' => ?_)
    · obtain ⟨t', bc', bs', l1, -, -, ⟨v', -, -, e2, e3⟩ | ⟨E8, v', -, e2, -, -, -, e3⟩⟩ := hall _ _ hq1 r h' hq
      · exact ⟨(LIw_W l1).2, v', e2, Or.inl e3⟩
      · exact ⟨(LIw_W l1).2, v', e2, Or.inl e3⟩
    · obtain ⟨t', bc', bs', l1, c1, c2, dis⟩ := hall _ _ hq1 _ _ hq2
      rcases dis with ⟨v', e1, -⟩ | ⟨E8, v', e1, e2, e3, e5, e6, y, rfl⟩
      · cases e1
      · cases e1
        cases e2
        refine pn_istore (q := 781) dL_law_779 rfl (by decide) ?_
        refine pn_aload_n (q := 782) dL_law_781 rfl rfl rfl ?_
        refine lw_Y (av := []) (bc9 := bc + 1 + E - mx - my) (bs9 := bs + 6 + F - sx - sy) (q := 785) lkL_86 dL_law_782 rfl (lt_thr adK l1) rfl wx' wy' rfl rfl rfl rfl rfl (by omega) (by omega) (by omega) (Nat.le_of_ble_eq_true rfl) (fun r h' hq => ⟨by rw [hq.2]; exact wy', _, hq.1, Or.inl ⟨_, rfl⟩⟩) (fun v3 hY3 hq3 wy3 => ?_)
        obtain ⟨q1, q2⟩ := hq3
        subst q2
        cases q1
        refine pn_iload (q := 787) dL_law_785 rfl rfl ?_
        refine pn_icmp_eq (q := 790) (tgt := 792) dL_law_787 (by decide) rfl (fun _ => ?_) (fun hne => absurd (by rw [e3]) hne)
        refine pn_iload (q := 794) dL_law_792 rfl rfl ?_
        refine pn_if_ne (q := 797) (tgt := 809) dL_law_794 (by decide) rfl (fun _ => ?_) (fun hne => absurd hne (cd_nz (by omega) (by omega)))
        refine pn_goto (q := 1417) dL_law_809 (by decide) ?_
        exact pn_bud (pn_take 5 (kk _ _ _ _ bc' bs' l1)) (by omega) (by omega)
theorem lq_part (adK : Nat → Nat) {hX hY : List pnE} {t bc bs : Nat} (hL : LIw hX hY t bc bs) (x1 x2 : Int32) : STP mX6_part mX7_part adK 100 100 [.int x1, .int x2] hX hY bc bs (cd1 "java/util/NoSuchElementException") okI := by
  obtain ⟨b, tp, fp, N, A, Q, C, W, Z, ask, rf, Y, P, a, b1, c, e, f, g, h, e1, e2, hI, e3, h1, h2⟩ := hL
  rw [e1, e2]
  exact stp_mono (st_part adK x1 x2 b tp fp N A Q C W Z ask rf Y P a b1 c e f g h hI) h1 h2
set_option maxRecDepth 100000 in
set_option maxHeartbeats 4000000 in
theorem lc_part {adK : Nat → Nat} {hX hY : List pnE} {o : Nat → Int64} {i t bc bs E F : Nat} (hn : adK 2001 ≤ 3072) (hi : i + 6 ≤ adK 2001) (hL : LIw hX hY t bc bs) (kk : LK adK i E F) : pnWP mL_law adK 104 QL (bc + 1 + E) (bs + 6 + F) (HW hX hY o) (LL adK i) [] 812 := by
  obtain ⟨wx, wy⟩ := LIw_W hL
  obtain ⟨Qx, Qy, mx, sx, my, sy, hx, hy, b1, b2, ⟨r0, hY0, hq0⟩, hall⟩ := lq_part adK hL (nI (adK (3000 + (i + 1)))) (nI (adK (3000 + (i + 2))))
  have fx : ∀ r h', Qx r h' → WX h' ∧ ((∃ v, r = .inl (some v) ∧ okI v) ∨ ∃ E, r = .inr E ∧ (E = "java/util/NoSuchElementException")) := fun r h' hq => by
    obtain ⟨t', bc', bs', l1, -, -, ⟨v, e1, -, -, e2⟩ | ⟨E9, v, e1, -, e2, e3, -, -⟩⟩ := hall r h' hq r0 hY0 hq0
    · exact ⟨(LIw_W l1).1, Or.inl ⟨v, e1, e2⟩⟩
    · exact ⟨(LIw_W l1).1, Or.inr ⟨E9, e1, cd1_p (by omega)⟩⟩
  refine pn_aload_n (q := 813) dL_law_812 rfl rfl rfl ?_
  refine pn_aload_n (q := 814) dL_law_813 rfl rfl rfl ?_
  refine pn_iload (q := 816) dL_law_814 rfl rfl ?_
  refine pn_iconst (q := 817) (v := nI 1) dL_law_816 rfl (by decide) ?_
  first | with_reducible refine pn_iaddN (q := 818) dL_law_817 rfl ?_ | refine pn_iadd (q := 818) dL_law_817 rfl ?_
  refine pn_sld (q := 819) dL_law_818 rfl (by omega) hn ?_
  refine pn_aload_n (q := 820) dL_law_819 rfl rfl rfl ?_
  refine pn_iload (q := 822) dL_law_820 rfl rfl ?_
  refine pn_iconst (q := 823) (v := nI 2) dL_law_822 rfl (by decide) ?_
  first | with_reducible refine pn_iaddN (q := 824) dL_law_823 rfl ?_ | refine pn_iadd (q := 824) dL_law_823 rfl ?_
  refine pn_sld (q := 825) dL_law_824 rfl (by omega) hn ?_
  refine pn_aload_n (q := 826) dL_law_825 rfl rfl rfl ?_
  refine lw_H (av := [.int (nI (adK (3000 + (i + 1)))), .int (nI (adK (3000 + (i + 2))))]) (bc9 := bc + 1 + E - mx) (bs9 := bs + 6 + F - sx) (q := 829) lkH_part dL_law_826 rfl (hl_part _ _ hx wx fx) wx wy rfl rfl rfl rfl (by omega) (by omega) (by omega) (fun v hX' hq1 wx' => ?_) (fun E9 hX' hq1 wx' => ?_)
  · obtain ⟨x, rfl⟩ := hl_oI (fx _ _ hq1)
    refine pn_istore (q := 831) dL_law_829 rfl (by decide) ?_
    refine pn_aload_n (q := 832) dL_law_831 rfl rfl rfl ?_
    refine pn_aload_n (q := 833) dL_law_832 rfl rfl rfl ?_
    refine pn_iload (q := 835) dL_law_833 rfl rfl ?_
    refine pn_iconst (q := 836) (v := nI 1) dL_law_835 rfl (by decide) ?_
    first | with_reducible refine pn_iaddN (q := 837) dL_law_836 rfl ?_ | refine pn_iadd (q := 837) dL_law_836 rfl ?_
    refine pn_sld (q := 838) dL_law_837 rfl (by omega) hn ?_
    refine pn_aload_n (q := 839) dL_law_838 rfl rfl rfl ?_
    refine pn_iload (q := 841) dL_law_839 rfl rfl ?_
    refine pn_iconst (q := 842) (v := nI 2) dL_law_841 rfl (by decide) ?_
    first | with_reducible refine pn_iaddN (q := 843) dL_law_842 rfl ?_ | refine pn_iadd (q := 843) dL_law_842 rfl ?_
    refine pn_sld (q := 844) dL_law_843 rfl (by omega) hn ?_
    refine lw_Y (av := [.int (nI (adK (3000 + (i + 1)))), .int (nI (adK (3000 + (i + 2))))]) (bc9 := bc + 1 + E - mx - my) (bs9 := bs + 6 + F - sx - sy) (q := 847) lkL_128 dL_law_844 rfl hy rfl wx' wy rfl rfl rfl rfl rfl (by omega) (by omega) (by omega) (Nat.le_of_ble_eq_true rfl) (fun r h' hq => ?_) (fun v hY' hq2 wy' => ?_)
    · obtain ⟨t', bc', bs', l1, -, -, ⟨v', -, -, e2, e3⟩ | ⟨E8, v', -, e2, -, -, -, e3⟩⟩ := hall _ _ hq1 r h' hq
      · exact ⟨(LIw_W l1).2, v', e2, Or.inl e3⟩
      · exact ⟨(LIw_W l1).2, v', e2, Or.inl e3⟩
    · obtain ⟨t', bc', bs', l1, c1, c2, dis⟩ := hall _ _ hq1 _ _ hq2
      rcases dis with ⟨v', e1, e2, e3, e4⟩ | ⟨E8, v', e1, -⟩
      · cases e1
        cases e3
        subst e2
        refine pn_istore (q := 849) dL_law_847 rfl (by decide) ?_
        refine pn_aload_n (q := 850) dL_law_849 rfl rfl rfl ?_
        refine lw_Y (av := []) (bc9 := bc + 1 + E - mx - my) (bs9 := bs + 6 + F - sx - sy) (q := 853) lkL_86 dL_law_850 rfl (lt_thr adK l1) rfl wx' wy' rfl rfl rfl rfl rfl (by omega) (by omega) (by omega) (Nat.le_of_ble_eq_true rfl) (fun r h' hq => ⟨by rw [hq.2]; exact wy', _, hq.1, Or.inl ⟨_, rfl⟩⟩) (fun v3 hY3 hq3 wy3 => ?_)
        obtain ⟨q1, q2⟩ := hq3
        subst q2
        cases q1
        refine pn_iload (q := 855) dL_law_853 rfl rfl ?_
        refine pn_icmp_eq (q := 858) (tgt := 860) dL_law_855 (by decide) rfl (fun _ => ?_) (fun hne => absurd rfl hne)
        refine pn_iload (q := 862) dL_law_860 rfl rfl ?_
        refine pn_if_ne (q := 865) (tgt := 877) dL_law_862 (by decide) rfl (fun hne => absurd rfl hne) (fun _ => ?_)
        refine pn_aload_n (q := 866) dL_law_865 rfl rfl rfl ?_
        refine pn_iconst (q := 867) (v := nI 0) dL_law_866 rfl (by decide) ?_
        refine pn_lald1 (q := 868) (j := 0) dL_law_867 rfl (HW_84 wx' wy') rfl (by decide) (by decide) ?_
        refine pn_iload (q := 870) dL_law_868 rfl rfl ?_
        refine pn_i2l (q := 871) dL_law_870 rfl ?_
        refine pn_leq (q1 := 872) (q := 875) (tgt := 877) dL_law_871 rfl dL_law_872 (by decide) rfl (fun _ => ?_) (fun hne => absurd pk_uLs hne)
        refine pn_goto (q := 1417) dL_law_877 (by decide) ?_
        exact pn_bud (pn_take 5 (kk _ _ _ _ bc' bs' l1)) (by omega) (by omega)
      · cases e1
  · refine pn_istore (q := 831) dL_law_829 rfl (by decide) ?_
    refine pn_aload_n (q := 832) dL_law_831 rfl rfl rfl ?_
    refine pn_aload_n (q := 833) dL_law_832 rfl rfl rfl ?_
    refine pn_iload (q := 835) dL_law_833 rfl rfl ?_
    refine pn_iconst (q := 836) (v := nI 1) dL_law_835 rfl (by decide) ?_
    first | with_reducible refine pn_iaddN (q := 837) dL_law_836 rfl ?_ | refine pn_iadd (q := 837) dL_law_836 rfl ?_
    refine pn_sld (q := 838) dL_law_837 rfl (by omega) hn ?_
    refine pn_aload_n (q := 839) dL_law_838 rfl rfl rfl ?_
    refine pn_iload (q := 841) dL_law_839 rfl rfl ?_
    refine pn_iconst (q := 842) (v := nI 2) dL_law_841 rfl (by decide) ?_
    first | with_reducible refine pn_iaddN (q := 843) dL_law_842 rfl ?_ | refine pn_iadd (q := 843) dL_law_842 rfl ?_
    refine pn_sld (q := 844) dL_law_843 rfl (by omega) hn ?_
    refine lw_Y (av := [.int (nI (adK (3000 + (i + 1)))), .int (nI (adK (3000 + (i + 2))))]) (bc9 := bc + 1 + E - mx - my) (bs9 := bs + 6 + F - sx - sy) (q := 847) lkL_128 dL_law_844 rfl hy rfl wx' wy rfl rfl rfl rfl rfl (by omega) (by omega) (by omega) (Nat.le_of_ble_eq_true rfl) (fun r h' hq => ?_) (fun v hY' hq2 wy' => ?_)
    · obtain ⟨t', bc', bs', l1, -, -, ⟨v', -, -, e2, e3⟩ | ⟨E8, v', -, e2, -, -, -, e3⟩⟩ := hall _ _ hq1 r h' hq
      · exact ⟨(LIw_W l1).2, v', e2, Or.inl e3⟩
      · exact ⟨(LIw_W l1).2, v', e2, Or.inl e3⟩
    · obtain ⟨t', bc', bs', l1, c1, c2, dis⟩ := hall _ _ hq1 _ _ hq2
      rcases dis with ⟨v', e1, -⟩ | ⟨E8, v', e1, e2, e3, e5, e6, y, rfl⟩
      · cases e1
      · cases e1
        cases e2
        refine pn_istore (q := 849) dL_law_847 rfl (by decide) ?_
        refine pn_aload_n (q := 850) dL_law_849 rfl rfl rfl ?_
        refine lw_Y (av := []) (bc9 := bc + 1 + E - mx - my) (bs9 := bs + 6 + F - sx - sy) (q := 853) lkL_86 dL_law_850 rfl (lt_thr adK l1) rfl wx' wy' rfl rfl rfl rfl rfl (by omega) (by omega) (by omega) (Nat.le_of_ble_eq_true rfl) (fun r h' hq => ⟨by rw [hq.2]; exact wy', _, hq.1, Or.inl ⟨_, rfl⟩⟩) (fun v3 hY3 hq3 wy3 => ?_)
        obtain ⟨q1, q2⟩ := hq3
        subst q2
        cases q1
        refine pn_iload (q := 855) dL_law_853 rfl rfl ?_
        refine pn_icmp_eq (q := 858) (tgt := 860) dL_law_855 (by decide) rfl (fun _ => ?_) (fun hne => absurd (by rw [e3]) hne)
        refine pn_iload (q := 862) dL_law_860 rfl rfl ?_
        refine pn_if_ne (q := 865) (tgt := 877) dL_law_862 (by decide) rfl (fun _ => ?_) (fun hne => absurd hne (cd_nz (by omega) (by omega)))
        refine pn_goto (q := 1417) dL_law_877 (by decide) ?_
        exact pn_bud (pn_take 5 (kk _ _ _ _ bc' bs' l1)) (by omega) (by omega)
theorem lq_left (adK : Nat → Nat) {hX hY : List pnE} {t bc bs : Nat} (hL : LIw hX hY t bc bs) : STQ mX6_left mX7_left adK 100 100 [] hX hY bc bs okL := by
  obtain ⟨b, tp, fp, N, A, Q, C, W, Z, ask, rf, Y, P, a, b1, c, e, f, g, h, e1, e2, hI, e3, h1, h2⟩ := hL
  rw [e1, e2]
  exact stq_mono (st_left adK b tp fp N A Q C W Z ask rf Y P a b1 c e f g h hI) h1 h2
set_option maxRecDepth 100000 in
set_option maxHeartbeats 4000000 in
theorem lc_left {adK : Nat → Nat} {hX hY : List pnE} {o : Nat → Int64} {i t bc bs E F : Nat} (hn : adK 2001 ≤ 3072) (hi : i + 6 ≤ adK 2001) (hL : LIw hX hY t bc bs) (kk : LK adK i E F) : pnWP mL_law adK 104 QL (bc + 1 + E) (bs + 6 + F) (HW hX hY o) (LL adK i) [] 880 := by
  obtain ⟨wx, wy⟩ := LIw_W hL
  obtain ⟨Qx, Qy, mx, sx, my, sy, hx, hy, b1, b2, ⟨r0, hY0, hq0⟩, hall⟩ := lq_left adK hL
  have fx : ∀ r h', Qx r h' → WX h' ∧ ∃ v, r = .inl (some v) ∧ okL v := fun r h' hq => by
    obtain ⟨t', bc', bs', l1, -, -, v, e1, -, e2⟩ := hall r h' hq r0 hY0 hq0
    exact ⟨(LIw_W l1).1, v, e1, e2⟩
  refine pn_aload_n (q := 881) dL_law_880 rfl rfl rfl ?_
  refine lw_X (av := []) (bc9 := bc + 1 + E - mx) (bs9 := bs + 6 + F - sx) (q := 884) lkL_129 dL_law_881 rfl hx rfl wx wy rfl rfl rfl rfl rfl (by omega) (by omega) (by omega) (Nat.le_of_ble_eq_true rfl) (fun r h' hq => lw_fL (fx r h' hq)) (fun v hX' hq1 wx' => ?_)
  obtain ⟨x, rfl⟩ := lw_oL (fx _ _ hq1)
  refine pn_aload_n (q := 885) dL_law_884 rfl rfl rfl ?_
  refine lw_Y (av := []) (bc9 := bc + 1 + E - mx - my) (bs9 := bs + 6 + F - sx - sy) (q := 888) lkL_133 dL_law_885 rfl hy rfl wx' wy rfl rfl rfl rfl rfl (by omega) (by omega) (by omega) (Nat.le_of_ble_eq_true rfl) (fun r h' hq => ?_) (fun v hY' hq2 wy' => ?_)
  · obtain ⟨t', bc', bs', l1, -, -, v', e1, e2, e3⟩ := hall _ _ hq1 r h' hq
    exact ⟨(LIw_W l1).2, v', e2, Or.inr e3⟩
  · obtain ⟨t', bc', bs', l1, c1, c2, v', e1, e2, e3⟩ := hall _ _ hq1 _ _ hq2
    cases e1
    cases e2
    refine pn_leq (q1 := 889) (q := 892) (tgt := 1417) dL_law_888 rfl dL_law_889 (by decide) rfl (fun _ => ?_) (fun hne => absurd rfl hne)
    exact pn_bud (kk _ _ _ _ bc' bs' l1) (by omega) (by omega)
theorem lq_parts (adK : Nat → Nat) {hX hY : List pnE} {t bc bs : Nat} (hL : LIw hX hY t bc bs) (x1 : Int32) : STP mX6_parts mX7_parts adK 100 100 [.int x1] hX hY bc bs (cd1 "java/lang/IllegalArgumentException") okI := by
  obtain ⟨b, tp, fp, N, A, Q, C, W, Z, ask, rf, Y, P, a, b1, c, e, f, g, h, e1, e2, hI, e3, h1, h2⟩ := hL
  rw [e1, e2]
  exact stp_mono (st_parts adK x1 b tp fp N A Q C W Z ask rf Y P a b1 c e f g h hI) h1 h2
set_option maxRecDepth 100000 in
set_option maxHeartbeats 4000000 in
theorem lc_parts {adK : Nat → Nat} {hX hY : List pnE} {o : Nat → Int64} {i t bc bs E F : Nat} (hn : adK 2001 ≤ 3072) (hi : i + 6 ≤ adK 2001) (hL : LIw hX hY t bc bs) (kk : LK adK i E F) : pnWP mL_law adK 104 QL (bc + 1 + E) (bs + 6 + F) (HW hX hY o) (LL adK i) [] 894 := by
  obtain ⟨wx, wy⟩ := LIw_W hL
  obtain ⟨Qx, Qy, mx, sx, my, sy, hx, hy, b1, b2, ⟨r0, hY0, hq0⟩, hall⟩ := lq_parts adK hL (nI (adK (3000 + (i + 1))))
  have fx : ∀ r h', Qx r h' → WX h' ∧ ((∃ v, r = .inl (some v) ∧ okI v) ∨ ∃ E, r = .inr E ∧ (E = "java/lang/IllegalArgumentException")) := fun r h' hq => by
    obtain ⟨t', bc', bs', l1, -, -, ⟨v, e1, -, -, e2⟩ | ⟨E9, v, e1, -, e2, e3, -, -⟩⟩ := hall r h' hq r0 hY0 hq0
    · exact ⟨(LIw_W l1).1, Or.inl ⟨v, e1, e2⟩⟩
    · exact ⟨(LIw_W l1).1, Or.inr ⟨E9, e1, cd1_p (by omega)⟩⟩
  refine pn_aload_n (q := 895) dL_law_894 rfl rfl rfl ?_
  refine pn_aload_n (q := 896) dL_law_895 rfl rfl rfl ?_
  refine pn_iload (q := 898) dL_law_896 rfl rfl ?_
  refine pn_iconst (q := 899) (v := nI 1) dL_law_898 rfl (by decide) ?_
  first | with_reducible refine pn_iaddN (q := 900) dL_law_899 rfl ?_ | refine pn_iadd (q := 900) dL_law_899 rfl ?_
  refine pn_sld (q := 901) dL_law_900 rfl (by omega) hn ?_
  refine pn_aload_n (q := 902) dL_law_901 rfl rfl rfl ?_
  refine lw_H (av := [.int (nI (adK (3000 + (i + 1))))]) (bc9 := bc + 1 + E - mx) (bs9 := bs + 6 + F - sx) (q := 905) lkH_parts dL_law_902 rfl (hl_parts _ hx wx fx) wx wy rfl rfl rfl rfl (by omega) (by omega) (by omega) (fun v hX' hq1 wx' => ?_) (fun E9 hX' hq1 wx' => ?_)
  · obtain ⟨x, rfl⟩ := hl_oI (fx _ _ hq1)
    refine pn_istore (q := 907) dL_law_905 rfl (by decide) ?_
    refine pn_aload_n (q := 908) dL_law_907 rfl rfl rfl ?_
    refine pn_aload_n (q := 909) dL_law_908 rfl rfl rfl ?_
    refine pn_iload (q := 911) dL_law_909 rfl rfl ?_
    refine pn_iconst (q := 912) (v := nI 1) dL_law_911 rfl (by decide) ?_
    first | with_reducible refine pn_iaddN (q := 913) dL_law_912 rfl ?_ | refine pn_iadd (q := 913) dL_law_912 rfl ?_
    refine pn_sld (q := 914) dL_law_913 rfl (by omega) hn ?_
    refine lw_Y (av := [.int (nI (adK (3000 + (i + 1))))]) (bc9 := bc + 1 + E - mx - my) (bs9 := bs + 6 + F - sx - sy) (q := 917) lkL_136 dL_law_914 rfl hy rfl wx' wy rfl rfl rfl rfl rfl (by omega) (by omega) (by omega) (Nat.le_of_ble_eq_true rfl) (fun r h' hq => ?_) (fun v hY' hq2 wy' => ?_)
    · obtain ⟨t', bc', bs', l1, -, -, ⟨v', -, -, e2, e3⟩ | ⟨E8, v', -, e2, -, -, -, e3⟩⟩ := hall _ _ hq1 r h' hq
      · exact ⟨(LIw_W l1).2, v', e2, Or.inl e3⟩
      · exact ⟨(LIw_W l1).2, v', e2, Or.inl e3⟩
    · obtain ⟨t', bc', bs', l1, c1, c2, dis⟩ := hall _ _ hq1 _ _ hq2
      rcases dis with ⟨v', e1, e2, e3, e4⟩ | ⟨E8, v', e1, -⟩
      · cases e1
        cases e3
        subst e2
        refine pn_istore (q := 919) dL_law_917 rfl (by decide) ?_
        refine pn_aload_n (q := 920) dL_law_919 rfl rfl rfl ?_
        refine lw_Y (av := []) (bc9 := bc + 1 + E - mx - my) (bs9 := bs + 6 + F - sx - sy) (q := 923) lkL_86 dL_law_920 rfl (lt_thr adK l1) rfl wx' wy' rfl rfl rfl rfl rfl (by omega) (by omega) (by omega) (Nat.le_of_ble_eq_true rfl) (fun r h' hq => ⟨by rw [hq.2]; exact wy', _, hq.1, Or.inl ⟨_, rfl⟩⟩) (fun v3 hY3 hq3 wy3 => ?_)
        obtain ⟨q1, q2⟩ := hq3
        subst q2
        cases q1
        refine pn_iload (q := 925) dL_law_923 rfl rfl ?_
        refine pn_icmp_eq (q := 928) (tgt := 930) dL_law_925 (by decide) rfl (fun _ => ?_) (fun hne => absurd rfl hne)
        refine pn_iload (q := 932) dL_law_930 rfl rfl ?_
        refine pn_if_ne (q := 935) (tgt := 947) dL_law_932 (by decide) rfl (fun hne => absurd rfl hne) (fun _ => ?_)
        refine pn_aload_n (q := 936) dL_law_935 rfl rfl rfl ?_
        refine pn_iconst (q := 937) (v := nI 0) dL_law_936 rfl (by decide) ?_
        refine pn_lald1 (q := 938) (j := 0) dL_law_937 rfl (HW_84 wx' wy') rfl (by decide) (by decide) ?_
        refine pn_iload (q := 940) dL_law_938 rfl rfl ?_
        refine pn_i2l (q := 941) dL_law_940 rfl ?_
        refine pn_leq (q1 := 942) (q := 945) (tgt := 947) dL_law_941 rfl dL_law_942 (by decide) rfl (fun _ => ?_) (fun hne => absurd pk_uLs hne)
        refine pn_goto (q := 1417) dL_law_947 (by decide) ?_
        exact pn_bud (pn_take 5 (kk _ _ _ _ bc' bs' l1)) (by omega) (by omega)
      · cases e1
  · refine pn_istore (q := 907) dL_law_905 rfl (by decide) ?_
    refine pn_aload_n (q := 908) dL_law_907 rfl rfl rfl ?_
    refine pn_aload_n (q := 909) dL_law_908 rfl rfl rfl ?_
    refine pn_iload (q := 911) dL_law_909 rfl rfl ?_
    refine pn_iconst (q := 912) (v := nI 1) dL_law_911 rfl (by decide) ?_
    first | with_reducible refine pn_iaddN (q := 913) dL_law_912 rfl ?_ | refine pn_iadd (q := 913) dL_law_912 rfl ?_
    refine pn_sld (q := 914) dL_law_913 rfl (by omega) hn ?_
    refine lw_Y (av := [.int (nI (adK (3000 + (i + 1))))]) (bc9 := bc + 1 + E - mx - my) (bs9 := bs + 6 + F - sx - sy) (q := 917) lkL_136 dL_law_914 rfl hy rfl wx' wy rfl rfl rfl rfl rfl (by omega) (by omega) (by omega) (Nat.le_of_ble_eq_true rfl) (fun r h' hq => ?_) (fun v hY' hq2 wy' => ?_)
    · obtain ⟨t', bc', bs', l1, -, -, ⟨v', -, -, e2, e3⟩ | ⟨E8, v', -, e2, -, -, -, e3⟩⟩ := hall _ _ hq1 r h' hq
      · exact ⟨(LIw_W l1).2, v', e2, Or.inl e3⟩
      · exact ⟨(LIw_W l1).2, v', e2, Or.inl e3⟩
    · obtain ⟨t', bc', bs', l1, c1, c2, dis⟩ := hall _ _ hq1 _ _ hq2
      rcases dis with ⟨v', e1, -⟩ | ⟨E8, v', e1, e2, e3, e5, e6, y, rfl⟩
      · cases e1
      · cases e1
        cases e2
        refine pn_istore (q := 919) dL_law_917 rfl (by decide) ?_
        refine pn_aload_n (q := 920) dL_law_919 rfl rfl rfl ?_
        refine lw_Y (av := []) (bc9 := bc + 1 + E - mx - my) (bs9 := bs + 6 + F - sx - sy) (q := 923) lkL_86 dL_law_920 rfl (lt_thr adK l1) rfl wx' wy' rfl rfl rfl rfl rfl (by omega) (by omega) (by omega) (Nat.le_of_ble_eq_true rfl) (fun r h' hq => ⟨by rw [hq.2]; exact wy', _, hq.1, Or.inl ⟨_, rfl⟩⟩) (fun v3 hY3 hq3 wy3 => ?_)
        obtain ⟨q1, q2⟩ := hq3
        subst q2
        cases q1
        refine pn_iload (q := 925) dL_law_923 rfl rfl ?_
        refine pn_icmp_eq (q := 928) (tgt := 930) dL_law_925 (by decide) rfl (fun _ => ?_) (fun hne => absurd (by rw [e3]) hne)
        refine pn_iload (q := 932) dL_law_930 rfl rfl ?_
        refine pn_if_ne (q := 935) (tgt := 947) dL_law_932 (by decide) rfl (fun _ => ?_) (fun hne => absurd hne (cd_nz (by omega) (by omega)))
        refine pn_goto (q := 1417) dL_law_947 (by decide) ?_
        exact pn_bud (pn_take 5 (kk _ _ _ _ bc' bs' l1)) (by omega) (by omega)
theorem lq_partAt (adK : Nat → Nat) {hX hY : List pnE} {t bc bs : Nat} (hL : LIw hX hY t bc bs) (x1 : Int32) : STP mX6_partAt mX7_partAt adK 100 100 [.int x1] hX hY bc bs (cd1 "java/util/NoSuchElementException") okL := by
  obtain ⟨b, tp, fp, N, A, Q, C, W, Z, ask, rf, Y, P, a, b1, c, e, f, g, h, e1, e2, hI, e3, h1, h2⟩ := hL
  rw [e1, e2]
  exact stp_mono (st_partAt adK x1 b tp fp N A Q C W Z ask rf Y P a b1 c e f g h hI) h1 h2
set_option maxRecDepth 100000 in
set_option maxHeartbeats 4000000 in
theorem lc_partAt {adK : Nat → Nat} {hX hY : List pnE} {o : Nat → Int64} {i t bc bs E F : Nat} (hn : adK 2001 ≤ 3072) (hi : i + 6 ≤ adK 2001) (hL : LIw hX hY t bc bs) (kk : LK adK i E F) : pnWP mL_law adK 104 QL (bc + 1 + E) (bs + 6 + F) (HW hX hY o) (LL adK i) [] 950 := by
  obtain ⟨wx, wy⟩ := LIw_W hL
  obtain ⟨Qx, Qy, mx, sx, my, sy, hx, hy, b1, b2, ⟨r0, hY0, hq0⟩, hall⟩ := lq_partAt adK hL (nI (adK (3000 + (i + 1))))
  have fx : ∀ r h', Qx r h' → WX h' ∧ ((∃ v, r = .inl (some v) ∧ okL v) ∨ ∃ E, r = .inr E ∧ (E = "java/util/NoSuchElementException")) := fun r h' hq => by
    obtain ⟨t', bc', bs', l1, -, -, ⟨v, e1, -, -, e2⟩ | ⟨E9, v, e1, -, e2, e3, -, -⟩⟩ := hall r h' hq r0 hY0 hq0
    · exact ⟨(LIw_W l1).1, Or.inl ⟨v, e1, e2⟩⟩
    · exact ⟨(LIw_W l1).1, Or.inr ⟨E9, e1, cd1_p (by omega)⟩⟩
  refine pn_aload_n (q := 951) dL_law_950 rfl rfl rfl ?_
  refine pn_aload_n (q := 952) dL_law_951 rfl rfl rfl ?_
  refine pn_iload (q := 954) dL_law_952 rfl rfl ?_
  refine pn_iconst (q := 955) (v := nI 1) dL_law_954 rfl (by decide) ?_
  first | with_reducible refine pn_iaddN (q := 956) dL_law_955 rfl ?_ | refine pn_iadd (q := 956) dL_law_955 rfl ?_
  refine pn_sld (q := 957) dL_law_956 rfl (by omega) hn ?_
  refine pn_aload_n (q := 958) dL_law_957 rfl rfl rfl ?_
  refine lw_H (av := [.int (nI (adK (3000 + (i + 1))))]) (bc9 := bc + 1 + E - mx) (bs9 := bs + 6 + F - sx) (q := 961) lkH_partAt dL_law_958 rfl (hl_partAt _ hx wx fx) wx wy rfl rfl rfl rfl (by omega) (by omega) (by omega) (fun v hX' hq1 wx' => ?_) (fun E9 hX' hq1 wx' => ?_)
  · obtain ⟨x, rfl⟩ := hl_oL (fx _ _ hq1)
    refine pn_istore (q := 963) dL_law_961 rfl (by decide) ?_
    refine pn_aload_n (q := 964) dL_law_963 rfl rfl rfl ?_
    refine pn_aload_n (q := 965) dL_law_964 rfl rfl rfl ?_
    refine pn_iload (q := 967) dL_law_965 rfl rfl ?_
    refine pn_iconst (q := 968) (v := nI 1) dL_law_967 rfl (by decide) ?_
    first | with_reducible refine pn_iaddN (q := 969) dL_law_968 rfl ?_ | refine pn_iadd (q := 969) dL_law_968 rfl ?_
    refine pn_sld (q := 970) dL_law_969 rfl (by omega) hn ?_
    refine lw_Y (av := [.int (nI (adK (3000 + (i + 1))))]) (bc9 := bc + 1 + E - mx - my) (bs9 := bs + 6 + F - sx - sy) (q := 973) lkL_139 dL_law_970 rfl hy rfl wx' wy rfl rfl rfl rfl rfl (by omega) (by omega) (by omega) (Nat.le_of_ble_eq_true rfl) (fun r h' hq => ?_) (fun v hY' hq2 wy' => ?_)
    · obtain ⟨t', bc', bs', l1, -, -, ⟨v', -, -, e2, e3⟩ | ⟨E8, v', -, e2, -, -, -, e3⟩⟩ := hall _ _ hq1 r h' hq
      · exact ⟨(LIw_W l1).2, v', e2, Or.inr e3⟩
      · exact ⟨(LIw_W l1).2, v', e2, Or.inr e3⟩
    · obtain ⟨t', bc', bs', l1, c1, c2, dis⟩ := hall _ _ hq1 _ _ hq2
      rcases dis with ⟨v', e1, e2, e3, e4⟩ | ⟨E8, v', e1, -⟩
      · cases e1
        cases e3
        subst e2
        refine pn_lstore (q := 975) dL_law_973 rfl (by decide) ?_
        refine pn_aload_n (q := 976) dL_law_975 rfl rfl rfl ?_
        refine lw_Y (av := []) (bc9 := bc + 1 + E - mx - my) (bs9 := bs + 6 + F - sx - sy) (q := 979) lkL_86 dL_law_976 rfl (lt_thr adK l1) rfl wx' wy' rfl rfl rfl rfl rfl (by omega) (by omega) (by omega) (Nat.le_of_ble_eq_true rfl) (fun r h' hq => ⟨by rw [hq.2]; exact wy', _, hq.1, Or.inl ⟨_, rfl⟩⟩) (fun v3 hY3 hq3 wy3 => ?_)
        obtain ⟨q1, q2⟩ := hq3
        subst q2
        cases q1
        refine pn_iload (q := 981) dL_law_979 rfl rfl ?_
        refine pn_icmp_eq (q := 984) (tgt := 986) dL_law_981 (by decide) rfl (fun _ => ?_) (fun hne => absurd rfl hne)
        refine pn_iload (q := 988) dL_law_986 rfl rfl ?_
        refine pn_if_ne (q := 991) (tgt := 1002) dL_law_988 (by decide) rfl (fun hne => absurd rfl hne) (fun _ => ?_)
        refine pn_aload_n (q := 992) dL_law_991 rfl rfl rfl ?_
        refine pn_iconst (q := 993) (v := nI 0) dL_law_992 rfl (by decide) ?_
        refine pn_lald1 (q := 994) (j := 0) dL_law_993 rfl (HW_84 wx' wy') rfl (by decide) (by decide) ?_
        refine pn_lload (q := 996) dL_law_994 rfl rfl ?_
        refine pn_leq (q1 := 997) (q := 1000) (tgt := 1002) dL_law_996 rfl dL_law_997 (by decide) rfl (fun _ => ?_) (fun hne => absurd pk_uLs hne)
        refine pn_goto (q := 1417) dL_law_1002 (by decide) ?_
        exact pn_bud (pn_take 5 (kk _ _ _ _ bc' bs' l1)) (by omega) (by omega)
      · cases e1
  · refine pn_istore (q := 963) dL_law_961 rfl (by decide) ?_
    refine pn_aload_n (q := 964) dL_law_963 rfl rfl rfl ?_
    refine pn_aload_n (q := 965) dL_law_964 rfl rfl rfl ?_
    refine pn_iload (q := 967) dL_law_965 rfl rfl ?_
    refine pn_iconst (q := 968) (v := nI 1) dL_law_967 rfl (by decide) ?_
    first | with_reducible refine pn_iaddN (q := 969) dL_law_968 rfl ?_ | refine pn_iadd (q := 969) dL_law_968 rfl ?_
    refine pn_sld (q := 970) dL_law_969 rfl (by omega) hn ?_
    refine lw_Y (av := [.int (nI (adK (3000 + (i + 1))))]) (bc9 := bc + 1 + E - mx - my) (bs9 := bs + 6 + F - sx - sy) (q := 973) lkL_139 dL_law_970 rfl hy rfl wx' wy rfl rfl rfl rfl rfl (by omega) (by omega) (by omega) (Nat.le_of_ble_eq_true rfl) (fun r h' hq => ?_) (fun v hY' hq2 wy' => ?_)
    · obtain ⟨t', bc', bs', l1, -, -, ⟨v', -, -, e2, e3⟩ | ⟨E8, v', -, e2, -, -, -, e3⟩⟩ := hall _ _ hq1 r h' hq
      · exact ⟨(LIw_W l1).2, v', e2, Or.inr e3⟩
      · exact ⟨(LIw_W l1).2, v', e2, Or.inr e3⟩
    · obtain ⟨t', bc', bs', l1, c1, c2, dis⟩ := hall _ _ hq1 _ _ hq2
      rcases dis with ⟨v', e1, -⟩ | ⟨E8, v', e1, e2, e3, e5, e6, y, rfl⟩
      · cases e1
      · cases e1
        cases e2
        refine pn_lstore (q := 975) dL_law_973 rfl (by decide) ?_
        refine pn_aload_n (q := 976) dL_law_975 rfl rfl rfl ?_
        refine lw_Y (av := []) (bc9 := bc + 1 + E - mx - my) (bs9 := bs + 6 + F - sx - sy) (q := 979) lkL_86 dL_law_976 rfl (lt_thr adK l1) rfl wx' wy' rfl rfl rfl rfl rfl (by omega) (by omega) (by omega) (Nat.le_of_ble_eq_true rfl) (fun r h' hq => ⟨by rw [hq.2]; exact wy', _, hq.1, Or.inl ⟨_, rfl⟩⟩) (fun v3 hY3 hq3 wy3 => ?_)
        obtain ⟨q1, q2⟩ := hq3
        subst q2
        cases q1
        refine pn_iload (q := 981) dL_law_979 rfl rfl ?_
        refine pn_icmp_eq (q := 984) (tgt := 986) dL_law_981 (by decide) rfl (fun _ => ?_) (fun hne => absurd (by rw [e3]) hne)
        refine pn_iload (q := 988) dL_law_986 rfl rfl ?_
        refine pn_if_ne (q := 991) (tgt := 1002) dL_law_988 (by decide) rfl (fun _ => ?_) (fun hne => absurd hne (cd_nz (by omega) (by omega)))
        refine pn_goto (q := 1417) dL_law_1002 (by decide) ?_
        exact pn_bud (pn_take 5 (kk _ _ _ _ bc' bs' l1)) (by omega) (by omega)
theorem lq_tests (adK : Nat → Nat) {hX hY : List pnE} {t bc bs : Nat} (hL : LIw hX hY t bc bs) : STQ mX6_tests mX7_tests adK 100 100 [] hX hY bc bs okI := by
  obtain ⟨b, tp, fp, N, A, Q, C, W, Z, ask, rf, Y, P, a, b1, c, e, f, g, h, e1, e2, hI, e3, h1, h2⟩ := hL
  rw [e1, e2]
  exact stq_mono (st_tests adK b tp fp N A Q C W Z ask rf Y P a b1 c e f g h hI) h1 h2
set_option maxRecDepth 100000 in
set_option maxHeartbeats 4000000 in
theorem lc_tests {adK : Nat → Nat} {hX hY : List pnE} {o : Nat → Int64} {i t bc bs E F : Nat} (hn : adK 2001 ≤ 3072) (hi : i + 6 ≤ adK 2001) (hL : LIw hX hY t bc bs) (kk : LK adK i E F) : pnWP mL_law adK 104 QL (bc + 1 + E) (bs + 6 + F) (HW hX hY o) (LL adK i) [] 1005 := by
  obtain ⟨wx, wy⟩ := LIw_W hL
  obtain ⟨Qx, Qy, mx, sx, my, sy, hx, hy, b1, b2, ⟨r0, hY0, hq0⟩, hall⟩ := lq_tests adK hL
  have fx : ∀ r h', Qx r h' → WX h' ∧ ∃ v, r = .inl (some v) ∧ okI v := fun r h' hq => by
    obtain ⟨t', bc', bs', l1, -, -, v, e1, -, e2⟩ := hall r h' hq r0 hY0 hq0
    exact ⟨(LIw_W l1).1, v, e1, e2⟩
  refine pn_aload_n (q := 1006) dL_law_1005 rfl rfl rfl ?_
  refine lw_X (av := []) (bc9 := bc + 1 + E - mx) (bs9 := bs + 6 + F - sx) (q := 1009) lkL_140 dL_law_1006 rfl hx rfl wx wy rfl rfl rfl rfl rfl (by omega) (by omega) (by omega) (Nat.le_of_ble_eq_true rfl) (fun r h' hq => lw_fI (fx r h' hq)) (fun v hX' hq1 wx' => ?_)
  obtain ⟨x, rfl⟩ := lw_oI (fx _ _ hq1)
  refine pn_aload_n (q := 1010) dL_law_1009 rfl rfl rfl ?_
  refine lw_Y (av := []) (bc9 := bc + 1 + E - mx - my) (bs9 := bs + 6 + F - sx - sy) (q := 1013) lkL_143 dL_law_1010 rfl hy rfl wx' wy rfl rfl rfl rfl rfl (by omega) (by omega) (by omega) (Nat.le_of_ble_eq_true rfl) (fun r h' hq => ?_) (fun v hY' hq2 wy' => ?_)
  · obtain ⟨t', bc', bs', l1, -, -, v', e1, e2, e3⟩ := hall _ _ hq1 r h' hq
    exact ⟨(LIw_W l1).2, v', e2, Or.inl e3⟩
  · obtain ⟨t', bc', bs', l1, c1, c2, v', e1, e2, e3⟩ := hall _ _ hq1 _ _ hq2
    cases e1
    cases e2
    refine pn_icmp_eq (q := 1016) (tgt := 1417) dL_law_1013 (by decide) rfl (fun _ => ?_) (fun hne => absurd rfl hne)
    exact pn_bud (kk _ _ _ _ bc' bs' l1) (by omega) (by omega)
theorem lq_search (adK : Nat → Nat) {hX hY : List pnE} {t bc bs : Nat} (hL : LIw hX hY t bc bs) (x1 : Int32) : STP mX6_search mX7_search adK 100 100 [.int x1] hX hY bc bs (cd1 "java/lang/IllegalArgumentException") okI := by
  obtain ⟨b, tp, fp, N, A, Q, C, W, Z, ask, rf, Y, P, a, b1, c, e, f, g, h, e1, e2, hI, e3, h1, h2⟩ := hL
  rw [e1, e2]
  exact stp_mono (st_search adK x1 b tp fp N A Q C W Z ask rf Y P a b1 c e f g h hI) h1 h2
set_option maxRecDepth 100000 in
set_option maxHeartbeats 4000000 in
theorem lc_search {adK : Nat → Nat} {hX hY : List pnE} {o : Nat → Int64} {i t bc bs E F : Nat} (hn : adK 2001 ≤ 3072) (hi : i + 6 ≤ adK 2001) (hL : LIw hX hY t bc bs) (kk : LK adK i E F) : pnWP mL_law adK 104 QL (bc + 1 + E) (bs + 6 + F) (HW hX hY o) (LL adK i) [] 1018 := by
  obtain ⟨wx, wy⟩ := LIw_W hL
  obtain ⟨Qx, Qy, mx, sx, my, sy, hx, hy, b1, b2, ⟨r0, hY0, hq0⟩, hall⟩ := lq_search adK hL (nI (adK (3000 + (i + 1))))
  have fx : ∀ r h', Qx r h' → WX h' ∧ ((∃ v, r = .inl (some v) ∧ okI v) ∨ ∃ E, r = .inr E ∧ (E = "java/lang/IllegalArgumentException")) := fun r h' hq => by
    obtain ⟨t', bc', bs', l1, -, -, ⟨v, e1, -, -, e2⟩ | ⟨E9, v, e1, -, e2, e3, -, -⟩⟩ := hall r h' hq r0 hY0 hq0
    · exact ⟨(LIw_W l1).1, Or.inl ⟨v, e1, e2⟩⟩
    · exact ⟨(LIw_W l1).1, Or.inr ⟨E9, e1, cd1_p (by omega)⟩⟩
  refine pn_aload_n (q := 1019) dL_law_1018 rfl rfl rfl ?_
  refine pn_aload_n (q := 1020) dL_law_1019 rfl rfl rfl ?_
  refine pn_iload (q := 1022) dL_law_1020 rfl rfl ?_
  refine pn_iconst (q := 1023) (v := nI 1) dL_law_1022 rfl (by decide) ?_
  first | with_reducible refine pn_iaddN (q := 1024) dL_law_1023 rfl ?_ | refine pn_iadd (q := 1024) dL_law_1023 rfl ?_
  refine pn_sld (q := 1025) dL_law_1024 rfl (by omega) hn ?_
  refine pn_aload_n (q := 1026) dL_law_1025 rfl rfl rfl ?_
  refine lw_H (av := [.int (nI (adK (3000 + (i + 1))))]) (bc9 := bc + 1 + E - mx) (bs9 := bs + 6 + F - sx) (q := 1029) lkH_search dL_law_1026 rfl (hl_search _ hx wx fx) wx wy rfl rfl rfl rfl (by omega) (by omega) (by omega) (fun v hX' hq1 wx' => ?_) (fun E9 hX' hq1 wx' => ?_)
  · obtain ⟨x, rfl⟩ := hl_oI (fx _ _ hq1)
    refine pn_istore (q := 1031) dL_law_1029 rfl (by decide) ?_
    refine pn_aload_n (q := 1032) dL_law_1031 rfl rfl rfl ?_
    refine pn_aload_n (q := 1033) dL_law_1032 rfl rfl rfl ?_
    refine pn_iload (q := 1035) dL_law_1033 rfl rfl ?_
    refine pn_iconst (q := 1036) (v := nI 1) dL_law_1035 rfl (by decide) ?_
    first | with_reducible refine pn_iaddN (q := 1037) dL_law_1036 rfl ?_ | refine pn_iadd (q := 1037) dL_law_1036 rfl ?_
    refine pn_sld (q := 1038) dL_law_1037 rfl (by omega) hn ?_
    refine lw_Y (av := [.int (nI (adK (3000 + (i + 1))))]) (bc9 := bc + 1 + E - mx - my) (bs9 := bs + 6 + F - sx - sy) (q := 1041) lkL_146 dL_law_1038 rfl hy rfl wx' wy rfl rfl rfl rfl rfl (by omega) (by omega) (by omega) (Nat.le_of_ble_eq_true rfl) (fun r h' hq => ?_) (fun v hY' hq2 wy' => ?_)
    · obtain ⟨t', bc', bs', l1, -, -, ⟨v', -, -, e2, e3⟩ | ⟨E8, v', -, e2, -, -, -, e3⟩⟩ := hall _ _ hq1 r h' hq
      · exact ⟨(LIw_W l1).2, v', e2, Or.inl e3⟩
      · exact ⟨(LIw_W l1).2, v', e2, Or.inl e3⟩
    · obtain ⟨t', bc', bs', l1, c1, c2, dis⟩ := hall _ _ hq1 _ _ hq2
      rcases dis with ⟨v', e1, e2, e3, e4⟩ | ⟨E8, v', e1, -⟩
      · cases e1
        cases e3
        subst e2
        refine pn_istore (q := 1043) dL_law_1041 rfl (by decide) ?_
        refine pn_aload_n (q := 1044) dL_law_1043 rfl rfl rfl ?_
        refine lw_Y (av := []) (bc9 := bc + 1 + E - mx - my) (bs9 := bs + 6 + F - sx - sy) (q := 1047) lkL_86 dL_law_1044 rfl (lt_thr adK l1) rfl wx' wy' rfl rfl rfl rfl rfl (by omega) (by omega) (by omega) (Nat.le_of_ble_eq_true rfl) (fun r h' hq => ⟨by rw [hq.2]; exact wy', _, hq.1, Or.inl ⟨_, rfl⟩⟩) (fun v3 hY3 hq3 wy3 => ?_)
        obtain ⟨q1, q2⟩ := hq3
        subst q2
        cases q1
        refine pn_iload (q := 1049) dL_law_1047 rfl rfl ?_
        refine pn_icmp_eq (q := 1052) (tgt := 1054) dL_law_1049 (by decide) rfl (fun _ => ?_) (fun hne => absurd rfl hne)
        refine pn_iload (q := 1056) dL_law_1054 rfl rfl ?_
        refine pn_if_ne (q := 1059) (tgt := 1071) dL_law_1056 (by decide) rfl (fun hne => absurd rfl hne) (fun _ => ?_)
        refine pn_aload_n (q := 1060) dL_law_1059 rfl rfl rfl ?_
        refine pn_iconst (q := 1061) (v := nI 0) dL_law_1060 rfl (by decide) ?_
        refine pn_lald1 (q := 1062) (j := 0) dL_law_1061 rfl (HW_84 wx' wy') rfl (by decide) (by decide) ?_
        refine pn_iload (q := 1064) dL_law_1062 rfl rfl ?_
        refine pn_i2l (q := 1065) dL_law_1064 rfl ?_
        refine pn_leq (q1 := 1066) (q := 1069) (tgt := 1071) dL_law_1065 rfl dL_law_1066 (by decide) rfl (fun _ => ?_) (fun hne => absurd pk_uLs hne)
        refine pn_goto (q := 1417) dL_law_1071 (by decide) ?_
        exact pn_bud (pn_take 5 (kk _ _ _ _ bc' bs' l1)) (by omega) (by omega)
      · cases e1
  · refine pn_istore (q := 1031) dL_law_1029 rfl (by decide) ?_
    refine pn_aload_n (q := 1032) dL_law_1031 rfl rfl rfl ?_
    refine pn_aload_n (q := 1033) dL_law_1032 rfl rfl rfl ?_
    refine pn_iload (q := 1035) dL_law_1033 rfl rfl ?_
    refine pn_iconst (q := 1036) (v := nI 1) dL_law_1035 rfl (by decide) ?_
    first | with_reducible refine pn_iaddN (q := 1037) dL_law_1036 rfl ?_ | refine pn_iadd (q := 1037) dL_law_1036 rfl ?_
    refine pn_sld (q := 1038) dL_law_1037 rfl (by omega) hn ?_
    refine lw_Y (av := [.int (nI (adK (3000 + (i + 1))))]) (bc9 := bc + 1 + E - mx - my) (bs9 := bs + 6 + F - sx - sy) (q := 1041) lkL_146 dL_law_1038 rfl hy rfl wx' wy rfl rfl rfl rfl rfl (by omega) (by omega) (by omega) (Nat.le_of_ble_eq_true rfl) (fun r h' hq => ?_) (fun v hY' hq2 wy' => ?_)
    · obtain ⟨t', bc', bs', l1, -, -, ⟨v', -, -, e2, e3⟩ | ⟨E8, v', -, e2, -, -, -, e3⟩⟩ := hall _ _ hq1 r h' hq
      · exact ⟨(LIw_W l1).2, v', e2, Or.inl e3⟩
      · exact ⟨(LIw_W l1).2, v', e2, Or.inl e3⟩
    · obtain ⟨t', bc', bs', l1, c1, c2, dis⟩ := hall _ _ hq1 _ _ hq2
      rcases dis with ⟨v', e1, -⟩ | ⟨E8, v', e1, e2, e3, e5, e6, y, rfl⟩
      · cases e1
      · cases e1
        cases e2
        refine pn_istore (q := 1043) dL_law_1041 rfl (by decide) ?_
        refine pn_aload_n (q := 1044) dL_law_1043 rfl rfl rfl ?_
        refine lw_Y (av := []) (bc9 := bc + 1 + E - mx - my) (bs9 := bs + 6 + F - sx - sy) (q := 1047) lkL_86 dL_law_1044 rfl (lt_thr adK l1) rfl wx' wy' rfl rfl rfl rfl rfl (by omega) (by omega) (by omega) (Nat.le_of_ble_eq_true rfl) (fun r h' hq => ⟨by rw [hq.2]; exact wy', _, hq.1, Or.inl ⟨_, rfl⟩⟩) (fun v3 hY3 hq3 wy3 => ?_)
        obtain ⟨q1, q2⟩ := hq3
        subst q2
        cases q1
        refine pn_iload (q := 1049) dL_law_1047 rfl rfl ?_
        refine pn_icmp_eq (q := 1052) (tgt := 1054) dL_law_1049 (by decide) rfl (fun _ => ?_) (fun hne => absurd (by rw [e3]) hne)
        refine pn_iload (q := 1056) dL_law_1054 rfl rfl ?_
        refine pn_if_ne (q := 1059) (tgt := 1071) dL_law_1056 (by decide) rfl (fun _ => ?_) (fun hne => absurd hne (cd_nz (by omega) (by omega)))
        refine pn_goto (q := 1417) dL_law_1071 (by decide) ?_
        exact pn_bud (pn_take 5 (kk _ _ _ _ bc' bs' l1)) (by omega) (by omega)
theorem lq_exchanges (adK : Nat → Nat) {hX hY : List pnE} {t bc bs : Nat} (hL : LIw hX hY t bc bs) (x1 x2 : Int32) : STP mX6_exchanges mX7_exchanges adK 100 100 [.int x1, .int x2] hX hY bc bs (cd2 "java/util/NoSuchElementException" "java/lang/IllegalArgumentException") okI := by
  obtain ⟨b, tp, fp, N, A, Q, C, W, Z, ask, rf, Y, P, a, b1, c, e, f, g, h, e1, e2, hI, e3, h1, h2⟩ := hL
  rw [e1, e2]
  exact stp_mono (st_exchanges adK x1 x2 b tp fp N A Q C W Z ask rf Y P a b1 c e f g h hI) h1 h2
set_option maxRecDepth 100000 in
set_option maxHeartbeats 4000000 in
theorem lc_exchanges {adK : Nat → Nat} {hX hY : List pnE} {o : Nat → Int64} {i t bc bs E F : Nat} (hn : adK 2001 ≤ 3072) (hi : i + 6 ≤ adK 2001) (hL : LIw hX hY t bc bs) (kk : LK adK i E F) : pnWP mL_law adK 104 QL (bc + 1 + E) (bs + 6 + F) (HW hX hY o) (LL adK i) [] 1074 := by
  obtain ⟨wx, wy⟩ := LIw_W hL
  obtain ⟨Qx, Qy, mx, sx, my, sy, hx, hy, b1, b2, ⟨r0, hY0, hq0⟩, hall⟩ := lq_exchanges adK hL (nI (adK (3000 + (i + 1)))) (nI (adK (3000 + (i + 2))))
  have fx : ∀ r h', Qx r h' → WX h' ∧ ((∃ v, r = .inl (some v) ∧ okI v) ∨ ∃ E, r = .inr E ∧ (E = "java/util/NoSuchElementException" ∨ E = "java/lang/IllegalArgumentException")) := fun r h' hq => by
    obtain ⟨t', bc', bs', l1, -, -, ⟨v, e1, -, -, e2⟩ | ⟨E9, v, e1, -, e2, e3, -, -⟩⟩ := hall r h' hq r0 hY0 hq0
    · exact ⟨(LIw_W l1).1, Or.inl ⟨v, e1, e2⟩⟩
    · exact ⟨(LIw_W l1).1, Or.inr ⟨E9, e1, cd2_p (by omega)⟩⟩
  refine pn_aload_n (q := 1075) dL_law_1074 rfl rfl rfl ?_
  refine pn_aload_n (q := 1076) dL_law_1075 rfl rfl rfl ?_
  refine pn_iload (q := 1078) dL_law_1076 rfl rfl ?_
  refine pn_iconst (q := 1079) (v := nI 1) dL_law_1078 rfl (by decide) ?_
  first | with_reducible refine pn_iaddN (q := 1080) dL_law_1079 rfl ?_ | refine pn_iadd (q := 1080) dL_law_1079 rfl ?_
  refine pn_sld (q := 1081) dL_law_1080 rfl (by omega) hn ?_
  refine pn_aload_n (q := 1082) dL_law_1081 rfl rfl rfl ?_
  refine pn_iload (q := 1084) dL_law_1082 rfl rfl ?_
  refine pn_iconst (q := 1085) (v := nI 2) dL_law_1084 rfl (by decide) ?_
  first | with_reducible refine pn_iaddN (q := 1086) dL_law_1085 rfl ?_ | refine pn_iadd (q := 1086) dL_law_1085 rfl ?_
  refine pn_sld (q := 1087) dL_law_1086 rfl (by omega) hn ?_
  refine pn_aload_n (q := 1088) dL_law_1087 rfl rfl rfl ?_
  refine lw_H (av := [.int (nI (adK (3000 + (i + 1)))), .int (nI (adK (3000 + (i + 2))))]) (bc9 := bc + 1 + E - mx) (bs9 := bs + 6 + F - sx) (q := 1091) lkH_exchanges dL_law_1088 rfl (hl_exchanges _ _ hx wx fx) wx wy rfl rfl rfl rfl (by omega) (by omega) (by omega) (fun v hX' hq1 wx' => ?_) (fun E9 hX' hq1 wx' => ?_)
  · obtain ⟨x, rfl⟩ := hl_oI (fx _ _ hq1)
    refine pn_istore (q := 1093) dL_law_1091 rfl (by decide) ?_
    refine pn_aload_n (q := 1094) dL_law_1093 rfl rfl rfl ?_
    refine pn_aload_n (q := 1095) dL_law_1094 rfl rfl rfl ?_
    refine pn_iload (q := 1097) dL_law_1095 rfl rfl ?_
    refine pn_iconst (q := 1098) (v := nI 1) dL_law_1097 rfl (by decide) ?_
    first | with_reducible refine pn_iaddN (q := 1099) dL_law_1098 rfl ?_ | refine pn_iadd (q := 1099) dL_law_1098 rfl ?_
    refine pn_sld (q := 1100) dL_law_1099 rfl (by omega) hn ?_
    refine pn_aload_n (q := 1101) dL_law_1100 rfl rfl rfl ?_
    refine pn_iload (q := 1103) dL_law_1101 rfl rfl ?_
    refine pn_iconst (q := 1104) (v := nI 2) dL_law_1103 rfl (by decide) ?_
    first | with_reducible refine pn_iaddN (q := 1105) dL_law_1104 rfl ?_ | refine pn_iadd (q := 1105) dL_law_1104 rfl ?_
    refine pn_sld (q := 1106) dL_law_1105 rfl (by omega) hn ?_
    refine lw_Y (av := [.int (nI (adK (3000 + (i + 1)))), .int (nI (adK (3000 + (i + 2))))]) (bc9 := bc + 1 + E - mx - my) (bs9 := bs + 6 + F - sx - sy) (q := 1109) lkL_149 dL_law_1106 rfl hy rfl wx' wy rfl rfl rfl rfl rfl (by omega) (by omega) (by omega) (Nat.le_of_ble_eq_true rfl) (fun r h' hq => ?_) (fun v hY' hq2 wy' => ?_)
    · obtain ⟨t', bc', bs', l1, -, -, ⟨v', -, -, e2, e3⟩ | ⟨E8, v', -, e2, -, -, -, e3⟩⟩ := hall _ _ hq1 r h' hq
      · exact ⟨(LIw_W l1).2, v', e2, Or.inl e3⟩
      · exact ⟨(LIw_W l1).2, v', e2, Or.inl e3⟩
    · obtain ⟨t', bc', bs', l1, c1, c2, dis⟩ := hall _ _ hq1 _ _ hq2
      rcases dis with ⟨v', e1, e2, e3, e4⟩ | ⟨E8, v', e1, -⟩
      · cases e1
        cases e3
        subst e2
        refine pn_istore (q := 1111) dL_law_1109 rfl (by decide) ?_
        refine pn_aload_n (q := 1112) dL_law_1111 rfl rfl rfl ?_
        refine lw_Y (av := []) (bc9 := bc + 1 + E - mx - my) (bs9 := bs + 6 + F - sx - sy) (q := 1115) lkL_86 dL_law_1112 rfl (lt_thr adK l1) rfl wx' wy' rfl rfl rfl rfl rfl (by omega) (by omega) (by omega) (Nat.le_of_ble_eq_true rfl) (fun r h' hq => ⟨by rw [hq.2]; exact wy', _, hq.1, Or.inl ⟨_, rfl⟩⟩) (fun v3 hY3 hq3 wy3 => ?_)
        obtain ⟨q1, q2⟩ := hq3
        subst q2
        cases q1
        refine pn_iload (q := 1117) dL_law_1115 rfl rfl ?_
        refine pn_icmp_eq (q := 1120) (tgt := 1122) dL_law_1117 (by decide) rfl (fun _ => ?_) (fun hne => absurd rfl hne)
        refine pn_iload (q := 1124) dL_law_1122 rfl rfl ?_
        refine pn_if_ne (q := 1127) (tgt := 1139) dL_law_1124 (by decide) rfl (fun hne => absurd rfl hne) (fun _ => ?_)
        refine pn_aload_n (q := 1128) dL_law_1127 rfl rfl rfl ?_
        refine pn_iconst (q := 1129) (v := nI 0) dL_law_1128 rfl (by decide) ?_
        refine pn_lald1 (q := 1130) (j := 0) dL_law_1129 rfl (HW_84 wx' wy') rfl (by decide) (by decide) ?_
        refine pn_iload (q := 1132) dL_law_1130 rfl rfl ?_
        refine pn_i2l (q := 1133) dL_law_1132 rfl ?_
        refine pn_leq (q1 := 1134) (q := 1137) (tgt := 1139) dL_law_1133 rfl dL_law_1134 (by decide) rfl (fun _ => ?_) (fun hne => absurd pk_uLs hne)
        refine pn_goto (q := 1417) dL_law_1139 (by decide) ?_
        exact pn_bud (pn_take 5 (kk _ _ _ _ bc' bs' l1)) (by omega) (by omega)
      · cases e1
  · refine pn_istore (q := 1093) dL_law_1091 rfl (by decide) ?_
    refine pn_aload_n (q := 1094) dL_law_1093 rfl rfl rfl ?_
    refine pn_aload_n (q := 1095) dL_law_1094 rfl rfl rfl ?_
    refine pn_iload (q := 1097) dL_law_1095 rfl rfl ?_
    refine pn_iconst (q := 1098) (v := nI 1) dL_law_1097 rfl (by decide) ?_
    first | with_reducible refine pn_iaddN (q := 1099) dL_law_1098 rfl ?_ | refine pn_iadd (q := 1099) dL_law_1098 rfl ?_
    refine pn_sld (q := 1100) dL_law_1099 rfl (by omega) hn ?_
    refine pn_aload_n (q := 1101) dL_law_1100 rfl rfl rfl ?_
    refine pn_iload (q := 1103) dL_law_1101 rfl rfl ?_
    refine pn_iconst (q := 1104) (v := nI 2) dL_law_1103 rfl (by decide) ?_
    first | with_reducible refine pn_iaddN (q := 1105) dL_law_1104 rfl ?_ | refine pn_iadd (q := 1105) dL_law_1104 rfl ?_
    refine pn_sld (q := 1106) dL_law_1105 rfl (by omega) hn ?_
    refine lw_Y (av := [.int (nI (adK (3000 + (i + 1)))), .int (nI (adK (3000 + (i + 2))))]) (bc9 := bc + 1 + E - mx - my) (bs9 := bs + 6 + F - sx - sy) (q := 1109) lkL_149 dL_law_1106 rfl hy rfl wx' wy rfl rfl rfl rfl rfl (by omega) (by omega) (by omega) (Nat.le_of_ble_eq_true rfl) (fun r h' hq => ?_) (fun v hY' hq2 wy' => ?_)
    · obtain ⟨t', bc', bs', l1, -, -, ⟨v', -, -, e2, e3⟩ | ⟨E8, v', -, e2, -, -, -, e3⟩⟩ := hall _ _ hq1 r h' hq
      · exact ⟨(LIw_W l1).2, v', e2, Or.inl e3⟩
      · exact ⟨(LIw_W l1).2, v', e2, Or.inl e3⟩
    · obtain ⟨t', bc', bs', l1, c1, c2, dis⟩ := hall _ _ hq1 _ _ hq2
      rcases dis with ⟨v', e1, -⟩ | ⟨E8, v', e1, e2, e3, e5, e6, y, rfl⟩
      · cases e1
      · cases e1
        cases e2
        refine pn_istore (q := 1111) dL_law_1109 rfl (by decide) ?_
        refine pn_aload_n (q := 1112) dL_law_1111 rfl rfl rfl ?_
        refine lw_Y (av := []) (bc9 := bc + 1 + E - mx - my) (bs9 := bs + 6 + F - sx - sy) (q := 1115) lkL_86 dL_law_1112 rfl (lt_thr adK l1) rfl wx' wy' rfl rfl rfl rfl rfl (by omega) (by omega) (by omega) (Nat.le_of_ble_eq_true rfl) (fun r h' hq => ⟨by rw [hq.2]; exact wy', _, hq.1, Or.inl ⟨_, rfl⟩⟩) (fun v3 hY3 hq3 wy3 => ?_)
        obtain ⟨q1, q2⟩ := hq3
        subst q2
        cases q1
        refine pn_iload (q := 1117) dL_law_1115 rfl rfl ?_
        refine pn_icmp_eq (q := 1120) (tgt := 1122) dL_law_1117 (by decide) rfl (fun _ => ?_) (fun hne => absurd (by rw [e3]) hne)
        refine pn_iload (q := 1124) dL_law_1122 rfl rfl ?_
        refine pn_if_ne (q := 1127) (tgt := 1139) dL_law_1124 (by decide) rfl (fun _ => ?_) (fun hne => absurd hne (cd_nz (by omega) (by omega)))
        refine pn_goto (q := 1417) dL_law_1139 (by decide) ?_
        exact pn_bud (pn_take 5 (kk _ _ _ _ bc' bs' l1)) (by omega) (by omega)
theorem lq_classes (adK : Nat → Nat) {hX hY : List pnE} {t bc bs : Nat} (hL : LIw hX hY t bc bs) : STP mX6_classes mX7_classes adK 100 100 [] hX hY bc bs (cd1 "java/lang/IllegalStateException") okI := by
  obtain ⟨b, tp, fp, N, A, Q, C, W, Z, ask, rf, Y, P, a, b1, c, e, f, g, h, e1, e2, hI, e3, h1, h2⟩ := hL
  rw [e1, e2]
  exact stp_mono (st_classes adK b tp fp N A Q C W Z ask rf Y P a b1 c e f g h hI) h1 h2
set_option maxRecDepth 100000 in
set_option maxHeartbeats 4000000 in
theorem lc_classes {adK : Nat → Nat} {hX hY : List pnE} {o : Nat → Int64} {i t bc bs E F : Nat} (hn : adK 2001 ≤ 3072) (hi : i + 6 ≤ adK 2001) (hL : LIw hX hY t bc bs) (kk : LK adK i E F) : pnWP mL_law adK 104 QL (bc + 1 + E) (bs + 6 + F) (HW hX hY o) (LL adK i) [] 1142 := by
  obtain ⟨wx, wy⟩ := LIw_W hL
  obtain ⟨Qx, Qy, mx, sx, my, sy, hx, hy, b1, b2, ⟨r0, hY0, hq0⟩, hall⟩ := lq_classes adK hL
  have fx : ∀ r h', Qx r h' → WX h' ∧ ((∃ v, r = .inl (some v) ∧ okI v) ∨ ∃ E, r = .inr E ∧ (E = "java/lang/IllegalStateException")) := fun r h' hq => by
    obtain ⟨t', bc', bs', l1, -, -, ⟨v, e1, -, -, e2⟩ | ⟨E9, v, e1, -, e2, e3, -, -⟩⟩ := hall r h' hq r0 hY0 hq0
    · exact ⟨(LIw_W l1).1, Or.inl ⟨v, e1, e2⟩⟩
    · exact ⟨(LIw_W l1).1, Or.inr ⟨E9, e1, cd1_p (by omega)⟩⟩
  refine pn_aload_n (q := 1143) dL_law_1142 rfl rfl rfl ?_
  refine pn_aload_n (q := 1144) dL_law_1143 rfl rfl rfl ?_
  refine lw_H (av := []) (bc9 := bc + 1 + E - mx) (bs9 := bs + 6 + F - sx) (q := 1147) lkH_classes dL_law_1144 rfl (hl_classes hx wx fx) wx wy rfl rfl rfl rfl (by omega) (by omega) (by omega) (fun v hX' hq1 wx' => ?_) (fun E9 hX' hq1 wx' => ?_)
  · obtain ⟨x, rfl⟩ := hl_oI (fx _ _ hq1)
    refine pn_istore (q := 1149) dL_law_1147 rfl (by decide) ?_
    refine pn_aload_n (q := 1150) dL_law_1149 rfl rfl rfl ?_
    refine lw_Y (av := []) (bc9 := bc + 1 + E - mx - my) (bs9 := bs + 6 + F - sx - sy) (q := 1153) lkL_152 dL_law_1150 rfl hy rfl wx' wy rfl rfl rfl rfl rfl (by omega) (by omega) (by omega) (Nat.le_of_ble_eq_true rfl) (fun r h' hq => ?_) (fun v hY' hq2 wy' => ?_)
    · obtain ⟨t', bc', bs', l1, -, -, ⟨v', -, -, e2, e3⟩ | ⟨E8, v', -, e2, -, -, -, e3⟩⟩ := hall _ _ hq1 r h' hq
      · exact ⟨(LIw_W l1).2, v', e2, Or.inl e3⟩
      · exact ⟨(LIw_W l1).2, v', e2, Or.inl e3⟩
    · obtain ⟨t', bc', bs', l1, c1, c2, dis⟩ := hall _ _ hq1 _ _ hq2
      rcases dis with ⟨v', e1, e2, e3, e4⟩ | ⟨E8, v', e1, -⟩
      · cases e1
        cases e3
        subst e2
        refine pn_istore (q := 1155) dL_law_1153 rfl (by decide) ?_
        refine pn_aload_n (q := 1156) dL_law_1155 rfl rfl rfl ?_
        refine lw_Y (av := []) (bc9 := bc + 1 + E - mx - my) (bs9 := bs + 6 + F - sx - sy) (q := 1159) lkL_86 dL_law_1156 rfl (lt_thr adK l1) rfl wx' wy' rfl rfl rfl rfl rfl (by omega) (by omega) (by omega) (Nat.le_of_ble_eq_true rfl) (fun r h' hq => ⟨by rw [hq.2]; exact wy', _, hq.1, Or.inl ⟨_, rfl⟩⟩) (fun v3 hY3 hq3 wy3 => ?_)
        obtain ⟨q1, q2⟩ := hq3
        subst q2
        cases q1
        refine pn_iload (q := 1161) dL_law_1159 rfl rfl ?_
        refine pn_icmp_eq (q := 1164) (tgt := 1166) dL_law_1161 (by decide) rfl (fun _ => ?_) (fun hne => absurd rfl hne)
        refine pn_iload (q := 1168) dL_law_1166 rfl rfl ?_
        refine pn_if_ne (q := 1171) (tgt := 1183) dL_law_1168 (by decide) rfl (fun hne => absurd rfl hne) (fun _ => ?_)
        refine pn_aload_n (q := 1172) dL_law_1171 rfl rfl rfl ?_
        refine pn_iconst (q := 1173) (v := nI 0) dL_law_1172 rfl (by decide) ?_
        refine pn_lald1 (q := 1174) (j := 0) dL_law_1173 rfl (HW_84 wx' wy') rfl (by decide) (by decide) ?_
        refine pn_iload (q := 1176) dL_law_1174 rfl rfl ?_
        refine pn_i2l (q := 1177) dL_law_1176 rfl ?_
        refine pn_leq (q1 := 1178) (q := 1181) (tgt := 1183) dL_law_1177 rfl dL_law_1178 (by decide) rfl (fun _ => ?_) (fun hne => absurd pk_uLs hne)
        refine pn_goto (q := 1417) dL_law_1183 (by decide) ?_
        exact pn_bud (pn_take 5 (kk _ _ _ _ bc' bs' l1)) (by omega) (by omega)
      · cases e1
  · refine pn_istore (q := 1149) dL_law_1147 rfl (by decide) ?_
    refine pn_aload_n (q := 1150) dL_law_1149 rfl rfl rfl ?_
    refine lw_Y (av := []) (bc9 := bc + 1 + E - mx - my) (bs9 := bs + 6 + F - sx - sy) (q := 1153) lkL_152 dL_law_1150 rfl hy rfl wx' wy rfl rfl rfl rfl rfl (by omega) (by omega) (by omega) (Nat.le_of_ble_eq_true rfl) (fun r h' hq => ?_) (fun v hY' hq2 wy' => ?_)
    · obtain ⟨t', bc', bs', l1, -, -, ⟨v', -, -, e2, e3⟩ | ⟨E8, v', -, e2, -, -, -, e3⟩⟩ := hall _ _ hq1 r h' hq
      · exact ⟨(LIw_W l1).2, v', e2, Or.inl e3⟩
      · exact ⟨(LIw_W l1).2, v', e2, Or.inl e3⟩
    · obtain ⟨t', bc', bs', l1, c1, c2, dis⟩ := hall _ _ hq1 _ _ hq2
      rcases dis with ⟨v', e1, -⟩ | ⟨E8, v', e1, e2, e3, e5, e6, y, rfl⟩
      · cases e1
      · cases e1
        cases e2
        refine pn_istore (q := 1155) dL_law_1153 rfl (by decide) ?_
        refine pn_aload_n (q := 1156) dL_law_1155 rfl rfl rfl ?_
        refine lw_Y (av := []) (bc9 := bc + 1 + E - mx - my) (bs9 := bs + 6 + F - sx - sy) (q := 1159) lkL_86 dL_law_1156 rfl (lt_thr adK l1) rfl wx' wy' rfl rfl rfl rfl rfl (by omega) (by omega) (by omega) (Nat.le_of_ble_eq_true rfl) (fun r h' hq => ⟨by rw [hq.2]; exact wy', _, hq.1, Or.inl ⟨_, rfl⟩⟩) (fun v3 hY3 hq3 wy3 => ?_)
        obtain ⟨q1, q2⟩ := hq3
        subst q2
        cases q1
        refine pn_iload (q := 1161) dL_law_1159 rfl rfl ?_
        refine pn_icmp_eq (q := 1164) (tgt := 1166) dL_law_1161 (by decide) rfl (fun _ => ?_) (fun hne => absurd (by rw [e3]) hne)
        refine pn_iload (q := 1168) dL_law_1166 rfl rfl ?_
        refine pn_if_ne (q := 1171) (tgt := 1183) dL_law_1168 (by decide) rfl (fun _ => ?_) (fun hne => absurd hne (cd_nz (by omega) (by omega)))
        refine pn_goto (q := 1417) dL_law_1183 (by decide) ?_
        exact pn_bud (pn_take 5 (kk _ _ _ _ bc' bs' l1)) (by omega) (by omega)
theorem lq_cover (adK : Nat → Nat) {hX hY : List pnE} {t bc bs : Nat} (hL : LIw hX hY t bc bs) (x1 x2 : Int32) : STP mX6_cover mX7_cover adK 100 100 [.int x1, .int x2] hX hY bc bs (cd1 "java/lang/IllegalArgumentException") okI := by
  obtain ⟨b, tp, fp, N, A, Q, C, W, Z, ask, rf, Y, P, a, b1, c, e, f, g, h, e1, e2, hI, e3, h1, h2⟩ := hL
  rw [e1, e2]
  exact stp_mono (st_cover adK x1 x2 b tp fp N A Q C W Z ask rf Y P a b1 c e f g h hI) h1 h2
set_option maxRecDepth 100000 in
set_option maxHeartbeats 4000000 in
theorem lc_cover {adK : Nat → Nat} {hX hY : List pnE} {o : Nat → Int64} {i t bc bs E F : Nat} (hn : adK 2001 ≤ 3072) (hi : i + 6 ≤ adK 2001) (hL : LIw hX hY t bc bs) (kk : LK adK i E F) : pnWP mL_law adK 104 QL (bc + 1 + E) (bs + 6 + F) (HW hX hY o) (LL adK i) [] 1186 := by
  obtain ⟨wx, wy⟩ := LIw_W hL
  obtain ⟨Qx, Qy, mx, sx, my, sy, hx, hy, b1, b2, ⟨r0, hY0, hq0⟩, hall⟩ := lq_cover adK hL (nI (adK (3000 + (i + 1)))) (nI (adK (3000 + (i + 2))))
  have fx : ∀ r h', Qx r h' → WX h' ∧ ((∃ v, r = .inl (some v) ∧ okI v) ∨ ∃ E, r = .inr E ∧ (E = "java/lang/IllegalArgumentException")) := fun r h' hq => by
    obtain ⟨t', bc', bs', l1, -, -, ⟨v, e1, -, -, e2⟩ | ⟨E9, v, e1, -, e2, e3, -, -⟩⟩ := hall r h' hq r0 hY0 hq0
    · exact ⟨(LIw_W l1).1, Or.inl ⟨v, e1, e2⟩⟩
    · exact ⟨(LIw_W l1).1, Or.inr ⟨E9, e1, cd1_p (by omega)⟩⟩
  refine pn_aload_n (q := 1187) dL_law_1186 rfl rfl rfl ?_
  refine pn_aload_n (q := 1188) dL_law_1187 rfl rfl rfl ?_
  refine pn_iload (q := 1190) dL_law_1188 rfl rfl ?_
  refine pn_iconst (q := 1191) (v := nI 1) dL_law_1190 rfl (by decide) ?_
  first | with_reducible refine pn_iaddN (q := 1192) dL_law_1191 rfl ?_ | refine pn_iadd (q := 1192) dL_law_1191 rfl ?_
  refine pn_sld (q := 1193) dL_law_1192 rfl (by omega) hn ?_
  refine pn_aload_n (q := 1194) dL_law_1193 rfl rfl rfl ?_
  refine pn_iload (q := 1196) dL_law_1194 rfl rfl ?_
  refine pn_iconst (q := 1197) (v := nI 2) dL_law_1196 rfl (by decide) ?_
  first | with_reducible refine pn_iaddN (q := 1198) dL_law_1197 rfl ?_ | refine pn_iadd (q := 1198) dL_law_1197 rfl ?_
  refine pn_sld (q := 1199) dL_law_1198 rfl (by omega) hn ?_
  refine pn_aload_n (q := 1200) dL_law_1199 rfl rfl rfl ?_
  refine lw_H (av := [.int (nI (adK (3000 + (i + 1)))), .int (nI (adK (3000 + (i + 2))))]) (bc9 := bc + 1 + E - mx) (bs9 := bs + 6 + F - sx) (q := 1203) lkH_cover dL_law_1200 rfl (hl_cover _ _ hx wx fx) wx wy rfl rfl rfl rfl (by omega) (by omega) (by omega) (fun v hX' hq1 wx' => ?_) (fun E9 hX' hq1 wx' => ?_)
  · obtain ⟨x, rfl⟩ := hl_oI (fx _ _ hq1)
    refine pn_istore (q := 1205) dL_law_1203 rfl (by decide) ?_
    refine pn_aload_n (q := 1206) dL_law_1205 rfl rfl rfl ?_
    refine pn_aload_n (q := 1207) dL_law_1206 rfl rfl rfl ?_
    refine pn_iload (q := 1209) dL_law_1207 rfl rfl ?_
    refine pn_iconst (q := 1210) (v := nI 1) dL_law_1209 rfl (by decide) ?_
    first | with_reducible refine pn_iaddN (q := 1211) dL_law_1210 rfl ?_ | refine pn_iadd (q := 1211) dL_law_1210 rfl ?_
    refine pn_sld (q := 1212) dL_law_1211 rfl (by omega) hn ?_
    refine pn_aload_n (q := 1213) dL_law_1212 rfl rfl rfl ?_
    refine pn_iload (q := 1215) dL_law_1213 rfl rfl ?_
    refine pn_iconst (q := 1216) (v := nI 2) dL_law_1215 rfl (by decide) ?_
    first | with_reducible refine pn_iaddN (q := 1217) dL_law_1216 rfl ?_ | refine pn_iadd (q := 1217) dL_law_1216 rfl ?_
    refine pn_sld (q := 1218) dL_law_1217 rfl (by omega) hn ?_
    refine lw_Y (av := [.int (nI (adK (3000 + (i + 1)))), .int (nI (adK (3000 + (i + 2))))]) (bc9 := bc + 1 + E - mx - my) (bs9 := bs + 6 + F - sx - sy) (q := 1221) lkL_155 dL_law_1218 rfl hy rfl wx' wy rfl rfl rfl rfl rfl (by omega) (by omega) (by omega) (Nat.le_of_ble_eq_true rfl) (fun r h' hq => ?_) (fun v hY' hq2 wy' => ?_)
    · obtain ⟨t', bc', bs', l1, -, -, ⟨v', -, -, e2, e3⟩ | ⟨E8, v', -, e2, -, -, -, e3⟩⟩ := hall _ _ hq1 r h' hq
      · exact ⟨(LIw_W l1).2, v', e2, Or.inl e3⟩
      · exact ⟨(LIw_W l1).2, v', e2, Or.inl e3⟩
    · obtain ⟨t', bc', bs', l1, c1, c2, dis⟩ := hall _ _ hq1 _ _ hq2
      rcases dis with ⟨v', e1, e2, e3, e4⟩ | ⟨E8, v', e1, -⟩
      · cases e1
        cases e3
        subst e2
        refine pn_istore (q := 1223) dL_law_1221 rfl (by decide) ?_
        refine pn_aload_n (q := 1224) dL_law_1223 rfl rfl rfl ?_
        refine lw_Y (av := []) (bc9 := bc + 1 + E - mx - my) (bs9 := bs + 6 + F - sx - sy) (q := 1227) lkL_86 dL_law_1224 rfl (lt_thr adK l1) rfl wx' wy' rfl rfl rfl rfl rfl (by omega) (by omega) (by omega) (Nat.le_of_ble_eq_true rfl) (fun r h' hq => ⟨by rw [hq.2]; exact wy', _, hq.1, Or.inl ⟨_, rfl⟩⟩) (fun v3 hY3 hq3 wy3 => ?_)
        obtain ⟨q1, q2⟩ := hq3
        subst q2
        cases q1
        refine pn_iload (q := 1229) dL_law_1227 rfl rfl ?_
        refine pn_icmp_eq (q := 1232) (tgt := 1234) dL_law_1229 (by decide) rfl (fun _ => ?_) (fun hne => absurd rfl hne)
        refine pn_iload (q := 1236) dL_law_1234 rfl rfl ?_
        refine pn_if_ne (q := 1239) (tgt := 1251) dL_law_1236 (by decide) rfl (fun hne => absurd rfl hne) (fun _ => ?_)
        refine pn_aload_n (q := 1240) dL_law_1239 rfl rfl rfl ?_
        refine pn_iconst (q := 1241) (v := nI 0) dL_law_1240 rfl (by decide) ?_
        refine pn_lald1 (q := 1242) (j := 0) dL_law_1241 rfl (HW_84 wx' wy') rfl (by decide) (by decide) ?_
        refine pn_iload (q := 1244) dL_law_1242 rfl rfl ?_
        refine pn_i2l (q := 1245) dL_law_1244 rfl ?_
        refine pn_leq (q1 := 1246) (q := 1249) (tgt := 1251) dL_law_1245 rfl dL_law_1246 (by decide) rfl (fun _ => ?_) (fun hne => absurd pk_uLs hne)
        refine pn_goto (q := 1417) dL_law_1251 (by decide) ?_
        exact pn_bud (pn_take 5 (kk _ _ _ _ bc' bs' l1)) (by omega) (by omega)
      · cases e1
  · refine pn_istore (q := 1205) dL_law_1203 rfl (by decide) ?_
    refine pn_aload_n (q := 1206) dL_law_1205 rfl rfl rfl ?_
    refine pn_aload_n (q := 1207) dL_law_1206 rfl rfl rfl ?_
    refine pn_iload (q := 1209) dL_law_1207 rfl rfl ?_
    refine pn_iconst (q := 1210) (v := nI 1) dL_law_1209 rfl (by decide) ?_
    first | with_reducible refine pn_iaddN (q := 1211) dL_law_1210 rfl ?_ | refine pn_iadd (q := 1211) dL_law_1210 rfl ?_
    refine pn_sld (q := 1212) dL_law_1211 rfl (by omega) hn ?_
    refine pn_aload_n (q := 1213) dL_law_1212 rfl rfl rfl ?_
    refine pn_iload (q := 1215) dL_law_1213 rfl rfl ?_
    refine pn_iconst (q := 1216) (v := nI 2) dL_law_1215 rfl (by decide) ?_
    first | with_reducible refine pn_iaddN (q := 1217) dL_law_1216 rfl ?_ | refine pn_iadd (q := 1217) dL_law_1216 rfl ?_
    refine pn_sld (q := 1218) dL_law_1217 rfl (by omega) hn ?_
    refine lw_Y (av := [.int (nI (adK (3000 + (i + 1)))), .int (nI (adK (3000 + (i + 2))))]) (bc9 := bc + 1 + E - mx - my) (bs9 := bs + 6 + F - sx - sy) (q := 1221) lkL_155 dL_law_1218 rfl hy rfl wx' wy rfl rfl rfl rfl rfl (by omega) (by omega) (by omega) (Nat.le_of_ble_eq_true rfl) (fun r h' hq => ?_) (fun v hY' hq2 wy' => ?_)
    · obtain ⟨t', bc', bs', l1, -, -, ⟨v', -, -, e2, e3⟩ | ⟨E8, v', -, e2, -, -, -, e3⟩⟩ := hall _ _ hq1 r h' hq
      · exact ⟨(LIw_W l1).2, v', e2, Or.inl e3⟩
      · exact ⟨(LIw_W l1).2, v', e2, Or.inl e3⟩
    · obtain ⟨t', bc', bs', l1, c1, c2, dis⟩ := hall _ _ hq1 _ _ hq2
      rcases dis with ⟨v', e1, -⟩ | ⟨E8, v', e1, e2, e3, e5, e6, y, rfl⟩
      · cases e1
      · cases e1
        cases e2
        refine pn_istore (q := 1223) dL_law_1221 rfl (by decide) ?_
        refine pn_aload_n (q := 1224) dL_law_1223 rfl rfl rfl ?_
        refine lw_Y (av := []) (bc9 := bc + 1 + E - mx - my) (bs9 := bs + 6 + F - sx - sy) (q := 1227) lkL_86 dL_law_1224 rfl (lt_thr adK l1) rfl wx' wy' rfl rfl rfl rfl rfl (by omega) (by omega) (by omega) (Nat.le_of_ble_eq_true rfl) (fun r h' hq => ⟨by rw [hq.2]; exact wy', _, hq.1, Or.inl ⟨_, rfl⟩⟩) (fun v3 hY3 hq3 wy3 => ?_)
        obtain ⟨q1, q2⟩ := hq3
        subst q2
        cases q1
        refine pn_iload (q := 1229) dL_law_1227 rfl rfl ?_
        refine pn_icmp_eq (q := 1232) (tgt := 1234) dL_law_1229 (by decide) rfl (fun _ => ?_) (fun hne => absurd (by rw [e3]) hne)
        refine pn_iload (q := 1236) dL_law_1234 rfl rfl ?_
        refine pn_if_ne (q := 1239) (tgt := 1251) dL_law_1236 (by decide) rfl (fun _ => ?_) (fun hne => absurd hne (cd_nz (by omega) (by omega)))
        refine pn_goto (q := 1417) dL_law_1251 (by decide) ?_
        exact pn_bud (pn_take 5 (kk _ _ _ _ bc' bs' l1)) (by omega) (by omega)
theorem lq_good (adK : Nat → Nat) {hX hY : List pnE} {t bc bs : Nat} (hL : LIw hX hY t bc bs) (x1 : Int32) : STP mX6_good mX7_good adK 100 100 [.int x1] hX hY bc bs (cd1 "java/lang/IllegalArgumentException") okI := by
  obtain ⟨b, tp, fp, N, A, Q, C, W, Z, ask, rf, Y, P, a, b1, c, e, f, g, h, e1, e2, hI, e3, h1, h2⟩ := hL
  rw [e1, e2]
  exact stp_mono (st_good adK x1 b tp fp N A Q C W Z ask rf Y P a b1 c e f g h hI) h1 h2
set_option maxRecDepth 100000 in
set_option maxHeartbeats 4000000 in
theorem lc_good {adK : Nat → Nat} {hX hY : List pnE} {o : Nat → Int64} {i t bc bs E F : Nat} (hn : adK 2001 ≤ 3072) (hi : i + 6 ≤ adK 2001) (hL : LIw hX hY t bc bs) (kk : LK adK i E F) : pnWP mL_law adK 104 QL (bc + 1 + E) (bs + 6 + F) (HW hX hY o) (LL adK i) [] 1254 := by
  obtain ⟨wx, wy⟩ := LIw_W hL
  obtain ⟨Qx, Qy, mx, sx, my, sy, hx, hy, b1, b2, ⟨r0, hY0, hq0⟩, hall⟩ := lq_good adK hL (nI (adK (3000 + (i + 1))))
  have fx : ∀ r h', Qx r h' → WX h' ∧ ((∃ v, r = .inl (some v) ∧ okI v) ∨ ∃ E, r = .inr E ∧ (E = "java/lang/IllegalArgumentException")) := fun r h' hq => by
    obtain ⟨t', bc', bs', l1, -, -, ⟨v, e1, -, -, e2⟩ | ⟨E9, v, e1, -, e2, e3, -, -⟩⟩ := hall r h' hq r0 hY0 hq0
    · exact ⟨(LIw_W l1).1, Or.inl ⟨v, e1, e2⟩⟩
    · exact ⟨(LIw_W l1).1, Or.inr ⟨E9, e1, cd1_p (by omega)⟩⟩
  refine pn_aload_n (q := 1255) dL_law_1254 rfl rfl rfl ?_
  refine pn_aload_n (q := 1256) dL_law_1255 rfl rfl rfl ?_
  refine pn_iload (q := 1258) dL_law_1256 rfl rfl ?_
  refine pn_iconst (q := 1259) (v := nI 1) dL_law_1258 rfl (by decide) ?_
  first | with_reducible refine pn_iaddN (q := 1260) dL_law_1259 rfl ?_ | refine pn_iadd (q := 1260) dL_law_1259 rfl ?_
  refine pn_sld (q := 1261) dL_law_1260 rfl (by omega) hn ?_
  refine pn_aload_n (q := 1262) dL_law_1261 rfl rfl rfl ?_
  refine lw_H (av := [.int (nI (adK (3000 + (i + 1))))]) (bc9 := bc + 1 + E - mx) (bs9 := bs + 6 + F - sx) (q := 1265) lkH_good dL_law_1262 rfl (hl_good _ hx wx fx) wx wy rfl rfl rfl rfl (by omega) (by omega) (by omega) (fun v hX' hq1 wx' => ?_) (fun E9 hX' hq1 wx' => ?_)
  · obtain ⟨x, rfl⟩ := hl_oI (fx _ _ hq1)
    refine pn_istore (q := 1267) dL_law_1265 rfl (by decide) ?_
    refine pn_aload_n (q := 1268) dL_law_1267 rfl rfl rfl ?_
    refine pn_aload_n (q := 1269) dL_law_1268 rfl rfl rfl ?_
    refine pn_iload (q := 1271) dL_law_1269 rfl rfl ?_
    refine pn_iconst (q := 1272) (v := nI 1) dL_law_1271 rfl (by decide) ?_
    first | with_reducible refine pn_iaddN (q := 1273) dL_law_1272 rfl ?_ | refine pn_iadd (q := 1273) dL_law_1272 rfl ?_
    refine pn_sld (q := 1274) dL_law_1273 rfl (by omega) hn ?_
    refine lw_Y (av := [.int (nI (adK (3000 + (i + 1))))]) (bc9 := bc + 1 + E - mx - my) (bs9 := bs + 6 + F - sx - sy) (q := 1277) lkL_158 dL_law_1274 rfl hy rfl wx' wy rfl rfl rfl rfl rfl (by omega) (by omega) (by omega) (Nat.le_of_ble_eq_true rfl) (fun r h' hq => ?_) (fun v hY' hq2 wy' => ?_)
    · obtain ⟨t', bc', bs', l1, -, -, ⟨v', -, -, e2, e3⟩ | ⟨E8, v', -, e2, -, -, -, e3⟩⟩ := hall _ _ hq1 r h' hq
      · exact ⟨(LIw_W l1).2, v', e2, Or.inl e3⟩
      · exact ⟨(LIw_W l1).2, v', e2, Or.inl e3⟩
    · obtain ⟨t', bc', bs', l1, c1, c2, dis⟩ := hall _ _ hq1 _ _ hq2
      rcases dis with ⟨v', e1, e2, e3, e4⟩ | ⟨E8, v', e1, -⟩
      · cases e1
        cases e3
        subst e2
        refine pn_istore (q := 1279) dL_law_1277 rfl (by decide) ?_
        refine pn_aload_n (q := 1280) dL_law_1279 rfl rfl rfl ?_
        refine lw_Y (av := []) (bc9 := bc + 1 + E - mx - my) (bs9 := bs + 6 + F - sx - sy) (q := 1283) lkL_86 dL_law_1280 rfl (lt_thr adK l1) rfl wx' wy' rfl rfl rfl rfl rfl (by omega) (by omega) (by omega) (Nat.le_of_ble_eq_true rfl) (fun r h' hq => ⟨by rw [hq.2]; exact wy', _, hq.1, Or.inl ⟨_, rfl⟩⟩) (fun v3 hY3 hq3 wy3 => ?_)
        obtain ⟨q1, q2⟩ := hq3
        subst q2
        cases q1
        refine pn_iload (q := 1285) dL_law_1283 rfl rfl ?_
        refine pn_icmp_eq (q := 1288) (tgt := 1290) dL_law_1285 (by decide) rfl (fun _ => ?_) (fun hne => absurd rfl hne)
        refine pn_iload (q := 1292) dL_law_1290 rfl rfl ?_
        refine pn_if_ne (q := 1295) (tgt := 1307) dL_law_1292 (by decide) rfl (fun hne => absurd rfl hne) (fun _ => ?_)
        refine pn_aload_n (q := 1296) dL_law_1295 rfl rfl rfl ?_
        refine pn_iconst (q := 1297) (v := nI 0) dL_law_1296 rfl (by decide) ?_
        refine pn_lald1 (q := 1298) (j := 0) dL_law_1297 rfl (HW_84 wx' wy') rfl (by decide) (by decide) ?_
        refine pn_iload (q := 1300) dL_law_1298 rfl rfl ?_
        refine pn_i2l (q := 1301) dL_law_1300 rfl ?_
        refine pn_leq (q1 := 1302) (q := 1305) (tgt := 1307) dL_law_1301 rfl dL_law_1302 (by decide) rfl (fun _ => ?_) (fun hne => absurd pk_uLs hne)
        refine pn_goto (q := 1417) dL_law_1307 (by decide) ?_
        exact pn_bud (pn_take 5 (kk _ _ _ _ bc' bs' l1)) (by omega) (by omega)
      · cases e1
  · refine pn_istore (q := 1267) dL_law_1265 rfl (by decide) ?_
    refine pn_aload_n (q := 1268) dL_law_1267 rfl rfl rfl ?_
    refine pn_aload_n (q := 1269) dL_law_1268 rfl rfl rfl ?_
    refine pn_iload (q := 1271) dL_law_1269 rfl rfl ?_
    refine pn_iconst (q := 1272) (v := nI 1) dL_law_1271 rfl (by decide) ?_
    first | with_reducible refine pn_iaddN (q := 1273) dL_law_1272 rfl ?_ | refine pn_iadd (q := 1273) dL_law_1272 rfl ?_
    refine pn_sld (q := 1274) dL_law_1273 rfl (by omega) hn ?_
    refine lw_Y (av := [.int (nI (adK (3000 + (i + 1))))]) (bc9 := bc + 1 + E - mx - my) (bs9 := bs + 6 + F - sx - sy) (q := 1277) lkL_158 dL_law_1274 rfl hy rfl wx' wy rfl rfl rfl rfl rfl (by omega) (by omega) (by omega) (Nat.le_of_ble_eq_true rfl) (fun r h' hq => ?_) (fun v hY' hq2 wy' => ?_)
    · obtain ⟨t', bc', bs', l1, -, -, ⟨v', -, -, e2, e3⟩ | ⟨E8, v', -, e2, -, -, -, e3⟩⟩ := hall _ _ hq1 r h' hq
      · exact ⟨(LIw_W l1).2, v', e2, Or.inl e3⟩
      · exact ⟨(LIw_W l1).2, v', e2, Or.inl e3⟩
    · obtain ⟨t', bc', bs', l1, c1, c2, dis⟩ := hall _ _ hq1 _ _ hq2
      rcases dis with ⟨v', e1, -⟩ | ⟨E8, v', e1, e2, e3, e5, e6, y, rfl⟩
      · cases e1
      · cases e1
        cases e2
        refine pn_istore (q := 1279) dL_law_1277 rfl (by decide) ?_
        refine pn_aload_n (q := 1280) dL_law_1279 rfl rfl rfl ?_
        refine lw_Y (av := []) (bc9 := bc + 1 + E - mx - my) (bs9 := bs + 6 + F - sx - sy) (q := 1283) lkL_86 dL_law_1280 rfl (lt_thr adK l1) rfl wx' wy' rfl rfl rfl rfl rfl (by omega) (by omega) (by omega) (Nat.le_of_ble_eq_true rfl) (fun r h' hq => ⟨by rw [hq.2]; exact wy', _, hq.1, Or.inl ⟨_, rfl⟩⟩) (fun v3 hY3 hq3 wy3 => ?_)
        obtain ⟨q1, q2⟩ := hq3
        subst q2
        cases q1
        refine pn_iload (q := 1285) dL_law_1283 rfl rfl ?_
        refine pn_icmp_eq (q := 1288) (tgt := 1290) dL_law_1285 (by decide) rfl (fun _ => ?_) (fun hne => absurd (by rw [e3]) hne)
        refine pn_iload (q := 1292) dL_law_1290 rfl rfl ?_
        refine pn_if_ne (q := 1295) (tgt := 1307) dL_law_1292 (by decide) rfl (fun _ => ?_) (fun hne => absurd hne (cd_nz (by omega) (by omega)))
        refine pn_goto (q := 1417) dL_law_1307 (by decide) ?_
        exact pn_bud (pn_take 5 (kk _ _ _ _ bc' bs' l1)) (by omega) (by omega)
theorem lq_base (adK : Nat → Nat) {hX hY : List pnE} {t bc bs : Nat} (hL : LIw hX hY t bc bs) (x1 x2 : Int32) : STP mX6_base mX7_base adK 100 100 [.int x1, .int x2] hX hY bc bs (cd1 "java/util/NoSuchElementException") okI := by
  obtain ⟨b, tp, fp, N, A, Q, C, W, Z, ask, rf, Y, P, a, b1, c, e, f, g, h, e1, e2, hI, e3, h1, h2⟩ := hL
  rw [e1, e2]
  exact stp_mono (st_base adK x1 x2 b tp fp N A Q C W Z ask rf Y P a b1 c e f g h hI) h1 h2
set_option maxRecDepth 100000 in
set_option maxHeartbeats 4000000 in
theorem lc_base {adK : Nat → Nat} {hX hY : List pnE} {o : Nat → Int64} {i t bc bs E F : Nat} (hn : adK 2001 ≤ 3072) (hi : i + 6 ≤ adK 2001) (hL : LIw hX hY t bc bs) (kk : LK adK i E F) : pnWP mL_law adK 104 QL (bc + 1 + E) (bs + 6 + F) (HW hX hY o) (LL adK i) [] 1310 := by
  obtain ⟨wx, wy⟩ := LIw_W hL
  obtain ⟨Qx, Qy, mx, sx, my, sy, hx, hy, b1, b2, ⟨r0, hY0, hq0⟩, hall⟩ := lq_base adK hL (nI (adK (3000 + (i + 1)))) (nI (adK (3000 + (i + 2))))
  have fx : ∀ r h', Qx r h' → WX h' ∧ ((∃ v, r = .inl (some v) ∧ okI v) ∨ ∃ E, r = .inr E ∧ (E = "java/util/NoSuchElementException")) := fun r h' hq => by
    obtain ⟨t', bc', bs', l1, -, -, ⟨v, e1, -, -, e2⟩ | ⟨E9, v, e1, -, e2, e3, -, -⟩⟩ := hall r h' hq r0 hY0 hq0
    · exact ⟨(LIw_W l1).1, Or.inl ⟨v, e1, e2⟩⟩
    · exact ⟨(LIw_W l1).1, Or.inr ⟨E9, e1, cd1_p (by omega)⟩⟩
  refine pn_aload_n (q := 1311) dL_law_1310 rfl rfl rfl ?_
  refine pn_aload_n (q := 1312) dL_law_1311 rfl rfl rfl ?_
  refine pn_iload (q := 1314) dL_law_1312 rfl rfl ?_
  refine pn_iconst (q := 1315) (v := nI 1) dL_law_1314 rfl (by decide) ?_
  first | with_reducible refine pn_iaddN (q := 1316) dL_law_1315 rfl ?_ | refine pn_iadd (q := 1316) dL_law_1315 rfl ?_
  refine pn_sld (q := 1317) dL_law_1316 rfl (by omega) hn ?_
  refine pn_aload_n (q := 1318) dL_law_1317 rfl rfl rfl ?_
  refine pn_iload (q := 1320) dL_law_1318 rfl rfl ?_
  refine pn_iconst (q := 1321) (v := nI 2) dL_law_1320 rfl (by decide) ?_
  first | with_reducible refine pn_iaddN (q := 1322) dL_law_1321 rfl ?_ | refine pn_iadd (q := 1322) dL_law_1321 rfl ?_
  refine pn_sld (q := 1323) dL_law_1322 rfl (by omega) hn ?_
  refine pn_aload_n (q := 1324) dL_law_1323 rfl rfl rfl ?_
  refine lw_H (av := [.int (nI (adK (3000 + (i + 1)))), .int (nI (adK (3000 + (i + 2))))]) (bc9 := bc + 1 + E - mx) (bs9 := bs + 6 + F - sx) (q := 1327) lkH_base dL_law_1324 rfl (hl_base _ _ hx wx fx) wx wy rfl rfl rfl rfl (by omega) (by omega) (by omega) (fun v hX' hq1 wx' => ?_) (fun E9 hX' hq1 wx' => ?_)
  · obtain ⟨x, rfl⟩ := hl_oI (fx _ _ hq1)
    refine pn_istore (q := 1329) dL_law_1327 rfl (by decide) ?_
    refine pn_aload_n (q := 1330) dL_law_1329 rfl rfl rfl ?_
    refine pn_aload_n (q := 1331) dL_law_1330 rfl rfl rfl ?_
    refine pn_iload (q := 1333) dL_law_1331 rfl rfl ?_
    refine pn_iconst (q := 1334) (v := nI 1) dL_law_1333 rfl (by decide) ?_
    first | with_reducible refine pn_iaddN (q := 1335) dL_law_1334 rfl ?_ | refine pn_iadd (q := 1335) dL_law_1334 rfl ?_
    refine pn_sld (q := 1336) dL_law_1335 rfl (by omega) hn ?_
    refine pn_aload_n (q := 1337) dL_law_1336 rfl rfl rfl ?_
    refine pn_iload (q := 1339) dL_law_1337 rfl rfl ?_
    refine pn_iconst (q := 1340) (v := nI 2) dL_law_1339 rfl (by decide) ?_
    first | with_reducible refine pn_iaddN (q := 1341) dL_law_1340 rfl ?_ | refine pn_iadd (q := 1341) dL_law_1340 rfl ?_
    refine pn_sld (q := 1342) dL_law_1341 rfl (by omega) hn ?_
    refine lw_Y (av := [.int (nI (adK (3000 + (i + 1)))), .int (nI (adK (3000 + (i + 2))))]) (bc9 := bc + 1 + E - mx - my) (bs9 := bs + 6 + F - sx - sy) (q := 1345) lkL_161 dL_law_1342 rfl hy rfl wx' wy rfl rfl rfl rfl rfl (by omega) (by omega) (by omega) (Nat.le_of_ble_eq_true rfl) (fun r h' hq => ?_) (fun v hY' hq2 wy' => ?_)
    · obtain ⟨t', bc', bs', l1, -, -, ⟨v', -, -, e2, e3⟩ | ⟨E8, v', -, e2, -, -, -, e3⟩⟩ := hall _ _ hq1 r h' hq
      · exact ⟨(LIw_W l1).2, v', e2, Or.inl e3⟩
      · exact ⟨(LIw_W l1).2, v', e2, Or.inl e3⟩
    · obtain ⟨t', bc', bs', l1, c1, c2, dis⟩ := hall _ _ hq1 _ _ hq2
      rcases dis with ⟨v', e1, e2, e3, e4⟩ | ⟨E8, v', e1, -⟩
      · cases e1
        cases e3
        subst e2
        refine pn_istore (q := 1347) dL_law_1345 rfl (by decide) ?_
        refine pn_aload_n (q := 1348) dL_law_1347 rfl rfl rfl ?_
        refine lw_Y (av := []) (bc9 := bc + 1 + E - mx - my) (bs9 := bs + 6 + F - sx - sy) (q := 1351) lkL_86 dL_law_1348 rfl (lt_thr adK l1) rfl wx' wy' rfl rfl rfl rfl rfl (by omega) (by omega) (by omega) (Nat.le_of_ble_eq_true rfl) (fun r h' hq => ⟨by rw [hq.2]; exact wy', _, hq.1, Or.inl ⟨_, rfl⟩⟩) (fun v3 hY3 hq3 wy3 => ?_)
        obtain ⟨q1, q2⟩ := hq3
        subst q2
        cases q1
        refine pn_iload (q := 1353) dL_law_1351 rfl rfl ?_
        refine pn_icmp_eq (q := 1356) (tgt := 1358) dL_law_1353 (by decide) rfl (fun _ => ?_) (fun hne => absurd rfl hne)
        refine pn_iload (q := 1360) dL_law_1358 rfl rfl ?_
        refine pn_if_ne (q := 1363) (tgt := 1375) dL_law_1360 (by decide) rfl (fun hne => absurd rfl hne) (fun _ => ?_)
        refine pn_aload_n (q := 1364) dL_law_1363 rfl rfl rfl ?_
        refine pn_iconst (q := 1365) (v := nI 0) dL_law_1364 rfl (by decide) ?_
        refine pn_lald1 (q := 1366) (j := 0) dL_law_1365 rfl (HW_84 wx' wy') rfl (by decide) (by decide) ?_
        refine pn_iload (q := 1368) dL_law_1366 rfl rfl ?_
        refine pn_i2l (q := 1369) dL_law_1368 rfl ?_
        refine pn_leq (q1 := 1370) (q := 1373) (tgt := 1375) dL_law_1369 rfl dL_law_1370 (by decide) rfl (fun _ => ?_) (fun hne => absurd pk_uLs hne)
        refine pn_goto (q := 1417) dL_law_1375 (by decide) ?_
        exact pn_bud (pn_take 5 (kk _ _ _ _ bc' bs' l1)) (by omega) (by omega)
      · cases e1
  · refine pn_istore (q := 1329) dL_law_1327 rfl (by decide) ?_
    refine pn_aload_n (q := 1330) dL_law_1329 rfl rfl rfl ?_
    refine pn_aload_n (q := 1331) dL_law_1330 rfl rfl rfl ?_
    refine pn_iload (q := 1333) dL_law_1331 rfl rfl ?_
    refine pn_iconst (q := 1334) (v := nI 1) dL_law_1333 rfl (by decide) ?_
    first | with_reducible refine pn_iaddN (q := 1335) dL_law_1334 rfl ?_ | refine pn_iadd (q := 1335) dL_law_1334 rfl ?_
    refine pn_sld (q := 1336) dL_law_1335 rfl (by omega) hn ?_
    refine pn_aload_n (q := 1337) dL_law_1336 rfl rfl rfl ?_
    refine pn_iload (q := 1339) dL_law_1337 rfl rfl ?_
    refine pn_iconst (q := 1340) (v := nI 2) dL_law_1339 rfl (by decide) ?_
    first | with_reducible refine pn_iaddN (q := 1341) dL_law_1340 rfl ?_ | refine pn_iadd (q := 1341) dL_law_1340 rfl ?_
    refine pn_sld (q := 1342) dL_law_1341 rfl (by omega) hn ?_
    refine lw_Y (av := [.int (nI (adK (3000 + (i + 1)))), .int (nI (adK (3000 + (i + 2))))]) (bc9 := bc + 1 + E - mx - my) (bs9 := bs + 6 + F - sx - sy) (q := 1345) lkL_161 dL_law_1342 rfl hy rfl wx' wy rfl rfl rfl rfl rfl (by omega) (by omega) (by omega) (Nat.le_of_ble_eq_true rfl) (fun r h' hq => ?_) (fun v hY' hq2 wy' => ?_)
    · obtain ⟨t', bc', bs', l1, -, -, ⟨v', -, -, e2, e3⟩ | ⟨E8, v', -, e2, -, -, -, e3⟩⟩ := hall _ _ hq1 r h' hq
      · exact ⟨(LIw_W l1).2, v', e2, Or.inl e3⟩
      · exact ⟨(LIw_W l1).2, v', e2, Or.inl e3⟩
    · obtain ⟨t', bc', bs', l1, c1, c2, dis⟩ := hall _ _ hq1 _ _ hq2
      rcases dis with ⟨v', e1, -⟩ | ⟨E8, v', e1, e2, e3, e5, e6, y, rfl⟩
      · cases e1
      · cases e1
        cases e2
        refine pn_istore (q := 1347) dL_law_1345 rfl (by decide) ?_
        refine pn_aload_n (q := 1348) dL_law_1347 rfl rfl rfl ?_
        refine lw_Y (av := []) (bc9 := bc + 1 + E - mx - my) (bs9 := bs + 6 + F - sx - sy) (q := 1351) lkL_86 dL_law_1348 rfl (lt_thr adK l1) rfl wx' wy' rfl rfl rfl rfl rfl (by omega) (by omega) (by omega) (Nat.le_of_ble_eq_true rfl) (fun r h' hq => ⟨by rw [hq.2]; exact wy', _, hq.1, Or.inl ⟨_, rfl⟩⟩) (fun v3 hY3 hq3 wy3 => ?_)
        obtain ⟨q1, q2⟩ := hq3
        subst q2
        cases q1
        refine pn_iload (q := 1353) dL_law_1351 rfl rfl ?_
        refine pn_icmp_eq (q := 1356) (tgt := 1358) dL_law_1353 (by decide) rfl (fun _ => ?_) (fun hne => absurd (by rw [e3]) hne)
        refine pn_iload (q := 1360) dL_law_1358 rfl rfl ?_
        refine pn_if_ne (q := 1363) (tgt := 1375) dL_law_1360 (by decide) rfl (fun _ => ?_) (fun hne => absurd hne (cd_nz (by omega) (by omega)))
        refine pn_goto (q := 1417) dL_law_1375 (by decide) ?_
        exact pn_bud (pn_take 5 (kk _ _ _ _ bc' bs' l1)) (by omega) (by omega)
theorem lq_print (adK : Nat → Nat) {hX hY : List pnE} {t bc bs : Nat} (hL : LIw hX hY t bc bs) : STQ mX6_print mX7_print adK 100 100 [] hX hY bc bs okL := by
  obtain ⟨b, tp, fp, N, A, Q, C, W, Z, ask, rf, Y, P, a, b1, c, e, f, g, h, e1, e2, hI, e3, h1, h2⟩ := hL
  rw [e1, e2]
  exact stq_mono (st_print adK b tp fp N A Q C W Z ask rf Y P a b1 c e f g h hI) h1 h2
set_option maxRecDepth 100000 in
set_option maxHeartbeats 4000000 in
theorem lc_print {adK : Nat → Nat} {hX hY : List pnE} {o : Nat → Int64} {i t bc bs E F : Nat} (hn : adK 2001 ≤ 3072) (hi : i + 6 ≤ adK 2001) (hL : LIw hX hY t bc bs) (kk : LK adK i E F) : pnWP mL_law adK 104 QL (bc + 1 + E) (bs + 6 + F) (HW hX hY o) (LL adK i) [] 1378 := by
  obtain ⟨wx, wy⟩ := LIw_W hL
  obtain ⟨Qx, Qy, mx, sx, my, sy, hx, hy, b1, b2, ⟨r0, hY0, hq0⟩, hall⟩ := lq_print adK hL
  have fx : ∀ r h', Qx r h' → WX h' ∧ ∃ v, r = .inl (some v) ∧ okL v := fun r h' hq => by
    obtain ⟨t', bc', bs', l1, -, -, v, e1, -, e2⟩ := hall r h' hq r0 hY0 hq0
    exact ⟨(LIw_W l1).1, v, e1, e2⟩
  refine pn_aload_n (q := 1379) dL_law_1378 rfl rfl rfl ?_
  refine lw_X (av := []) (bc9 := bc + 1 + E - mx) (bs9 := bs + 6 + F - sx) (q := 1382) lkL_162 dL_law_1379 rfl hx rfl wx wy rfl rfl rfl rfl rfl (by omega) (by omega) (by omega) (Nat.le_of_ble_eq_true rfl) (fun r h' hq => lw_fL (fx r h' hq)) (fun v hX' hq1 wx' => ?_)
  obtain ⟨x, rfl⟩ := lw_oL (fx _ _ hq1)
  refine pn_aload_n (q := 1383) dL_law_1382 rfl rfl rfl ?_
  refine lw_Y (av := []) (bc9 := bc + 1 + E - mx - my) (bs9 := bs + 6 + F - sx - sy) (q := 1386) lkL_165 dL_law_1383 rfl hy rfl wx' wy rfl rfl rfl rfl rfl (by omega) (by omega) (by omega) (Nat.le_of_ble_eq_true rfl) (fun r h' hq => ?_) (fun v hY' hq2 wy' => ?_)
  · obtain ⟨t', bc', bs', l1, -, -, v', e1, e2, e3⟩ := hall _ _ hq1 r h' hq
    exact ⟨(LIw_W l1).2, v', e2, Or.inr e3⟩
  · obtain ⟨t', bc', bs', l1, c1, c2, v', e1, e2, e3⟩ := hall _ _ hq1 _ _ hq2
    cases e1
    cases e2
    refine pn_leq (q1 := 1387) (q := 1390) (tgt := 1417) dL_law_1386 rfl dL_law_1387 (by decide) rfl (fun _ => ?_) (fun hne => absurd rfl hne)
    exact pn_bud (kk _ _ _ _ bc' bs' l1) (by omega) (by omega)
theorem lq_status (adK : Nat → Nat) {hX hY : List pnE} {t bc bs : Nat} (hL : LIw hX hY t bc bs) (x1 : Int32) : STQ mX6_status mX7_status adK 100 100 [.int x1] hX hY bc bs okI := by
  obtain ⟨b, tp, fp, N, A, Q, C, W, Z, ask, rf, Y, P, a, b1, c, e, f, g, h, e1, e2, hI, e3, h1, h2⟩ := hL
  rw [e1, e2]
  exact stq_mono (st_status adK x1 b tp fp N A Q C W Z ask rf Y P a b1 c e f g h hI) h1 h2
set_option maxRecDepth 100000 in
set_option maxHeartbeats 4000000 in
theorem lc_status {adK : Nat → Nat} {hX hY : List pnE} {o : Nat → Int64} {i t bc bs E F : Nat} (hn : adK 2001 ≤ 3072) (hi : i + 6 ≤ adK 2001) (hL : LIw hX hY t bc bs) (kk : LK adK i E F) : pnWP mL_law adK 104 QL (bc + 1 + E) (bs + 6 + F) (HW hX hY o) (LL adK i) [] 1392 := by
  obtain ⟨wx, wy⟩ := LIw_W hL
  obtain ⟨Qx, Qy, mx, sx, my, sy, hx, hy, b1, b2, ⟨r0, hY0, hq0⟩, hall⟩ := lq_status adK hL (nI (adK (3000 + (i + 1))))
  have fx : ∀ r h', Qx r h' → WX h' ∧ ∃ v, r = .inl (some v) ∧ okI v := fun r h' hq => by
    obtain ⟨t', bc', bs', l1, -, -, v, e1, -, e2⟩ := hall r h' hq r0 hY0 hq0
    exact ⟨(LIw_W l1).1, v, e1, e2⟩
  refine pn_aload_n (q := 1393) dL_law_1392 rfl rfl rfl ?_
  refine pn_aload_n (q := 1394) dL_law_1393 rfl rfl rfl ?_
  refine pn_iload (q := 1396) dL_law_1394 rfl rfl ?_
  refine pn_iconst (q := 1397) (v := nI 1) dL_law_1396 rfl (by decide) ?_
  first | with_reducible refine pn_iaddN (q := 1398) dL_law_1397 rfl ?_ | refine pn_iadd (q := 1398) dL_law_1397 rfl ?_
  refine pn_sld (q := 1399) dL_law_1398 rfl (by omega) hn ?_
  refine lw_X (av := [.int (nI (adK (3000 + (i + 1))))]) (bc9 := bc + 1 + E - mx) (bs9 := bs + 6 + F - sx) (q := 1402) lkL_166 dL_law_1399 rfl hx rfl wx wy rfl rfl rfl rfl rfl (by omega) (by omega) (by omega) (Nat.le_of_ble_eq_true rfl) (fun r h' hq => lw_fI (fx r h' hq)) (fun v hX' hq1 wx' => ?_)
  obtain ⟨x, rfl⟩ := lw_oI (fx _ _ hq1)
  refine pn_aload_n (q := 1403) dL_law_1402 rfl rfl rfl ?_
  refine pn_aload_n (q := 1404) dL_law_1403 rfl rfl rfl ?_
  refine pn_iload (q := 1406) dL_law_1404 rfl rfl ?_
  refine pn_iconst (q := 1407) (v := nI 1) dL_law_1406 rfl (by decide) ?_
  first | with_reducible refine pn_iaddN (q := 1408) dL_law_1407 rfl ?_ | refine pn_iadd (q := 1408) dL_law_1407 rfl ?_
  refine pn_sld (q := 1409) dL_law_1408 rfl (by omega) hn ?_
  refine lw_Y (av := [.int (nI (adK (3000 + (i + 1))))]) (bc9 := bc + 1 + E - mx - my) (bs9 := bs + 6 + F - sx - sy) (q := 1412) lkL_169 dL_law_1409 rfl hy rfl wx' wy rfl rfl rfl rfl rfl (by omega) (by omega) (by omega) (Nat.le_of_ble_eq_true rfl) (fun r h' hq => ?_) (fun v hY' hq2 wy' => ?_)
  · obtain ⟨t', bc', bs', l1, -, -, v', e1, e2, e3⟩ := hall _ _ hq1 r h' hq
    exact ⟨(LIw_W l1).2, v', e2, Or.inl e3⟩
  · obtain ⟨t', bc', bs', l1, c1, c2, v', e1, e2, e3⟩ := hall _ _ hq1 _ _ hq2
    cases e1
    cases e2
    refine pn_icmp_eq (q := 1415) (tgt := 1417) dL_law_1412 (by decide) rfl (fun _ => ?_) (fun hne => absurd rfl hne)
    exact pn_bud (kk _ _ _ _ bc' bs' l1) (by omega) (by omega)
