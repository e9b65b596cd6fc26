/-! ===== throw new E(text) ===== -/
theorem pn_xc {Q : pnR → List pnE → Prop} {D : va_G} {τ : Nat → ClassId} {A : Nat → Prop} {n0 : Nat} {σ0 σ : Nat → Nat} {mv0 : Nat → Bool} {h : List pnE} {s t : State} {H : Heap} {locs : List Loc} {E : String} (hQ : Q (.inr E) h)
    (w1 : va_P D vwCl (pnW τ σ h) H) (w2 : va_D A (pnW τ σ h)) (w3 : va_S A s.heap H locs) (w4 : n0 ≤ h.length) (w5 : pnKeep n0 σ0 σ mv0 h) (w6 : pnCH h) (h1 : H.size ≤ t.heap.size) (h2 : ∀ q : Nat, q < H.size → t.heap[q]? = H[q]?) : pnXC Q D τ A n0 σ0 mv0 E s t :=
  ⟨h, σ, hQ, w6, fun v hv => (by cases hv), w4, w5, fun i x ex => (w1 i x ex).kept (h2 _ (w1 i x ex).lt), w2, ⟨Nat.le_trans w3.1 h1, fun q hq hA => (h2 q (Nat.lt_of_lt_of_le hq w3.1)).trans (w3.2.1 q hq hA)⟩⟩
def pnHas (w : Cond) : Prop := w ∈ pnG ∨ (w ∈ pnN ∧ w.onTables = true) ∨ ∃ (x : MethodName) (b : ByteArray) (n : Nat) (r : Option FieldType), w = .declares x ∧ Cond.instanceMethod x ∈ pnG ∧ Cond.code x b n r ∈ pnG
theorem pn_declares {args : Array Value} {s : State} {x : MethodName} {b : ByteArray} {n : Nat} {r : Option FieldType} (hi : (Cond.instanceMethod x).before args s = true) (hc : (Cond.code x b n r).before args s = true) : (Cond.declares x).before args s = true := by
  obtain ⟨r0, m, h1, h2, h3, h4⟩ := va_Decl.of hi hc
  show (Cond.declares x).holds args s none s [] = true
  simp [Cond.holds, Cond.value, h1, h2, h3, h4]
theorem pn_thrS {M : pnM} {adK : Nat → Nat} {d : Nat} {Q : pnR → List pnE → Prop} {bc bs : Nat} {h : List pnE} {L : List (Option Value)} {st : List Value} {pc : Nat} {ik is ic j : Nat} {cls text : String} {names : List String} (hj : pnStr[j]? = some (M.1.cls, is, text)) (hcls : Bundle.fit cls = true) (hnames : ∀ n ∈ names, Bundle.fit n = true) (hln : names.length = 2) (hk : Cond.classLink M.1.cls ik cls ∈ pnG) (hini : Cond.initialized cls ∈ pnG) (hat : ∀ w ∈ vx_atS M.1.cls ic cls names, pnHas w) (hgood : ∀ w ∈ Cond.classLink M.1.cls ik cls :: Cond.initialized cls :: vx_atS M.1.cls ic cls names, vx_ot w = true) (d0 : decode M.2.1 pc = .ok (.new ik, 3)) (d3 : decode M.2.1 (pc + 3) = .ok (.dup, 1)) (d4 : decode M.2.1 (pc + 4) = .ok (.ldc is, 2)) (d6 : decode M.2.1 (pc + 6) = .ok (.invokespecial ic, 3)) (d9 : decode M.2.1 (pc + 9) = .ok (.athrow, 1)) (hh : M.2.2.2.2 = []) (hd : 6 ≤ d) (hs8 : (st.map fun v => v.category).sum ≤ 8) (hQ : Q (.inr cls) h) : pnWP M adK d Q (bc + 1) (bs + 6) h L st pc := by
  intro p l e R s m args below meth c D τ A b0 adV mc ms n0 σ0 σ mv0 H locs cells slots ls ok w
  have ok2 := ok
  obtain ⟨hx, hb, hr, hml, hown, hts, hlk, hnm, htab, hK, hA, hAb, hb0, hLow, hst, hfr, hlo, hRc, hRs⟩ := ok2
  obtain ⟨w1, w2, w3, w4, w5, w6, w7, w8, w9, w10, w11⟩ := w
  have htb : c.exceptionTable.toList = [] := by
    have : c.exceptionTable.toList = tableOf M.2.2.2.2 := htab
    rw [hh] at this; exact this
  refine vx_throwS (A := A) (sa := adK j) hx hb hst hown hcls hnames (hts _ hk) (hts _ hini) (hLow.1 j _ hj).1 (fun w hw => ?_) hgood (hLow.2.1.narrow hAb) (hLow.2.2.1.narrow hAb) w3 (w9.1.trans hml.symm) d0 d3 d4 d6 d9 (fun x hx9 => by rw [htb] at hx9; cases hx9) (by rw [hln]; omega) ?_ (by omega) (by omega) hlk (fun t _ h1 h2 => pn_xc hQ w1 w2 w3 w4 w5 w6 h1 h2) w3.2.2 (by omega) (by omega)
  · rcases hat w hw with h9 | ⟨h9, h8⟩ | ⟨x9, b9, n9, r9, e9, h9, h8⟩
    · exact hts w h9
    · exact va_Nw.use h8 (hLow.2.2.2.2.1 w h9)
    · rw [e9]; exact pn_declares (hts _ h9) (hts _ h8)
  · rw [pnCatSum]; rw [hln]; omega
theorem pn_thrW {M : pnM} {adK : Nat → Nat} {d : Nat} {Q : pnR → List pnE → Prop} {bc bs : Nat} {h : List pnE} {L : List (Option Value)} {st : List Value} {pc : Nat} {ik is ic j : Nat} {cls text : String} {names : List String} (hj : pnStr[j]? = some (M.1.cls, is, text)) (hcls : Bundle.fit cls = true) (hnames : ∀ n ∈ names, Bundle.fit n = true) (hln : names.length = 2) (hk : Cond.classLink M.1.cls ik cls ∈ pnG) (hini : Cond.initialized cls ∈ pnG) (hat : ∀ w ∈ vx_atS M.1.cls ic cls names, pnHas w) (hgood : ∀ w ∈ Cond.classLink M.1.cls ik cls :: Cond.initialized cls :: vx_atS M.1.cls ic cls names, vx_ot w = true) (d0 : decode M.2.1 pc = .ok (.new ik, 3)) (d3 : decode M.2.1 (pc + 3) = .ok (.dup, 1)) (d4 : decode M.2.1 (pc + 4) = .ok (.ldc_w is, 3)) (d6 : decode M.2.1 (pc + 7) = .ok (.invokespecial ic, 3)) (d9 : decode M.2.1 (pc + 10) = .ok (.athrow, 1)) (hh : M.2.2.2.2 = []) (hd : 6 ≤ d) (hs8 : (st.map fun v => v.category).sum ≤ 8) (hQ : Q (.inr cls) h) : pnWP M adK d Q (bc + 1) (bs + 6) h L st pc := by
  intro p l e R s m args below meth c D τ A b0 adV mc ms n0 σ0 σ mv0 H locs cells slots ls ok w
  have ok2 := ok
  obtain ⟨hx, hb, hr, hml, hown, hts, hlk, hnm, htab, hK, hA, hAb, hb0, hLow, hst, hfr, hlo, hRc, hRs⟩ := ok2
  obtain ⟨w1, w2, w3, w4, w5, w6, w7, w8, w9, w10, w11⟩ := w
  have htb : c.exceptionTable.toList = [] := by
    have : c.exceptionTable.toList = tableOf M.2.2.2.2 := htab
    rw [hh] at this; exact this
  refine vx_throwSW (A := A) (sa := adK j) hx hb hst hown hcls hnames (hts _ hk) (hts _ hini) (hLow.1 j _ hj).1 (fun w hw => ?_) hgood (hLow.2.1.narrow hAb) (hLow.2.2.1.narrow hAb) w3 (w9.1.trans hml.symm) d0 d3 d4 d6 d9 (fun x hx9 => by rw [htb] at hx9; cases hx9) (by rw [hln]; omega) ?_ (by omega) (by omega) hlk (fun t _ h1 h2 => pn_xc hQ w1 w2 w3 w4 w5 w6 h1 h2) w3.2.2 (by omega) (by omega)
  · rcases hat w hw with h9 | ⟨h9, h8⟩ | ⟨x9, b9, n9, r9, e9, h9, h8⟩
    · exact hts w h9
    · exact va_Nw.use h8 (hLow.2.2.2.2.1 w h9)
    · rw [e9]; exact pn_declares (hts _ h9) (hts _ h8)
  · rw [pnCatSum]; rw [hln]; omega
theorem pn_thrNS {M : pnM} {adK : Nat → Nat} {d : Nat} {Q : pnR → List pnE → Prop} {bc bs : Nat} {h : List pnE} {L : List (Option Value)} {st : List Value} {pc : Nat} {ik is ic j : Nat} {cls text : String} (hj : pnStr[j]? = some (M.1.cls, is, text)) (hcls : Bundle.fit cls = true) (hk : Cond.classLink M.1.cls ik cls ∈ pnG) (hini : Cond.initialized cls ∈ pnG) (hat : ∀ w ∈ (pn_atN M.1.cls ic cls).filter vx_no, pnHas w) (hgood : ∀ w ∈ Cond.classLink M.1.cls ik cls :: Cond.initialized cls :: (pn_atN M.1.cls ic cls).filter vx_no, vx_ot w = true) (d0 : decode M.2.1 pc = .ok (.new ik, 3)) (d3 : decode M.2.1 (pc + 3) = .ok (.dup, 1)) (d4 : decode M.2.1 (pc + 4) = .ok (.ldc is, 2)) (d6 : decode M.2.1 (pc + 6) = .ok (.invokespecial ic, 3)) (d9 : decode M.2.1 (pc + 9) = .ok (.athrow, 1)) (hh : M.2.2.2.2 = []) (hd : 6 ≤ d) (hs8 : (st.map fun v => v.category).sum ≤ 8) (hQ : Q (.inr cls) h) : pnWP M adK d Q (bc + 1) (bs + 6) h L st pc := by
  intro p l e R s m args below meth c D τ A b0 adV mc ms n0 σ0 σ mv0 H locs cells slots ls ok w
  have ok2 := ok
  obtain ⟨hx, hb, hr, hml, hown, hts, hlk, hnm, htab, hK, hA, hAb, hb0, hLow, hst, hfr, hlo, hRc, hRs⟩ := ok2
  obtain ⟨w1, w2, w3, w4, w5, w6, w7, w8, w9, w10, w11⟩ := w
  have htb : c.exceptionTable.toList = [] := by
    have : c.exceptionTable.toList = tableOf M.2.2.2.2 := htab
    rw [hh] at this; exact this
  refine pn_throwNS (A := A) (sa := adK j) hx hb hst hown hcls (hts _ hk) (hts _ hini) (hLow.1 j _ hj).1 (fun w hw => ?_) hgood (hLow.2.1.narrow hAb) (hLow.2.2.1.narrow hAb) w3 (w9.1.trans hml.symm) d0 d3 d4 d6 d9 (fun x hx9 => by rw [htb] at hx9; cases hx9) (by omega) ?_ (by omega) (by omega) hlk (fun t _ h1 h2 => pn_xc hQ w1 w2 w3 w4 w5 w6 h1 h2) w3.2.2 (by omega) (by omega)
  · rcases hat w hw with h9 | ⟨h9, h8⟩ | ⟨x9, b9, n9, r9, e9, h9, h8⟩
    · exact hts w h9
    · exact va_Nw.use h8 (hLow.2.2.2.2.1 w h9)
    · rw [e9]; exact pn_declares (hts _ h9) (hts _ h8)
  · rw [pnCatSum]; omega
theorem pn_thrNW {M : pnM} {adK : Nat → Nat} {d : Nat} {Q : pnR → List pnE → Prop} {bc bs : Nat} {h : List pnE} {L : List (Option Value)} {st : List Value} {pc : Nat} {ik is ic j : Nat} {cls text : String} (hj : pnStr[j]? = some (M.1.cls, is, text)) (hcls : Bundle.fit cls = true) (hk : Cond.classLink M.1.cls ik cls ∈ pnG) (hini : Cond.initialized cls ∈ pnG) (hat : ∀ w ∈ (pn_atN M.1.cls ic cls).filter vx_no, pnHas w) (hgood : ∀ w ∈ Cond.classLink M.1.cls ik cls :: Cond.initialized cls :: (pn_atN M.1.cls ic cls).filter vx_no, vx_ot w = true) (d0 : decode M.2.1 pc = .ok (.new ik, 3)) (d3 : decode M.2.1 (pc + 3) = .ok (.dup, 1)) (d4 : decode M.2.1 (pc + 4) = .ok (.ldc_w is, 3)) (d6 : decode M.2.1 (pc + 7) = .ok (.invokespecial ic, 3)) (d9 : decode M.2.1 (pc + 10) = .ok (.athrow, 1)) (hh : M.2.2.2.2 = []) (hd : 6 ≤ d) (hs8 : (st.map fun v => v.category).sum ≤ 8) (hQ : Q (.inr cls) h) : pnWP M adK d Q (bc + 1) (bs + 6) h L st pc := by
  intro p l e R s m args below meth c D τ A b0 adV mc ms n0 σ0 σ mv0 H locs cells slots ls ok w
  have ok2 := ok
  obtain ⟨hx, hb, hr, hml, hown, hts, hlk, hnm, htab, hK, hA, hAb, hb0, hLow, hst, hfr, hlo, hRc, hRs⟩ := ok2
  obtain ⟨w1, w2, w3, w4, w5, w6, w7, w8, w9, w10, w11⟩ := w
  have htb : c.exceptionTable.toList = [] := by
    have : c.exceptionTable.toList = tableOf M.2.2.2.2 := htab
    rw [hh] at this; exact this
  refine pn_throwNW (A := A) (sa := adK j) hx hb hst hown hcls (hts _ hk) (hts _ hini) (hLow.1 j _ hj).1 (fun w hw => ?_) hgood (hLow.2.1.narrow hAb) (hLow.2.2.1.narrow hAb) w3 (w9.1.trans hml.symm) d0 d3 d4 d6 d9 (fun x hx9 => by rw [htb] at hx9; cases hx9) (by omega) ?_ (by omega) (by omega) hlk (fun t _ h1 h2 => pn_xc hQ w1 w2 w3 w4 w5 w6 h1 h2) w3.2.2 (by omega) (by omega)
  · rcases hat w hw with h9 | ⟨h9, h8⟩ | ⟨x9, b9, n9, r9, e9, h9, h8⟩
    · exact hts w h9
    · exact va_Nw.use h8 (hLow.2.2.2.2.1 w h9)
    · rw [e9]; exact pn_declares (hts _ h9) (hts _ h8)
  · rw [pnCatSum]; omega
def pnIsC (x : MethodName) : Cond → Bool
  | .code y _ _ _ => decide (y = x)
  | _ => false
def pnOkD : Cond → Bool
  | .declares x => decide (Cond.instanceMethod x ∈ lw_tbl) && lw_tbl.any (pnIsC x)
  | _ => false
def pnOkW (w : Cond) : Bool := (decide (w ∈ lw_tbl) && (goodWord w || (pnIsN w && w.onTables))) || pnOkD w
theorem pnOkW_of {L : List Cond} (h : L.all pnOkW = true) : ∀ w ∈ L, pnHas w := fun w hw => by
  have h1 := List.all_eq_true.mp h w hw
  unfold pnOkW at h1
  rw [Bool.or_eq_true, Bool.and_eq_true, Bool.or_eq_true, Bool.and_eq_true] at h1
  rcases h1 with h1 | h1
  · have h2 := of_decide_eq_true h1.1
    rcases h1.2 with h3 | h3
    · exact Or.inl (pnG_in h2 h3)
    · exact Or.inr (Or.inl ⟨List.mem_filter.mpr ⟨h2, h3.1⟩, h3.2⟩)
  · refine Or.inr (Or.inr ?_)
    cases w <;> first | cases h1 | skip
    next x =>
      have h1 : (decide (Cond.instanceMethod x ∈ lw_tbl) && lw_tbl.any (pnIsC x)) = true := h1
      rw [Bool.and_eq_true] at h1
      obtain ⟨u, hu, hc⟩ := List.any_eq_true.mp h1.2
      cases u <;> first | cases hc | skip
      next y b n r =>
        have hc : y = x := of_decide_eq_true hc
        subst hc
        exact ⟨y, b, n, r, rfl, pnG_in (of_decide_eq_true h1.1) rfl, pnG_in hu rfl⟩
set_option maxRecDepth 100000 in
theorem xw_iae : (vx_atS "PartedNet" 86 "java/lang/IllegalArgumentException" ["java/lang/RuntimeException", "java/lang/Exception"]).all pnOkW = true := by decide +kernel
set_option maxRecDepth 100000 in
theorem xw_ise : (vx_atS "PartedNet" 130 "java/lang/IllegalStateException" ["java/lang/RuntimeException", "java/lang/Exception"]).all pnOkW = true := by decide +kernel
set_option maxRecDepth 100000 in
theorem xw_nse : ((pn_atN "PartedNet" 163 "java/util/NoSuchElementException").filter vx_no).all pnOkW = true := by decide +kernel
set_option maxRecDepth 100000 in
theorem xg_iae : ∀ w ∈ Cond.classLink "PartedNet" 82 "java/lang/IllegalArgumentException" :: Cond.initialized "java/lang/IllegalArgumentException" :: vx_atS "PartedNet" 86 "java/lang/IllegalArgumentException" ["java/lang/RuntimeException", "java/lang/Exception"], vx_ot w = true := by decide +kernel
set_option maxRecDepth 100000 in
theorem xg_ise : ∀ w ∈ Cond.classLink "PartedNet" 126 "java/lang/IllegalStateException" :: Cond.initialized "java/lang/IllegalStateException" :: vx_atS "PartedNet" 130 "java/lang/IllegalStateException" ["java/lang/RuntimeException", "java/lang/Exception"], vx_ot w = true := by decide +kernel
set_option maxRecDepth 100000 in
theorem xg_nse : ∀ w ∈ Cond.classLink "PartedNet" 159 "java/util/NoSuchElementException" :: Cond.initialized "java/util/NoSuchElementException" :: (pn_atN "PartedNet" 163 "java/util/NoSuchElementException").filter vx_no, vx_ot w = true := by decide +kernel
theorem xf_RE : ∀ n ∈ (["java/lang/RuntimeException", "java/lang/Exception"] : List String), Bundle.fit n = true := by decide +kernel
