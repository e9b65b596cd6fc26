/-! ===== the law's world: the class's, the reference's, and what is given back ===== -/
def IX9 : List Nat := List.range' 0 61
def IY9 : List Nat := List.range' 61 23
abbrev oW (o : Nat → Int64) : pnE := .inl (1, 1, .inr (.inl o))
def HW (hX hY : List pnE) (o : Nat → Int64) : List pnE := hX.map (pnRC IX9) ++ (hY.map (pnRC IY9) ++ [oW o])
def WX (hX : List pnE) : Prop := hX.length = 61 ∧ pnCH hX ∧ (∃ fs, hX[0]? = some (.inr (6, fs))) ∧ hX.all (fun c => !pnIs6 c) = true
def WY (hY : List pnE) : Prop := hY.length = 23 ∧ pnCH hY ∧ ∃ fs, hY[0]? = some (.inr (7, fs))
theorem rg_get {a n k : Nat} (h : k < n) : (List.range' a n).getD k 0 = a + k := by
  rw [List.getD_eq_getElem?_getD, List.getElem?_range' h]
  simp
theorem rg_in {a n i : Nat} : i ∈ List.range' a n ↔ a ≤ i ∧ i < a + n := by
  rw [List.mem_range'_1]
theorem blk_sel {A B C : List pnE} {a n : Nat} (hA : A.length = a) (hB : B.length = n) : pnSel (A ++ (B.map (pnRC (List.range' a n)) ++ C)) (List.range' a n) B := by
  refine ⟨by rw [List.length_range', hB], fun i j hi hj e => ?_, fun k c hk => ?_⟩
  · rw [List.length_range'] at hi hj
    rw [rg_get hi, rg_get hj] at e
    omega
  · have hlt : k < B.length := (List.getElem?_eq_some_iff.mp hk).1
    rw [rg_get (by omega), List.getElem?_append_right (by omega), show a + k - A.length = k by omega, List.getElem?_append_left (by rw [List.length_map]; omega), List.getElem?_map, hk]
    rfl
theorem put_blk : ∀ (n a : Nat) (A B B' C : List pnE), A.length = a → B.length = n → B'.length = n → pnPut (A ++ (B ++ C)) (List.range' a n) B' = A ++ (B' ++ C)
  | 0, a, A, B, B', C, _, hB, hB' => by
    have e1 := List.eq_nil_of_length_eq_zero hB
    have e2 := List.eq_nil_of_length_eq_zero hB'
    subst e1 e2
    rfl
  | n + 1, a, A, b :: B, b' :: B', C, hA, hB, hB' => by
    rw [List.length_cons] at hB hB'
    show pnPut ((A ++ (b :: B ++ C)).set a b') (List.range' (a + 1) n) B' = _
    have e : (A ++ (b :: B ++ C)).set a b' = (A ++ [b']) ++ (B ++ C) := by
      rw [List.set_append_right _ _ (by omega), show a - A.length = 0 by omega]
      simp
    rw [e, put_blk n (a + 1) (A ++ [b']) B B' C (by rw [List.length_append, List.length_singleton]; omega) (by omega) (by omega)]
    simp
  | n + 1, a, A, [], B', C, _, hB, _ => by cases hB
  | n + 1, a, A, b :: B, [], C, _, _, hB' => by cases hB'
theorem blk_back {A B B' C : List pnE} {a n : Nat} (hA : A.length = a) (hB : B.length = n) (hB' : B'.length = n) : pnBack (A ++ (B.map (pnRC (List.range' a n)) ++ C)) (List.range' a n) B' = A ++ (B'.map (pnRC (List.range' a n)) ++ C) := by
  rw [pnBack_same (by rw [List.length_range', hB'])]
  exact put_blk n a A _ _ C hA (by rw [List.length_map, hB]) (by rw [List.length_map, hB'])
/-! nothing elsewhere points at rows that may be laid anew -/
def okR (v : Value) : Bool := match v with
  | .ref k => Nat.beq k 0 || (Nat.beq k 61 || Nat.beq k 84)
  | _ => true
def okO (x : Option Value) : Bool := match x with
  | some v => okR v
  | none => true
def okLs (L : List (Option Value)) : Bool := L.all okO
theorem okLs_at : ∀ {L : List (Option Value)} {i : Nat} {v : Value}, okLs L = true → pnGet L i = some v → okR v = true
  | [], i, v, _, e => by rw [pnGet_nil] at e; cases e
  | a :: t, 0, v, h, e => by
    have e : a = some v := e
    subst e
    unfold okLs at h
    rw [List.all_cons, and9] at h
    exact h.1
  | a :: t, i + 1, v, h, e => by
    unfold okLs at h
    rw [List.all_cons, and9] at h
    exact okLs_at (L := t) h.2 e
theorem okR_ne {v : Value} (h : okR v = true) {P : Nat → Prop} (h0 : P 0) (h1 : P 61) (h2 : P 84) : pnRV' P v := by
  cases v <;> first | trivial | skip
  next k =>
    have h : (Nat.beq k 0 || (Nat.beq k 61 || Nat.beq k 84)) = true := h
    rw [Bool.or_eq_true, Bool.or_eq_true, beq9, beq9, beq9] at h
    rcases h with z | z | z <;> subst z
    · exact h0
    · exact h1
    · exact h2
theorem at5_0 {h : List pnE} {x : Nat × List Value} (e : h[0]? = some (.inr x)) : pnAt5 h 0 = false := by
  unfold pnAt5
  rw [e]; rfl
theorem at5_lt {h : List pnE} {k : Nat} (e : pnAt5 h k = true) : k < h.length := by
  unfold pnAt5 at e
  cases q : h[k]? with
  | none => rw [q] at e; cases e
  | some c => exact (List.getElem?_eq_some_iff.mp q).1
/-- cells that are closed in themselves, moved to a place of their own -/
theorem rc_out {n a : Nat} {c : pnE} (h : pnCC n c) {P : Nat → Prop} (hP : ∀ k, k < n → P (a + k)) : pnRC' P (pnRC (List.range' a n) c) := by
  match c, h with
  | .inl (_, _, .inr (.inr (.inr (.inr g)))), h =>
    intro j x hx
    have hx : (g j).map (fun k => (List.range' a n).getD k 0) = some x := hx
    cases hg : g j with
    | none => rw [hg] at hx; cases hx
    | some y =>
      rw [hg] at hx
      have hx : (List.range' a n).getD y 0 = x := Option.some.inj hx
      rw [rg_get (h j y hg)] at hx
      rw [← hx]; exact hP y (h j y hg)
  | .inr (_, fs), h =>
    intro v hv
    obtain ⟨y, hy, rfl⟩ := List.mem_map.mp hv
    have hc := h y hy
    cases y <;> first | trivial | skip
    next k =>
      show P ((List.range' a n).getD k 0)
      rw [rg_get hc]; exact hP k hc
  | .inl (_, _, .inl _), _ => trivial
  | .inl (_, _, .inr (.inl _)), _ => trivial
  | .inl (_, _, .inr (.inr (.inl _))), _ => trivial
  | .inl (_, _, .inr (.inr (.inr (.inl _)))), _ => trivial
theorem HW_at {hX hY : List pnE} {o : Nat → Int64} (wx : WX hX) (wy : WY hY) {i : Nat} {c : pnE} (h : (HW hX hY o)[i]? = some c) : (i < 61 ∧ ∃ c', hX[i]? = some c' ∧ c = pnRC IX9 c') ∨ (61 ≤ i ∧ i < 84 ∧ ∃ c', hY[i - 61]? = some c' ∧ c = pnRC IY9 c') ∨ (i = 84 ∧ c = oW o) := by
  unfold HW at h
  have l1 := wx.1
  have l2 := wy.1
  rcases Nat.lt_or_ge i 61 with q | q
  · rw [List.getElem?_append_left (by rw [List.length_map]; omega), List.getElem?_map] at h
    cases e : hX[i]? with
    | none => rw [e] at h; cases h
    | some c' => rw [e] at h; exact Or.inl ⟨q, c', rfl, (Option.some.inj h).symm⟩
  · rw [List.getElem?_append_right (by rw [List.length_map]; omega), List.length_map, l1] at h
    rcases Nat.lt_or_ge i 84 with r | r
    · rw [List.getElem?_append_left (by rw [List.length_map]; omega), List.getElem?_map] at h
      cases e : hY[i - 61]? with
      | none => rw [e] at h; cases h
      | some c' => rw [e] at h; exact Or.inr (Or.inl ⟨q, r, c', rfl, (Option.some.inj h).symm⟩)
    · rw [List.getElem?_append_right (by rw [List.length_map]; omega), List.length_map, l2] at h
      have : i - 61 - 23 = 0 := by
        have := (List.getElem?_eq_some_iff.mp h).1
        rw [List.length_singleton] at this
        omega
      rw [this] at h
      exact Or.inr (Or.inr ⟨by omega, (Option.some.inj h).symm⟩)
theorem fr_X {hX hY : List pnE} {o : Nat → Int64} {L : List (Option Value)} {st : List Value} (wx : WX hX) (wy : WY hY) (hL : okLs L = true) (hst : st.all okR = true) : pnFree (HW hX hY o) L st IX9 hX := by
  obtain ⟨l1, c1, ⟨fx, f1⟩, h6⟩ := wx
  have p5 : ∀ x, (x = 0 ∨ 61 ≤ x) → ∀ k, pnAt5 hX k = true → x ≠ IX9.getD k 0 := fun x hx k hk e => by
    have := at5_lt hk
    unfold IX9 at e
    rw [rg_get (by omega)] at e
    rcases hx with z | z
    · have : k = 0 := by omega
      subst this
      rw [at5_0 f1] at hk; cases hk
    · omega
  refine ⟨fun i c hi hI => ?_, fun i v hi => ?_, fun v hv => ?_⟩
  · rcases HW_at ⟨l1, c1, ⟨fx, f1⟩, h6⟩ wy hi with ⟨h1, -⟩ | ⟨h1, h2, c', h3, h4⟩ | ⟨h1, h2⟩
    · exact absurd (rg_in.mpr ⟨by omega, by omega⟩) hI
    · rw [h4]
      have hc := wy.2.1 _ _ h3
      rw [wy.1] at hc
      exact rc_out hc (fun k _ => p5 _ (Or.inr (by omega)))
    · rw [h2]; trivial
  · exact okR_ne (okLs_at hL hi) (p5 0 (Or.inl rfl)) (p5 61 (Or.inr (by omega))) (p5 84 (Or.inr (by omega)))
  · exact okR_ne (List.all_eq_true.mp hst v hv) (p5 0 (Or.inl rfl)) (p5 61 (Or.inr (by omega))) (p5 84 (Or.inr (by omega)))
theorem fr_Y {hX hY : List pnE} {o : Nat → Int64} {L : List (Option Value)} {st : List Value} (wx : WX hX) (wy : WY hY) (hL : okLs L = true) (hst : st.all okR = true) : pnFree (HW hX hY o) L st IY9 hY := by
  obtain ⟨l1, c1, fx, f1⟩ := wy
  have p5 : ∀ x, (x ≤ 61 ∨ 84 ≤ x) → ∀ k, pnAt5 hY k = true → x ≠ IY9.getD k 0 := fun x hx k hk e => by
    have := at5_lt hk
    unfold IY9 at e
    rw [rg_get (by omega)] at e
    rcases hx with z | z
    · have : k = 0 := by omega
      subst this
      rw [at5_0 f1] at hk; cases hk
    · omega
  refine ⟨fun i c hi hI => ?_, fun i v hi => ?_, fun v hv => ?_⟩
  · rcases HW_at wx ⟨l1, c1, fx, f1⟩ hi with ⟨h1, c', h3, h4⟩ | ⟨h1, h2, -⟩ | ⟨h1, h2⟩
    · rw [h4]
      have hc := wx.2.1 _ _ h3
      rw [wx.1] at hc
      exact rc_out hc (fun k hk => p5 _ (Or.inl (by omega)))
    · exact absurd (rg_in.mpr ⟨by omega, by omega⟩) hI
    · rw [h2]; trivial
  · exact okR_ne (okLs_at hL hi) (p5 0 (Or.inl (by omega))) (p5 61 (Or.inl (by omega))) (p5 84 (Or.inr (by omega)))
  · exact okR_ne (List.all_eq_true.mp hst v hv) (p5 0 (Or.inl (by omega))) (p5 61 (Or.inl (by omega))) (p5 84 (Or.inr (by omega)))
theorem WX_P {b : Nat → Int32} {tp : Nat} {fp : Int32} {N : NS} {A : AS} {Q : QS} {C : CS} {W : WS} {Z : SS} {ask : Nat → Int32} {rf : Nat → Nat} (hq : Q.1 = 8 ∨ Q.1 = 9) : WX (hP b tp fp N A Q C W Z ask rf) := ⟨rfl, hP_cl hq, ⟨_, rfl⟩, rfl⟩
theorem WY_M {Y : MN} {P : Nat → MN} {a : G0} {b : G1} {c : G3} {e : G4} {f : G5} {g : G6} {h : G7} : WY (hM Y P a b c e f g h) := ⟨rfl, hM_cl, _, rfl⟩
theorem LIw_W {hX hY : List pnE} {t bc bs : Nat} (h : LIw hX hY t bc bs) : WX hX ∧ WY hY := by
  obtain ⟨b, tp, fp, N, A, Q, C, W, Z, ask, rf, Y, P, a, b1, c, e, f, g, h, e1, e2, hI, -⟩ := h
  rw [e1, e2]
  exact ⟨WX_P hI.1.1, WY_M⟩
/-! calls out of the law -/
def intV (v : Value) : Bool := match v with
  | .int _ => true
  | .long _ => true
  | _ => false
theorem int_RV {I : List Nat} : ∀ {av : List Value}, av.all intV = true → av.map (pnRV I) = av
  | [], _ => rfl
  | v :: t, h => by
    rw [List.all_cons, and9] at h
    rw [List.map_cons, int_RV (av := t) h.2]
    congr 1
    cases v <;> first | rfl | exact absurd h.1 Bool.false_ne_true
theorem int_res {J : List Nat} {v : Value} (h : okI v ∨ okL v) : pnRes J (some v) = [v] := by
  rcases h with ⟨x, rfl⟩ | ⟨x, rfl⟩ <;> rfl
theorem lw_X {M M9 : pnM} {adK : Nat → Nat} {d d9 : Nat} {Q Q9 : pnR → List pnE → Prop} {bc bs bc9 bs9 mc9 ms9 : Nat} {hX hY : List pnE} {o : Nat → Int64} {L : List (Option Value)} {st st0 av : List Value} {pc q index n : Nat} (lk : pnLkV M.1.cls index M9 n) (hd : decode M.2.1 pc = .ok (.invokevirtual index, 3)) (hq : pc + 3 = q) (hC : pnCt M9 adK d9 mc9 ms9 (.ref 0 :: av) hX Q9) (hcls : M9.1.cls = "PartedNet") (wx : WX hX) (wy : WY hY) (hn : av.length = n) (hav : av.all intV = true) (hL : okLs L = true) (hst : st.all okR = true) (hstk : st0 = av.reverse ++ .ref 0 :: st) (hdd : d9 + 1 ≤ d) (hbc : bc9 + mc9 ≤ bc) (hbs : bs9 + ms9 ≤ bs) (hw8 : (st.map fun v => v.category).sum ≤ 8) (hno : ∀ r h', Q9 r h' → WX h' ∧ ∃ v, r = .inl (some v) ∧ (okI v ∨ okL v))
    (kr : ∀ v hX', Q9 (.inl (some v)) hX' → WX hX' → pnWP M adK d Q bc9 bs9 (HW hX' hY o) L (v :: st) q) : pnWP M adK d Q bc bs (HW hX hY o) L st0 pc := by
  subst hq
  obtain ⟨fs, f1⟩ := wx.2.2.1
  refine pn_callV (I := IX9) (k0 := 0) hC lk hd hn (blk_sel (A := []) rfl wx.1) (fr_X wx wy hL hst) f1 (by rw [hcls]; rfl) (by rw [int_RV hav, show IX9.getD 0 0 = 0 from rfl]; exact hstk) hdd hbc hbs hw8 (fun r h' hq _ => ?_) (fun E h' hq _ => ?_)
  · obtain ⟨w1, v, e1, e2⟩ := hno _ _ hq
    cases e1
    rw [int_res e2]
    have e3 : pnBack (HW hX hY o) IX9 h' = HW h' hY o := blk_back (A := []) rfl wx.1 w1.1
    rw [e3]
    exact kr v h' hq w1
  · obtain ⟨w1, v, e1, e2⟩ := hno _ _ hq
    cases e1
theorem lw_Y {M M9 : pnM} {adK : Nat → Nat} {d d9 : Nat} {Q Q9 : pnR → List pnE → Prop} {bc bs bc9 bs9 mc9 ms9 : Nat} {hX hY : List pnE} {o : Nat → Int64} {L : List (Option Value)} {st st0 av : List Value} {pc q index n : Nat} (lk : pnLkV M.1.cls index M9 n) (hd : decode M.2.1 pc = .ok (.invokevirtual index, 3)) (hq : pc + 3 = q) (hC : pnCt M9 adK d9 mc9 ms9 (.ref 0 :: av) hY Q9) (hcls : M9.1.cls = "PartedNetModel") (wx : WX hX) (wy : WY hY) (hn : av.length = n) (hav : av.all intV = true) (hL : okLs L = true) (hst : st.all okR = true) (hstk : st0 = av.reverse ++ .ref 61 :: st) (hdd : d9 + 1 ≤ d) (hbc : bc9 + mc9 ≤ bc) (hbs : bs9 + ms9 ≤ bs) (hw8 : (st.map fun v => v.category).sum ≤ 8) (hno : ∀ r h', Q9 r h' → WY h' ∧ ∃ v, r = .inl (some v) ∧ (okI v ∨ okL v))
    (kr : ∀ v hY', Q9 (.inl (some v)) hY' → WY hY' → pnWP M adK d Q bc9 bs9 (HW hX hY' o) L (v :: st) q) : pnWP M adK d Q bc bs (HW hX hY o) L st0 pc := by
  subst hq
  obtain ⟨fs, f1⟩ := wy.2.2
  have lx : (hX.map (pnRC IX9)).length = 61 := by rw [List.length_map]; exact wx.1
  refine pn_callV (I := IY9) (k0 := 0) hC lk hd hn (blk_sel lx wy.1) (fr_Y wx wy hL hst) f1 (by rw [hcls]; rfl) (by rw [int_RV hav, show IY9.getD 0 0 = 61 from rfl]; exact hstk) hdd hbc hbs hw8 (fun r h' hq _ => ?_) (fun E h' hq _ => ?_)
  · obtain ⟨w1, v, e1, e2⟩ := hno _ _ hq
    cases e1
    rw [int_res e2]
    have e3 : pnBack (HW hX hY o) IY9 h' = HW hX h' o := blk_back lx wy.1 w1.1
    rw [e3]
    exact kr v h' hq w1
  · obtain ⟨w1, v, e1, e2⟩ := hno _ _ hq
    cases e1
/-! the helpers: the class's world and what is given back -/
def IH9 : List Nat := List.range' 0 61 ++ [84]
theorem IH_lt {k : Nat} (h : k < 61) : IH9.getD k 0 = k := by
  unfold IH9
  rw [List.getD_eq_getElem?_getD, List.getElem?_append_left (by rw [List.length_range']; exact h), ← List.getD_eq_getElem?_getD, rg_get h]
  omega
theorem rc_eq {I J : List Nat} {n : Nat} (h : ∀ k, k < n → I.getD k 0 = J.getD k 0) {c : pnE} (hc : pnCC n c) : pnRC I c = pnRC J c := by
  match c, hc with
  | .inl (t, m, .inr (.inr (.inr (.inr g)))), hc =>
    show (Sum.inl (t, m, .inr (.inr (.inr (.inr (fun j => (g j).map (fun k => I.getD k 0)))))) : pnE) = Sum.inl (t, m, .inr (.inr (.inr (.inr (fun j => (g j).map (fun k => J.getD k 0))))))
    congr 7
    funext j
    cases e : g j with
    | none => rfl
    | some x => exact congrArg some (h x (hc j x e))
  | .inr (ci, fs), hc =>
    show (Sum.inr (ci, fs.map (pnRV I)) : pnE) = Sum.inr (ci, fs.map (pnRV J))
    congr 2
    refine List.map_congr_left (fun v hv => ?_)
    have := hc v hv
    cases v <;> first | rfl | exact congrArg Value.ref (h _ this)
  | .inl (_, _, .inl _), _ => rfl
  | .inl (_, _, .inr (.inl _)), _ => rfl
  | .inl (_, _, .inr (.inr (.inl _))), _ => rfl
  | .inl (_, _, .inr (.inr (.inr (.inl _)))), _ => rfl
theorem IX_lt {k : Nat} (h : k < 61) : IX9.getD k 0 = k := by unfold IX9; rw [rg_get h]; omega
theorem map_IH {hX : List pnE} (wx : WX hX) : hX.map (pnRC IH9) = hX.map (pnRC IX9) := List.map_congr_left (fun c hc => by
  obtain ⟨k, hk⟩ := List.getElem?_of_mem hc
  have := wx.2.1 k c hk
  rw [wx.1] at this
  exact rc_eq (fun j hj => by rw [IH_lt hj, IX_lt hj]) this)
theorem sel_H {hX hY : List pnE} {o : Nat → Int64} (wx : WX hX) (wy : WY hY) : pnSel (HW hX hY o) IH9 (hX ++ [oW o]) := by
  have l1 := wx.1
  have l2 := wy.1
  refine ⟨by rw [List.length_append, l1]; rfl, fun i j hi hj e => ?_, fun k c hk => ?_⟩
  · have hl : IH9.length = 62 := rfl
    have g : ∀ i, i < 62 → IH9.getD i 0 = if i < 61 then i else 84 := fun i hi => by
      by_cases q : i < 61
      · rw [if_pos q, IH_lt q]
      · have : i = 61 := by omega
        subst this; rfl
    rw [hl] at hi hj
    rw [g i hi, g j hj] at e
    by_cases q : i < 61
    · rw [if_pos q] at e
      by_cases r : j < 61
      · rw [if_pos r] at e; exact e
      · rw [if_neg r] at e; omega
    · rw [if_neg q] at e
      by_cases r : j < 61
      · rw [if_pos r] at e; omega
      · omega
  · have hlt : k < 62 := by
      have := (List.getElem?_eq_some_iff.mp hk).1
      rw [List.length_append, l1, List.length_singleton] at this
      omega
    unfold HW
    by_cases q : k < 61
    · rw [List.getElem?_append_left (by omega)] at hk
      rw [IH_lt q, List.getElem?_append_left (by rw [List.length_map]; omega), ← map_IH wx, List.getElem?_map, hk]
      rfl
    · have : k = 61 := by omega
      subst this
      rw [List.getElem?_append_right (by omega), l1] at hk
      have hk : oW o = c := Option.some.inj hk
      rw [← hk, show IH9.getD 61 0 = 84 from rfl, List.getElem?_append_right (by rw [List.length_map]; omega), List.length_map, l1, List.getElem?_append_right (by rw [List.length_map]; omega), List.length_map, l2]
      rfl
theorem put_app : ∀ (I J : List Nat) (h cs ds : List pnE), I.length = cs.length → pnPut h (I ++ J) (cs ++ ds) = pnPut (pnPut h I cs) J ds
  | [], J, h, [], ds, _ => rfl
  | [], J, h, c :: cs, ds, e => by cases e
  | i :: I, J, h, [], ds, e => by cases e
  | i :: I, J, h, c :: cs, ds, e => put_app I J (h.set i c) cs ds (by simpa using e)
theorem back_H {hX hX' hY : List pnE} {o o' : Nat → Int64} (wx : WX hX) (wx' : WX hX') (wy : WY hY) : pnBack (HW hX hY o) IH9 (hX' ++ [oW o']) = HW hX' hY o' := by
  have l1 := wx.1
  have l1' := wx'.1
  have l2 := wy.1
  rw [pnBack_same (by rw [List.length_append, l1']; rfl), List.map_append, map_IH wx']
  show pnPut (HW hX hY o) (List.range' 0 61 ++ [84]) (hX'.map (pnRC IX9) ++ [oW o']) = _
  rw [put_app _ _ _ _ _ (by rw [List.length_map, l1', List.length_range'])]
  have e1 : pnPut (HW hX hY o) (List.range' 0 61) (hX'.map (pnRC IX9)) = HW hX' hY o := put_blk 61 0 [] _ _ _ rfl (by rw [List.length_map, l1]) (by rw [List.length_map, l1'])
  rw [e1]
  show (HW hX' hY o).set 84 (oW o') = _
  unfold HW
  rw [List.set_append_right _ _ (by rw [List.length_map]; omega), List.length_map, l1', List.set_append_right _ _ (by rw [List.length_map]; omega), List.length_map, l2]
  rfl
theorem fr_H {hX hY : List pnE} {o : Nat → Int64} {L : List (Option Value)} {st : List Value} (wx : WX hX) (wy : WY hY) (hL : okLs L = true) (hst : st.all okR = true) : pnFree (HW hX hY o) L st IH9 (hX ++ [oW o]) := by
  have key := fr_X (o := o) wx wy hL hst
  have l1 := wx.1
  have a5 : ∀ k, pnAt5 (hX ++ [oW o]) k = true → pnAt5 hX k = true ∧ k < 61 := fun k hk => by
    unfold pnAt5 at hk ⊢
    by_cases q : k < 61
    · rw [List.getElem?_append_left (by omega)] at hk; exact ⟨hk, q⟩
    · rw [List.getElem?_append_right (by omega)] at hk
      cases e : [oW o][k - hX.length]? with
      | none => rw [e] at hk; cases hk
      | some c =>
        have := List.mem_of_getElem? e
        rw [List.mem_singleton] at this
        rw [e, this] at hk; cases hk
  have cv : ∀ v, pnRV' (fun x => ∀ k, pnAt5 hX k = true → x ≠ IX9.getD k 0) v → pnRV' (fun x => ∀ k, pnAt5 (hX ++ [oW o]) k = true → x ≠ IH9.getD k 0) v := fun v hv => by
    cases v <;> first | trivial | skip
    next x =>
      intro k hk
      obtain ⟨h1, h2⟩ := a5 k hk
      have := hv k h1
      rw [IX_lt h2] at this
      rw [IH_lt h2]; exact this
  refine ⟨fun i c hi hI => ?_, fun i v hi => cv v (key.2.1 i v hi), fun v hv => cv v (key.2.2 v hv)⟩
  have hI2 : i ∉ IX9 := fun z => hI (List.mem_append_left _ z)
  have := key.1 i c hi hI2
  match c, this with
  | .inl (_, _, .inr (.inr (.inr (.inr g)))), this =>
    intro j x hx k hk
    obtain ⟨h1, h2⟩ := a5 k hk
    have := this j x hx k h1
    rw [IX_lt h2] at this
    rw [IH_lt h2]; exact this
  | .inr (_, fs), this => exact fun v hv => cv v (this v hv)
  | .inl (_, _, .inl _), _ => trivial
  | .inl (_, _, .inr (.inl _)), _ => trivial
  | .inl (_, _, .inr (.inr (.inl _))), _ => trivial
  | .inl (_, _, .inr (.inr (.inr (.inl _)))), _ => trivial
/-- what a helper gives back: 0 and the answer, or which exception -/
def hlQ (cd : String → Nat) (Qx : pnR → List pnE → Prop) (o : Nat → Int64) (w : Value → Int64) : pnR → List pnE → Prop := fun r h' => ∃ hX', WX hX' ∧ ((∃ v, Qx (.inl (some v)) hX' ∧ r = .inl (some (.int (nI 0))) ∧ h' = hX' ++ [oW (vp_updL o 0 (w v))]) ∨ ∃ E, Qx (.inr E) hX' ∧ r = .inl (some (.int (nI (cd E)))) ∧ h' = hX' ++ [oW o])
theorem lw_H {M : pnM} {y9 : MethodName} {c9 : ByteArray} {nL9 : Nat} {ret9 : Option FieldType} {hh9 : List (Nat × Nat × Nat × Nat)} {adK : Nat → Nat} {d d9 : Nat} {Q Qx : pnR → List pnE → Prop} {cd : String → Nat} {w : Value → Int64} {bc bs bc9 bs9 mc9 ms9 : Nat} {hX hY : List pnE} {o : Nat → Int64} {L : List (Option Value)} {av st0 : List Value} {pc q index n : Nat} (lk : pnLkSW M.1.cls index (y9, c9, nL9, ret9, hh9) n) (hd : decode M.2.1 pc = .ok (.invokestatic index, 3)) (hq : pc + 3 = q) (hC : pnMt (y9, c9, nL9, ret9, hh9) adK d9 mc9 ms9 (.ref 0 :: (av ++ [.ref 61])) (hX ++ [oW o]) (hlQ cd Qx o w)) (wx : WX hX) (wy : WY hY) (hn : (Value.ref 0 :: (av ++ [.ref 61])).length = n) (hav : av.all intV = true) (hL : okLs L = true) (hstk : st0 = .ref 84 :: (av.reverse ++ [.ref 0])) (hdd : d9 + 1 ≤ d) (hbc : bc9 + mc9 ≤ bc) (hbs : bs9 + ms9 ≤ bs)
    (k1 : ∀ v hX', Qx (.inl (some v)) hX' → WX hX' → pnWP M adK d Q bc9 bs9 (HW hX' hY (vp_updL o 0 (w v))) L [.int (nI 0)] q) (k2 : ∀ E hX', Qx (.inr E) hX' → WX hX' → pnWP M adK d Q bc9 bs9 (HW hX' hY o) L [.int (nI (cd E))] q) : pnWP M adK d Q bc bs (HW hX hY o) L st0 pc := by
  subst hq
  refine pn_callSW (I := IH9) (st := []) hC lk hd hn (sel_H wx wy) (fr_H wx wy hL rfl) ?_ hdd hbc hbs (by decide) (fun E h' hq => ?_) (fun r h' hq _ => ?_)
  · rw [hstk, List.map_cons, List.map_append, int_RV hav]
    show _ = (Value.ref (IH9.getD 0 0) :: (av ++ [Value.ref (IH9.getD 61 0)])).reverse ++ []
    rw [show IH9.getD 0 0 = 0 from rfl, show IH9.getD 61 0 = 84 from rfl]
    simp
  · obtain ⟨hX', -, ⟨v, -, e, -⟩ | ⟨E', -, e, -⟩⟩ := hq <;> cases e
  · obtain ⟨hX', wx', ⟨v, h1, e1, e2⟩ | ⟨E', h1, e1, e2⟩⟩ := hq
    · cases e1
      rw [e2, back_H wx wx' wy]
      exact k1 v hX' h1 wx'
    · cases e1
      rw [e2, back_H wx wx' wy]
      exact k2 E' hX' h1 wx'
