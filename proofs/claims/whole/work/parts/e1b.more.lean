/-! ===== what the law's cases use ===== -/
def wI (v : Value) : Int64 := match v with
  | .int x => x.toInt64
  | .long x => x
  | _ => 0
theorem hl_6 {hX : List pnE} {o : Nat → Int64} (wx : WX hX) : (hX ++ [oW o]).all (fun c => !pnIs6 c) = true := by
  rw [List.all_append, wx.2.2.2]; rfl
theorem hl_cl {hX : List pnE} {o : Nat → Int64} (wx : WX hX) : pnCH (hX ++ [oW o]) := wx.2.1.push trivial
theorem hl_cs {hX : List pnE} {o : Nat → Int64} {av : List Value} (wx : WX hX) (h : av.all intV = true) : pnCS (hX ++ [oW o]).length (.ref 0 :: (av ++ [.ref 61])) := fun v hv => by
  have hl : (hX ++ [oW o]).length = 62 := by rw [List.length_append, wx.1]; rfl
  rw [hl]
  rcases List.mem_cons.mp hv with e | e
  · rw [e]; exact (by decide : (0 : Nat) < 62)
  · rcases List.mem_append.mp e with e | e
    · have := List.all_eq_true.mp h v e
      cases v <;> first | trivial | exact absurd this Bool.false_ne_true
    · rw [List.mem_singleton.mp e]; exact (by decide : (61 : Nat) < 62)
theorem hl_no {cd : String → Nat} {Qx : pnR → List pnE → Prop} {o : Nat → Int64} {w : Value → Int64} : ∀ E h', ¬ hlQ cd Qx o w (.inr E) h' := fun E h' hq => by
  obtain ⟨hX', -, ⟨v, -, e, -⟩ | ⟨E', -, e, -⟩⟩ := hq <;> cases e
theorem hl_fI {r : pnR} {h' : List pnE} {P : String → Prop} (h : WX h' ∧ ((∃ v, r = .inl (some v) ∧ okI v) ∨ ∃ E, r = .inr E ∧ P E)) : WX h' ∧ ((∃ v, r = .inl (some v) ∧ (okI v ∨ okL v)) ∨ ∃ E, r = .inr E) := by
  obtain ⟨w, ⟨v, e1, e2⟩ | ⟨E, e1, -⟩⟩ := h
  · exact ⟨w, Or.inl ⟨v, e1, Or.inl e2⟩⟩
  · exact ⟨w, Or.inr ⟨E, e1⟩⟩
theorem hl_fL {r : pnR} {h' : List pnE} {P : String → Prop} (h : WX h' ∧ ((∃ v, r = .inl (some v) ∧ okL v) ∨ ∃ E, r = .inr E ∧ P E)) : WX h' ∧ ((∃ v, r = .inl (some v) ∧ (okI v ∨ okL v)) ∨ ∃ E, r = .inr E) := by
  obtain ⟨w, ⟨v, e1, e2⟩ | ⟨E, e1, -⟩⟩ := h
  · exact ⟨w, Or.inl ⟨v, e1, Or.inr e2⟩⟩
  · exact ⟨w, Or.inr ⟨E, e1⟩⟩
theorem hl_oI {v0 : Value} {h' : List pnE} {P : String → Prop} (h : WX h' ∧ ((∃ v, (.inl (some v0) : pnR) = .inl (some v) ∧ okI v) ∨ ∃ E, (.inl (some v0) : pnR) = .inr E ∧ P E)) : okI v0 := by
  obtain ⟨w, ⟨v, e1, e2⟩ | ⟨E, e1, -⟩⟩ := h
  · cases e1; exact e2
  · cases e1
theorem hl_oL {v0 : Value} {h' : List pnE} {P : String → Prop} (h : WX h' ∧ ((∃ v, (.inl (some v0) : pnR) = .inl (some v) ∧ okL v) ∨ ∃ E, (.inl (some v0) : pnR) = .inr E ∧ P E)) : okL v0 := by
  obtain ⟨w, ⟨v, e1, e2⟩ | ⟨E, e1, -⟩⟩ := h
  · cases e1; exact e2
  · cases e1
theorem hl_e {E0 : String} {h' : List pnE} {P : String → Prop} {ok : Value → Prop} (h : WX h' ∧ ((∃ v, (.inr E0 : pnR) = .inl (some v) ∧ ok v) ∨ ∃ E, (.inr E0 : pnR) = .inr E ∧ P E)) : P E0 := by
  obtain ⟨w, ⟨v, e1, e2⟩ | ⟨E, e1, e2⟩⟩ := h
  · cases e1
  · cases e1; exact e2
theorem lw_fI {r : pnR} {h' : List pnE} (h : WX h' ∧ ∃ v, r = .inl (some v) ∧ okI v) : WX h' ∧ ∃ v, r = .inl (some v) ∧ (okI v ∨ okL v) := by
  obtain ⟨w, v, e1, e2⟩ := h
  exact ⟨w, v, e1, Or.inl e2⟩
theorem lw_fL {r : pnR} {h' : List pnE} (h : WX h' ∧ ∃ v, r = .inl (some v) ∧ okL v) : WX h' ∧ ∃ v, r = .inl (some v) ∧ (okI v ∨ okL v) := by
  obtain ⟨w, v, e1, e2⟩ := h
  exact ⟨w, v, e1, Or.inr e2⟩
theorem lw_oI {v0 : Value} {h' : List pnE} (h : WX h' ∧ ∃ v, (.inl (some v0) : pnR) = .inl (some v) ∧ okI v) : okI v0 := by
  obtain ⟨w, v, e1, e2⟩ := h
  cases e1; exact e2
theorem lw_oL {v0 : Value} {h' : List pnE} (h : WX h' ∧ ∃ v, (.inl (some v0) : pnR) = .inl (some v) ∧ okL v) : okL v0 := by
  obtain ⟨w, v, e1, e2⟩ := h
  cases e1; exact e2
theorem cd1_s (x : String) : cd1 x x = 1 := if_pos rfl
theorem cd2_a (x y : String) : cd2 x y x = 1 := if_pos rfl
theorem cd1_p {x E : String} (h : 1 ≤ cd1 x E) : E = x := by
  unfold cd1 at h
  by_cases q : E = x
  · exact q
  · rw [if_neg q] at h; omega
theorem cd2_p {x y E : String} (h : 1 ≤ cd2 x y E) : E = x ∨ E = y := by
  unfold cd2 at h
  by_cases q : E = x
  · exact Or.inl q
  · rw [if_neg q] at h
    by_cases r : E = y
    · exact Or.inr r
    · rw [if_neg r] at h; omega
theorem cd_nz {t : Nat} (h1 : 1 ≤ t) (h2 : t ≤ 9) : ¬ nI t = 0 := fun z => by
  have := (nI_eq (a := t) (b := 0) (by omega) (by omega)).mp z
  omega
theorem HW_84 {hX hY : List pnE} {o : Nat → Int64} (wx : WX hX) (wy : WY hY) : (HW hX hY o)[84]? = some (.inl (1, 1, .inr (.inl o))) := by
  unfold HW
  rw [List.getElem?_append_right (by rw [List.length_map, wx.1]; omega), List.length_map, wx.1, List.getElem?_append_right (by rw [List.length_map, wy.1]; omega), List.length_map, wy.1]
  rfl
theorem lt_thr (adK : Nat → Nat) {hX hY : List pnE} {t bc bs : Nat} (h : LIw hX hY t bc bs) : pnCt mX7_thrown adK 100 0 0 (.ref 0 :: []) hY (pnIs (.inl (some (.int (nI t)))) hY) := by
  obtain ⟨b, tp, fp, N, A, Q, C, W, Z, ask, rf, Y, P, a, b1, c, e, f, g, h, e1, e2, hI, e3, -⟩ := h
  rw [e2, ← e3]
  exact m_thrown adK 100 Y P a b1 c e f g h
theorem stq_mono {M6 M7 : pnM} {adK : Nat → Nat} {dx dy : Nat} {av : List Value} {hX hY : List pnE} {bc bs bc' bs' : Nat} {ok : Value → Prop} (h : STQ M6 M7 adK dx dy av hX hY bc bs ok) (h1 : bc ≤ bc') (h2 : bs ≤ bs') : STQ M6 M7 adK dx dy av hX hY bc' bs' ok := by
  obtain ⟨Qx, Qy, mx, sx, my, sy, hx, hy, b1, b2, b3, hall⟩ := h
  refine ⟨Qx, Qy, mx, sx, my, sy, hx, hy, by omega, by omega, b3, fun r h1 e1 r' h2 e2 => ?_⟩
  obtain ⟨t, bc9, bs9, l1, c1, c2, c3⟩ := hall r h1 e1 r' h2 e2
  exact ⟨t, bc9, bs9, l1, by omega, by omega, c3⟩
theorem stp_mono {M6 M7 : pnM} {adK : Nat → Nat} {dx dy : Nat} {av : List Value} {hX hY : List pnE} {bc bs bc' bs' : Nat} {cd : String → Nat} {ok : Value → Prop} (h : STP M6 M7 adK dx dy av hX hY bc bs cd ok) (h1 : bc ≤ bc') (h2 : bs ≤ bs') : STP M6 M7 adK dx dy av hX hY bc' bs' cd ok := by
  obtain ⟨Qx, Qy, mx, sx, my, sy, hx, hy, b1, b2, b3, hall⟩ := h
  refine ⟨Qx, Qy, mx, sx, my, sy, hx, hy, by omega, by omega, b3, fun r h1 e1 r' h2 e2 => ?_⟩
  obtain ⟨t, bc9, bs9, l1, c1, c2, c3⟩ := hall r h1 e1 r' h2 e2
  exact ⟨t, bc9, bs9, l1, by omega, by omega, c3⟩
abbrev mL_law : pnM := (yL_law, cL_law, 8, (some .boolean), [])
def QL : pnR → List pnE → Prop := fun r _ => r = .inl (some (.int (nB true)))
abbrev LL (adK : Nat → Nat) (i : Nat) : List (Option Value) := [some (.retAddr (adK 2000)), some (.ref 0), some (.ref 61), some (.ref 84), some (.int (nI i))]
def LK (adK : Nat → Nat) (i E F : Nat) : Prop := ∀ (hX hY : List pnE) (o : Nat → Int64) (t bc bs : Nat), LIw hX hY t bc bs → pnWP mL_law adK 104 QL (bc + E) (bs + F) (HW hX hY o) (LL adK i) [] 1417
theorem hl_store {M : pnM} {adK : Nat → Nat} {d : Nat} {Q : pnR → List pnE → Prop} {bc bs : Nat} {h' : List pnE} {o : Nat → Int64} {L : List (Option Value)} {st : List Value} {pc q : Nat} {x : Int64} (w' : WX h') (hd : decode M.2.1 pc = .ok (.lastore, 1)) (hq : pc + 1 = q) (k : pnWP M adK d Q bc bs (h' ++ [oW (vp_updL o 0 x)]) L st q) : pnWP M adK d Q bc bs (h' ++ [oW o]) L (.long x :: .int (nI 0) :: .ref 61 :: st) pc := by
  have e1 : (h' ++ [oW o])[61]? = some (.inl (1, 1, .inr (.inl o))) := by
    rw [List.getElem?_append_right (by rw [w'.1]; omega), w'.1]; rfl
  refine pn_last1 (j := 0) hd hq e1 rfl (by decide) (by decide) ?_
  have e2 : (h' ++ [oW o]).set 61 (.inl (1, 1, .inr (.inl (vp_updL o 0 x)))) = h' ++ [oW (vp_updL o 0 x)] := by
    rw [List.set_append_right _ _ (by rw [w'.1]; omega), w'.1]; rfl
  rw [e2]
  exact k
theorem hl_call {M M9 : pnM} {adK : Nat → Nat} {Q Qx : pnR → List pnE → Prop} {mx sx : Nat} {hX : List pnE} {o : Nat → Int64} {L : List (Option Value)} {st0 av : List Value} {pc q index n : Nat} (lk : pnLkV M.1.cls index M9 n) (hd : decode M.2.1 pc = .ok (.invokevirtual index, 3)) (hq : pc + 3 = q) (hC : pnCt M9 adK 100 mx sx (.ref 0 :: av) hX Qx) (hcls : M9.1.cls = "PartedNet") (wx : WX hX) (hn : av.length = n) (hav : av.all intV = true) (hL : okLs L = true) (hstk : st0 = av.reverse ++ .ref 0 :: [.int (nI 0), .ref 61]) (hqf : ∀ r h', Qx r h' → WX h' ∧ ((∃ v, r = .inl (some v) ∧ (okI v ∨ okL v)) ∨ ∃ E, r = .inr E))
    (k1 : ∀ v h', Qx (.inl (some v)) h' → WX h' → pnWP M adK 101 Q 0 0 (h' ++ [oW o]) L (v :: [.int (nI 0), .ref 61]) q)
    (k2 : ∀ E h', Qx (.inr E) h' → WX h' → ∃ hp, pnHan M pc E hp ∧ ∀ q, pnWP M adK 101 Q 0 0 (h' ++ [oW o]) L [.retAddr q] hp) : pnWP M adK 101 Q mx sx (hX ++ [oW o]) L st0 pc := by
  subst hq
  obtain ⟨fs, f1⟩ := wx.2.2.1
  have mid : ∀ h', WX h' → h'.map (pnRC IX9) = h' := fun h' w => by
    conv => rhs; rw [← List.map_id h']
    refine List.map_congr_left (fun c hc => ?_)
    obtain ⟨k, hk⟩ := List.getElem?_of_mem hc
    have hcc := w.2.1 k c hk
    rw [w.1] at hcc
    have := pnRC_id hcc
    rw [← List.range_eq_range'.symm] at this
    rw [rc_eq (J := List.range 61) (fun j hj => by rw [IX_lt hj, pnRg hj]) hcc]
    exact this
  have sel : pnSel (hX ++ [oW o]) IX9 hX := by
    have := blk_sel (A := []) (B := hX) (C := [oW o]) (a := 0) (n := 61) rfl wx.1
    have e : ([] ++ (hX.map (pnRC (List.range' 0 61)) ++ [oW o])) = hX ++ [oW o] := by
      rw [List.nil_append]; congr 1; exact mid hX wx
    rw [e] at this
    exact this
  have back : ∀ h', WX h' → pnBack (hX ++ [oW o]) IX9 h' = h' ++ [oW o] := fun h' w => by
    have := blk_back (A := []) (B := hX) (B' := h') (C := [oW o]) (a := 0) (n := 61) rfl wx.1 w.1
    have e : ([] ++ (hX.map (pnRC (List.range' 0 61)) ++ [oW o])) = hX ++ [oW o] := by
      rw [List.nil_append]; congr 1; exact mid hX wx
    have e' : ([] ++ (h'.map (pnRC (List.range' 0 61)) ++ [oW o])) = h' ++ [oW o] := by
      rw [List.nil_append]; congr 1; exact mid h' w
    rw [e, e'] at this
    exact this
  have p5 : ∀ x, (x = 0 ∨ 61 ≤ x) → ∀ k, pnAt5 hX k = true → x ≠ IX9.getD k 0 := fun x hx k hk e => by
    have := at5_lt hk
    rw [wx.1] at this
    rw [IX_lt this] at e
    rcases hx with z | z
    · have : k = 0 := by omega
      subst this
      rw [at5_0 f1] at hk; cases hk
    · omega
  have free : pnFree (hX ++ [oW o]) L [.int (nI 0), .ref 61] IX9 hX := by
    refine ⟨fun i c hi hI => ?_, fun i v hi => ?_, fun v hv => ?_⟩
    · rcases Nat.lt_or_ge i 61 with z | z
      · exact absurd (rg_in.mpr ⟨by omega, by omega⟩) hI
      · rw [List.getElem?_append_right (by rw [wx.1]; exact z)] at hi
        have := List.mem_of_getElem? hi
        rw [List.mem_singleton] at this
        rw [this]; trivial
    · exact okR_ne (okLs_at hL hi) (p5 0 (Or.inl rfl)) (p5 61 (Or.inr (by omega))) (p5 84 (Or.inr (by omega)))
    · have : okR v = true := by
        rcases List.mem_cons.mp hv with e | e
        · rw [e]; rfl
        · rw [List.mem_singleton.mp e]; rfl
      exact okR_ne this (p5 0 (Or.inl rfl)) (p5 61 (Or.inr (by omega))) (p5 84 (Or.inr (by omega)))
  refine pn_callVC (I := IX9) (k0 := 0) (st := [.int (nI 0), .ref 61]) (bc9 := 0) (bs9 := 0) hC lk hd hn sel free f1 (by rw [hcls]; rfl) (by rw [int_RV hav, show IX9.getD 0 0 = 0 from rfl]; exact hstk) (by omega) (by omega) (by omega) (by decide) (fun r h' hq _ => ?_) (fun E h' hq _ => ?_)
  · obtain ⟨w1, ⟨v, e1, e2⟩ | ⟨E, e1⟩⟩ := hqf _ _ hq
    · cases e1
      rw [int_res e2, back h' w1]
      exact k1 v h' hq w1
    · cases e1
  · obtain ⟨w1, -⟩ := hqf _ _ hq
    rw [back h' w1]
    exact k2 E h' hq w1
