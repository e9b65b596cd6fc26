/-! a row laid anew, in a world with a row of references -/
theorem pn_moveG {M : pnM} {adK : Nat → Nat} {d : Nat} {Q : pnR → List pnE → Prop} {bc bs : Nat} {h h1 : List pnE} {L : List (Option Value)} {st : List Value} {pc : Nat} {a n m : Nat} {f g : Nat → Int64} (hh : h = h1 ++ [.inl (6, m, .inr (.inl g))]) (he : h1[a]? = some (.inl (5, n, .inr (.inl f)))) (f1 : ∀ (i : Nat) (c0 : pnE), h1[i]? = some c0 → pnRC' (fun x => x ≠ a) c0) (f2 : pnNoL a L = true) (f3 : st.all (pnNoV a) = true)
    (k : pnWP M adK d Q bc bs ((h1.set a (.inl (5, m, .inr (.inl g)))).map (pnRC (pnMvJ h1.length a))) (pnMapL (pnMvJ h1.length a) L) (st.map (pnRV (pnMvJ h1.length a))) pc) : pnWP M adK d Q bc bs h L st pc := by
  intro p l e R s m9 args below meth c D τ A b0 adV mc ms n0 σ0 σ mv0 H locs cells slots ls ok w
  have ok2 := ok
  obtain ⟨hx, hb, hr, hml, hown, hts, hlk, hnm, htab, hK, hA, hAb, hb0, hLow, hst, hfr, hlo, hRc, hRs⟩ := ok2
  obtain ⟨w1, w2, w3, w4, w5, w6, w7, w8, w9, w10, w11⟩ := w
  subst hh
  have hlen : (h1 ++ [(.inl (6, m, .inr (.inl g)) : pnE)]).length = h1.length + 1 := by rw [List.length_append, List.length_singleton]
  have ha : a < h1.length := (List.getElem?_eq_some_iff.mp he).1
  have hlast : (h1 ++ [(.inl (6, m, .inr (.inl g)) : pnE)])[h1.length]? = some (.inl (6, m, .inr (.inl g))) := by
    rw [List.getElem?_append_right (Nat.le_refl _), Nat.sub_self]; rfl
  have hn0 : n0 ≤ h1.length := by
    rcases Nat.lt_or_ge h1.length n0 with q | q
    · have := (w5 h1.length q).2.2
      unfold pnAt6 at this
      rw [hlast] at this; cases this
    · exact q
  have h56 : τ 5 = τ 6 := by
    have q1 := (hK.2 5 (τ 5, .long) rfl).2
    have q2 := (hK.2 6 (τ 6, .long) rfl).2
    exact Option.some.inj ((show s.vm.findClass _ = some (τ 5) from q1).symm.trans (show s.vm.findClass _ = some (τ 6) from q2))
  obtain ⟨σ2, hs1, hs2⟩ : ∃ σ2 : Nat → Nat, σ2 a = σ h1.length ∧ ∀ x, x ≠ a → σ2 x = σ x := ⟨fun x => if x = a then σ h1.length else σ x, if_pos rfl, fun x hx9 => if_neg hx9⟩
  have hJ : ∀ x, x < h1.length + 1 ∧ x ≠ a → (fun y => σ2 ((pnMvJ h1.length a).getD y 0)) x = σ x := fun x hx9 => by
    show σ2 ((pnMvJ h1.length a).getD x 0) = σ x
    rcases Nat.lt_or_ge x h1.length with q | q
    · rw [pnMvJ_lo q]; exact hs2 x hx9.2
    · rw [show x = h1.length by omega, pnMvJ_at]; exact hs1
  have hJlt : ∀ x, x < h1.length + 1 → (pnMvJ h1.length a).getD x 0 < h1.length := fun x hx9 => by
    rcases Nat.lt_or_ge x h1.length with q | q
    · rw [pnMvJ_lo q]; exact q
    · rw [show x = h1.length by omega, pnMvJ_at]; exact ha
  have hw : ∀ (i : Nat) (c9 : pnE), ((h1.set a (.inl (5, m, .inr (.inl g)))).map (pnRC (pnMvJ h1.length a)))[i]? = some c9 → (i = a ∧ c9 = .inl (5, m, .inr (.inl g))) ∨ (i ≠ a ∧ ∃ c0, h1[i]? = some c0 ∧ c9 = pnRC (pnMvJ h1.length a) c0) := fun i c9 e9 => by
    rw [List.getElem?_map, List.getElem?_set] at e9
    by_cases q : a = i
    · subst q
      rw [if_pos rfl, if_pos ha] at e9
      exact Or.inl ⟨rfl, (Option.some.inj e9).symm⟩
    · rw [if_neg q] at e9
      cases h9 : h1[i]? with
      | none => rw [h9] at e9; cases e9
      | some c0 => rw [h9] at e9; exact Or.inr ⟨fun z => q z.symm, c0, rfl, (Option.some.inj e9).symm⟩
  have hcl : ∀ (i : Nat) (c0 : pnE), h1[i]? = some c0 → (h1 ++ [(.inl (6, m, .inr (.inl g)) : pnE)])[i]? = some c0 := fun i c0 e9 => by
    rw [List.getElem?_append_left (List.getElem?_eq_some_iff.mp e9).1]; exact e9
  have hfr1 : ∀ (i : Nat) (c0 : pnE), h1[i]? = some c0 → pnRC' (fun x => x < h1.length + 1 ∧ x ≠ a) c0 := fun i c0 e9 => by
    have q1 := w6 i c0 (hcl i c0 e9)
    rw [hlen] at q1
    exact pnRC'_and (pnCC_R q1) (f1 i c0 e9)
  have hC : ∀ (i : Nat) (c0 : pnE), h1[i]? = some c0 → pnC τ σ2 (pnRC (pnMvJ h1.length a) c0) = pnC τ σ c0 := fun i c0 e9 => by
    rw [pnC_RC]; exact pnC_eqP hJ (hfr1 i c0 e9)
  have hl2 : ((h1.set a (.inl (5, m, .inr (.inl g)))).map (pnRC (pnMvJ h1.length a))).length = h1.length := by rw [List.length_map, List.length_set]
  have hVs : ∀ v, pnCV (h1.length + 1) v → pnNoV a v = true → pnV σ2 (pnRV (pnMvJ h1.length a) v) = pnV σ v := fun v q1 q2 => by
    rw [pnV_RV]; exact pnV_eqP hJ (pnRV'_and (pnCV_R q1) (pnNoV_of q2))
  have hst9 : (st.map (pnRV (pnMvJ h1.length a))).map (pnV σ2) = st.map (pnV σ) := by
    rw [List.map_map]
    refine List.map_congr_left (fun v hv => ?_)
    have q1 := w8 v hv
    rw [hlen] at q1
    exact hVs v q1 (List.all_eq_true.mp f3 v hv)
  rw [← hst9]
  refine k p l e R s m9 args below meth c D τ A b0 adV mc ms n0 σ0 σ2 mv0 H locs cells slots ls ok ⟨?_, ?_, w3, by rw [hl2]; exact hn0, ?_, ?_, ?_, ?_, ?_, w10, w11⟩
  · intro i x ex
    obtain ⟨c9, g9, rfl⟩ := pnW_of ex
    rcases hw i c9 g9 with ⟨rfl, rfl⟩ | ⟨q1, c0, q2, rfl⟩
    · have := w1 h1.length _ (pnW_at hlast)
      rw [hs1]
      show H[σ h1.length]? = some (vp_cell (τ 5) _)
      rw [h56]
      exact this
    · rw [hs2 i q1, hC i c0 q2]
      exact w1 i _ (pnW_at (hcl i c0 q2))
  · refine ⟨fun i j x y ei ej exy => ?_, fun i x ei => ?_⟩
    · obtain ⟨c9, g9, rfl⟩ := pnW_of ei
      obtain ⟨c8, g8, rfl⟩ := pnW_of ej
      have exy : σ2 i = σ2 j := exy
      rcases hw i c9 g9 with ⟨rfl, rfl⟩ | ⟨q1, c0, q2, rfl⟩ <;> rcases hw j c8 g8 with ⟨r0, r1⟩ | ⟨r1, c7, r2, r3⟩
      · rw [r0]
      · rw [hs1, hs2 j r1] at exy
        have := w2.1 h1.length j _ _ (pnW_at hlast) (pnW_at (hcl j c7 r2)) exy
        have := (List.getElem?_eq_some_iff.mp r2).1
        omega
      · rw [r0, hs1, hs2 i q1] at exy
        have := w2.1 i h1.length _ _ (pnW_at (hcl i c0 q2)) (pnW_at hlast) exy
        have := (List.getElem?_eq_some_iff.mp q2).1
        omega
      · rw [hs2 i q1, hs2 j r1] at exy
        exact w2.1 i j _ _ (pnW_at (hcl i c0 q2)) (pnW_at (hcl j c7 r2)) exy
    · obtain ⟨c9, g9, rfl⟩ := pnW_of ei
      show A (σ2 i)
      rcases hw i c9 g9 with ⟨rfl, rfl⟩ | ⟨q1, c0, q2, rfl⟩
      · rw [hs1]; exact w2.2 h1.length _ (pnW_at hlast)
      · rw [hs2 i q1]; exact w2.2 i _ (pnW_at (hcl i c0 q2))
  · intro x hx9
    have q := w5 x hx9
    refine ⟨?_, fun e9 => ?_, ?_⟩
    · by_cases qa : x = a
      · right
        refine q.2.1 ?_
        unfold pnAt5
        rw [hcl x _ (by rw [qa]; exact he)]; rfl
      · rw [hs2 x qa]; exact q.1
    · by_cases qa : x = a
      · refine q.2.1 ?_
        unfold pnAt5
        rw [hcl x _ (by rw [qa]; exact he)]; rfl
      · unfold pnAt5 at e9
        rw [List.getElem?_map, List.getElem?_set, if_neg (fun z => qa z.symm)] at e9
        cases h9 : h1[x]? with
        | none => rw [h9] at e9; cases e9
        | some c0 =>
          rw [h9] at e9
          have e9 : pnIs5 (pnRC _ c0) = true := e9
          rw [pnIs5_RC] at e9
          refine q.2.1 ?_
          unfold pnAt5
          rw [hcl x c0 h9]; exact e9
    · unfold pnAt6
      cases h9 : ((h1.set a (.inl (5, m, .inr (.inl g)))).map (pnRC (pnMvJ h1.length a)))[x]? with
      | none => rfl
      | some c9 =>
        rcases hw x c9 h9 with ⟨-, rfl⟩ | ⟨q1, c0, q2, rfl⟩
        · rfl
        · show pnIs6 _ = false
          rw [pnIs6_RC]
          have q3 := q.2.2
          unfold pnAt6 at q3
          rw [hcl x c0 q2] at q3; exact q3
  · intro i c9 e9
    rw [hl2]
    rcases hw i c9 e9 with ⟨-, rfl⟩ | ⟨q1, c0, q2, rfl⟩
    · trivial
    · have q3 := w6 i c0 (hcl i c0 q2)
      rw [hlen] at q3
      exact pnCC_RC hJlt q3
  · rw [hl2]
    intro i v e9
    rw [pnGet_mapL] at e9
    cases h9 : pnGet L i with
    | none => rw [h9] at e9; cases e9
    | some x =>
      rw [h9] at e9
      have q1 := w7 i x h9
      rw [hlen] at q1
      rw [← Option.some.inj e9]
      exact pnCV_RV hJlt q1
  · rw [hl2]
    intro v hv
    obtain ⟨x, hx9, rfl⟩ := List.mem_map.mp hv
    have q1 := w8 x hx9
    rw [hlen] at q1
    exact pnCV_RV hJlt q1
  · refine pnLs.of w9 (fun i v e9 => ?_)
    rw [pnGet_mapL] at e9
    cases h9 : pnGet L i with
    | none => rw [h9] at e9; cases e9
    | some x =>
      rw [h9] at e9
      have q1 := w7 i x h9
      rw [hlen] at q1
      rw [← Option.some.inj e9]
      have q2 := pnNoL_of f2 i x h9
      have : pnV σ2 (pnRV (pnMvJ h1.length a) x) = pnV σ x := by
        rw [pnV_RV]; exact pnV_eqP hJ (pnRV'_and (pnCV_R q1) q2)
      rw [this]
      exact pnAs_in h9
def hMr (p9 q9 : Nat) (Y : MN) (P : Nat → MN) (a : G0) (b : G1) (c : G3) (e : G4) (f : G5) (g : G6) (h : G7) : List pnE :=
  [.inr (7, [.int (nI a.1), .ref 1, .int (nI a.2.2.1), .int (nI b.1), .int (nI b.2.1), .int a.2.2.2.1, .int (nI b.2.2.1), .int b.2.2.2.1, .ref 2, .ref 3, .ref 4, .ref 5, .int (nI a.2.2.2.2), .ref 14, .int (nI c.2), .ref 15, .ref 16, .int (nI b.2.2.2.2.2.2.2.2.1), .int (nB b.2.2.2.2.2.2.2.2.2), .ref p9, .ref q9, .ref 19, .long e.2.2.2.2.2.1, .long e.2.2.2.2.2.2.1, .long e.2.2.2.2.2.2.2.1, .int (nI e.2.2.2.2.2.2.2.2), .long f.1, .long f.2, .ref 20, .ref 21, .int (nI g.2.2.1), .int (nI g.2.2.2.1), .int (nI g.2.2.2.2.1), .int (nB g.2.2.2.2.2), .ref 22, .int (nI h.2)]),
   .inl (0, 3, .inl (fun j => nI (a.2.1 j))), .inl (0, 300, .inl b.2.2.2.2.1), .inl (1, 90, .inr (.inl (nowF Y))), .inl (1, 90, .inr (.inl b.2.2.2.2.2.1)), .inl (4, 8, .inr (.inr (.inr (.inr ptF)))),
   .inl (1, 90, .inr (.inl (nowF (P 0)))), .inl (1, 90, .inr (.inl (nowF (P 1)))), .inl (1, 90, .inr (.inl (nowF (P 2)))), .inl (1, 90, .inr (.inl (nowF (P 3)))), .inl (1, 90, .inr (.inl (nowF (P 4)))), .inl (1, 90, .inr (.inl (nowF (P 5)))), .inl (1, 90, .inr (.inl (nowF (P 6)))), .inl (1, 90, .inr (.inl (nowF (P 7)))),
   .inl (0, 5, .inl c.1), .inl (0, 1500, .inl b.2.2.2.2.2.2.1), .inl (0, 300, .inl (fun j => nI (b.2.2.2.2.2.2.2.1 j))), .inl (5, e.1, .inr (.inl e.2.1)), .inl (5, e.2.2.1, .inr (.inl e.2.2.2.1)), .inl (0, 57, .inl (fun j => nI (e.2.2.2.2.1 j))), .inl (1, 55, .inr (.inl g.1)), .inl (1, 55, .inr (.inl g.2.1)), .inl (0, 15, .inl h.1)]
theorem ptF_mv (a9 : Nat) : (fun j => (ptF j).map (fun k => (pnMvJ 23 a9).getD k 0)) = ptF := by
  funext j
  cases e : ptF j with
  | none => rfl
  | some x =>
    have := ptF_lt e
    show some ((pnMvJ 23 a9).getD x 0) = some x
    rw [pnMvJ_lo (by omega)]
theorem pnRC'_pt (a9 : Nat) (h : 14 ≤ a9) : pnRC' (fun x => x ≠ a9) (.inl (4, 8, .inr (.inr (.inr (.inr ptF))))) := fun j x e => by
  have := (ptF_lt e).2
  show x ≠ a9
  omega
theorem hMr_no17 (Y : MN) (P : Nat → MN) (a : G0) (b : G1) (c : G3) (e : G4) (f : G5) (g : G6) (h : G7) : ∀ (i : Nat) (c0 : pnE), (hMr 23 18 Y P a b c e f g h)[i]? = some c0 → pnRC' (fun x => x ≠ 17) c0 := by
  intro i c0 hi
  match i, hi with
  | 5, hi => cases hi; exact pnRC'_pt 17 (by omega)
  | 0, hi | 1, hi | 2, hi | 3, hi | 4, hi | 6, hi | 7, hi | 8, hi | 9, hi | 10, hi | 11, hi | 12, hi | 13, hi | 14, hi | 15, hi | 16, hi | 17, hi | 18, hi | 19, hi | 20, hi | 21, hi | 22, hi => cases hi; exact pnNoC_of rfl
  | i + 23, hi => cases hi
theorem hMr_no18 (Y : MN) (P : Nat → MN) (a : G0) (b : G1) (c : G3) (e : G4) (f : G5) (g : G6) (h : G7) : ∀ (i : Nat) (c0 : pnE), (hMr 17 23 Y P a b c e f g h)[i]? = some c0 → pnRC' (fun x => x ≠ 18) c0 := by
  intro i c0 hi
  match i, hi with
  | 5, hi => cases hi; exact pnRC'_pt 18 (by omega)
  | 0, hi | 1, hi | 2, hi | 3, hi | 4, hi | 6, hi | 7, hi | 8, hi | 9, hi | 10, hi | 11, hi | 12, hi | 13, hi | 14, hi | 15, hi | 16, hi | 17, hi | 18, hi | 19, hi | 20, hi | 21, hi | 22, hi => cases hi; exact pnNoC_of rfl
  | i + 23, hi => cases hi
set_option maxRecDepth 100000 in
theorem m_mvAll {M : pnM} {adK : Nat → Nat} {d : Nat} {Q : pnR → List pnE → Prop} {bc bs : Nat} {pc : Nat} (Y : MN) (P : Nat → MN) (a : G0) (b : G1) (c : G3) (e : G4) (f : G5) (g : G6) (h : G7) (m : Nat) (F : Nat → Int64) (k : pnWP M adK d Q bc bs (hM Y P a b c (m, F, e.2.2) f g h) [some (.ref 0)] [] pc) : pnWP M adK d Q bc bs (hMr 23 18 Y P a b c e f g h ++ [.inl (6, m, .inr (.inl F))]) [some (.ref 0)] [] pc := by
  refine pn_moveG (a := 17) (h1 := hMr 23 18 Y P a b c e f g h) (m := m) (g := F) rfl rfl (hMr_no17 Y P a b c e f g h) rfl rfl ?_
  refine pn_eq (h' := hM Y P a b c (m, F, e.2.2) f g h) (st' := []) ?_ rfl k
  show (_ :: _ :: _ :: _ :: _ :: (Sum.inl (4, 8, .inr (.inr (.inr (.inr (fun j => (ptF j).map (fun k => (pnMvJ 23 17).getD k 0)))))) : pnE) :: _ : List pnE) = _
  rw [ptF_mv]
  rfl
set_option maxRecDepth 100000 in
theorem m_mvAside {M : pnM} {adK : Nat → Nat} {d : Nat} {Q : pnR → List pnE → Prop} {bc bs : Nat} {pc : Nat} (Y : MN) (P : Nat → MN) (a : G0) (b : G1) (c : G3) (e : G4) (f : G5) (g : G6) (h : G7) (m : Nat) (F : Nat → Int64) (k : pnWP M adK d Q bc bs (hM Y P a b c (e.1, e.2.1, m, F, e.2.2.2.2) f g h) [some (.ref 0)] [] pc) : pnWP M adK d Q bc bs (hMr 17 23 Y P a b c e f g h ++ [.inl (6, m, .inr (.inl F))]) [some (.ref 0)] [] pc := by
  refine pn_moveG (a := 18) (h1 := hMr 17 23 Y P a b c e f g h) (m := m) (g := F) rfl rfl (hMr_no18 Y P a b c e f g h) rfl rfl ?_
  refine pn_eq (h' := hM Y P a b c (e.1, e.2.1, m, F, e.2.2.2.2) f g h) (st' := []) ?_ rfl k
  show (_ :: _ :: _ :: _ :: _ :: (Sum.inl (4, 8, .inr (.inr (.inr (.inr (fun j => (ptF j).map (fun k => (pnMvJ 23 18).getD k 0)))))) : pnE) :: _ : List pnE) = _
  rw [ptF_mv]
  rfl
