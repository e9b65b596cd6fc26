/-! ===== the law's start ===== -/
theorem bk_new {A : List pnE} {x : pnE} {B : List pnE} {a n : Nat} (hA : A.length = a) (hB : B.length = n + 1) : pnBack (A ++ [x]) [a] B = A ++ B.map (pnRC (List.range' a (n + 1))) := by
  have e : pnJ [a] (A ++ [x]).length B.length = List.range' a (n + 1) := by
    unfold pnJ
    rw [List.length_append, List.length_singleton, List.length_singleton, hA, hB, Nat.add_sub_cancel, List.range'_succ]
    rfl
  unfold pnBack
  rw [e]
  match B, hB with
  | b :: B, hB =>
    show (A ++ [x]).set a (pnRC (List.range' a (n + 1)) b) ++ B.map (pnRC (List.range' a (n + 1))) = _
    rw [List.set_append_right _ _ (by omega), hA, Nat.sub_self]
    simp
theorem sel_new {A : List pnE} {c : pnE} {a : Nat} (hA : A.length = a) (hc : pnRC [a] c = c) : pnSel (A ++ [c]) [a] [c] := by
  refine ⟨rfl, fun i j hi hj e => ?_, fun k c' hk => ?_⟩
  · rw [List.length_singleton] at hi hj
    omega
  · match k, hk with
    | 0, hk =>
      cases hk
      show (A ++ [c])[a]? = _
      rw [List.getElem?_append_right (by omega), hA, Nat.sub_self, hc]
      rfl
    | k + 1, hk => cases hk
theorem fr_new {h : List pnE} {L : List (Option Value)} {st : List Value} {I : List Nat} {c : pnE} (h5 : pnIs5 c = false) : pnFree h L st I [c] := by
  have n5 : ∀ k, ¬ pnAt5 [c] k = true := fun k hk => by
    match k, hk with
    | 0, hk =>
      have hk : pnIs5 c = true := hk
      rw [h5] at hk
      cases hk
    | k + 1, hk => cases hk
  exact ⟨fun i c' _ _ => pnRC'_true (fun x k hk => absurd hk (n5 k)) c', fun i v _ => pnRV'_true (fun x k hk => absurd hk (n5 k)) v, fun v _ => pnRV'_true (fun x k hk => absurd hk (n5 k)) v⟩
def hX0 : List pnE := hP (fun _ => 0) 0 (-1) nsI asI qsI csI wsI ssI (fun _ => 0) (fun _ => 0)
theorem eqS_I : eqS nsI mnI := by
  refine ⟨⟨rfl, rfl, rfl, rfl, rfl, rfl⟩, fun j hj => absurd hj (Nat.not_lt_zero _), ⟨fun _ => 0, rfl, ?_⟩, by decide, by decide, Or.inl ⟨rfl, rfl⟩, ?_, ?_⟩
  · exact ⟨Nat.zero_le _, fun _ => Nat.zero_le _, fun b hb => absurd hb (Nat.not_lt_zero _)⟩
  · intro i hi
    show (7 : Nat).testBit i = false
    exact Nat.testBit_lt_two_pow (Nat.lt_of_lt_of_le (show 7 < 2 ^ 55 by decide) (Nat.pow_le_pow_right (by decide) hi))
  · exact ⟨fun i hi => absurd hi (Nat.not_lt_zero _), fun i hi => absurd hi (Nat.not_lt_zero _)⟩
theorem LI0 {bc bs : Nat} (h1 : cC csI.2.1 + potC g4I.1 ≤ bc) (h2 : cS csI.2.1 + potS g4I.1 ≤ bs) : LIw hX0 mdI 0 bc bs := by
  refine ⟨fun _ => 0, 0, -1, nsI, asI, qsI, csI, wsI, ssI, fun _ => 0, fun _ => 0, mnI, fun _ => mnZ, g0I, g1I, g3I, g4I, g5I, g6I, g7I, rfl, rfl, ?_, rfl, h1, h2⟩
  refine ⟨⟨Or.inr rfl, Nat.zero_le _, fun _ => Nat.zero_le _, fun _ => Nat.zero_le _, fun _ => 0, fun _ => Nat.zero_le _, rfl⟩, ⟨fun _ => ?_, fun _ => ?_, Nat.zero_le _, rfl, rfl⟩, ⟨eqS_I, ⟨rfl, Nat.zero_le _, by decide, fun i hi => absurd hi (Nat.not_lt_zero _)⟩, rfl⟩, ⟨fun _ => Nat.zero_le _, Nat.zero_le _⟩, ⟨?_, ⟨⟨fun _ => Nat.zero_le _, Nat.zero_le _, Nat.zero_le _, Nat.zero_le _⟩, fun h => by cases h⟩, rfl, Nat.zero_le _, Or.inl rfl⟩⟩
  · show -128 ≤ (0 : Int32).toInt ∧ (0 : Int32).toInt ≤ 127
    decide
  · show (0 : Int32) = 0 &&& 255
    decide
  · exact ⟨Or.inl rfl, Nat.le_refl _, fun _ => Nat.zero_le _, fun _ => Nat.le_refl _, Or.inl ⟨rfl, rfl, rfl, rfl, rfl⟩⟩
theorem ls_c {adK : Nat → Nat} {bc bs : Nat} {A B : List pnE} (hA : A.length = 61) (hB : B.length = 23) (k : pnWP mL_law adK 104 QL bc bs (A ++ (B ++ [oW (fun _ => 0)])) (LL adK 0) [] 23) : pnWP mL_law adK 104 QL (bc + 1) (bs + 1) (A ++ B) [some (.retAddr (adK 2000)), some (.ref 0)] [.ref 61] 15 := by
  refine pn_astore_n (q := 16) dL_law_15 rfl (by decide) rfl ?_
  refine pn_iconst (q := 17) (v := nI 1) dL_law_16 rfl (by decide) ?_
  refine pn_newl (q := 19) pw_163 dL_law_17 rfl rfl (by decide) ?_
  rw [show (A ++ B).length = 84 by rw [List.length_append, hA, hB], List.append_assoc]
  refine pn_astore_n (q := 20) dL_law_19 rfl (by decide) rfl ?_
  refine pn_iconst (q := 21) (v := nI 0) dL_law_20 rfl (by decide) ?_
  refine pn_istore (q := 23) dL_law_21 rfl (by decide) ?_
  exact k
theorem ls_b {adK : Nat → Nat} {bc bs : Nat} {A : List pnE} (hA : A.length = 61) (k : pnWP mL_law adK 104 QL bc bs (A ++ mdI.map (pnRC IY9)) [some (.retAddr (adK 2000)), some (.ref 0)] [.ref 61] 15) : pnWP mL_law adK 104 QL (bc + 22 + 1) (bs + 3198 + 36) A [some (.retAddr (adK 2000))] [.ref 0] 7 := by
  refine pn_astore_n (q := 8) dL_law_7 rfl (by decide) rfl ?_
  refine pn_newO (q := 11) (ci := 7) (N := 36) (T := TX7) (ty0 := tyX7) (fs := md0) pw_1069 pw_1070 pw_85 ow_X7 tyX7_ok rfl (by decide) rfl dL_law_8 rfl ?_
  rw [hA]
  refine pn_dup (q := 12) dL_law_11 rfl rfl ?_
  refine pn_callI (I := [61]) (k0 := 0) (bc9 := bc) (bs9 := bs) (st := [.ref 61]) (m_init adK 100) lkL_75 dL_law_12 rfl (sel_new hA rfl) (fr_new rfl) rfl (by omega) (Nat.le_refl _) (Nat.le_refl _) (by decide) (fun r h' hq _ => ?_) (fun E h' hq _ => by cases hq.1)
  obtain ⟨e1, e2⟩ := hq
  cases e1
  rw [e2]
  have hl : mdI.length = 22 + 1 := rfl
  rw [bk_new (A := A) (a := 61) (n := 22) hA hl]
  exact k
theorem ls_a {adK : Nat → Nat} {bc bs : Nat} (k : pnWP mL_law adK 104 QL bc bs (hX0.map (pnRC IX9)) [some (.retAddr (adK 2000))] [.ref 0] 7) : pnWP mL_law adK 104 QL (bc + 60 + 1) (bs + 1751 + 11) [] [some (.retAddr (adK 2000))] [] 0 := by
  have hC : pnCt mX6_init adK 103 60 1751 [.ref 0] [.inr (6, [.null, .int (nI 0), .int (nI 0), .null, .null, .null, .null, .null, .null, .null, .null])] (pnIs (.inl none) hX0) := p_init adK 100
  have hl : hX0.length = 60 + 1 := rfl
  generalize hX0 = X at *
  refine pn_newO (q := 3) (ci := 6) (N := 11) (T := TX6) (ty0 := tyX6) (fs := [.null, .int (nI 0), .int (nI 0), .null, .null, .null, .null, .null, .null, .null, .null]) pw_100 pw_101 pw_78 ow_X6 tyX6_ok rfl (by decide) rfl dL_law_0 rfl ?_
  refine pn_dup (q := 4) dL_law_3 rfl rfl ?_
  refine pn_callI (I := [0]) (k0 := 0) (bc9 := bc) (bs9 := bs) (st := [.ref 0]) hC lkL_72 dL_law_4 rfl (sel_new (A := []) rfl rfl) (fr_new rfl) rfl (by omega) (Nat.le_refl _) (Nat.le_refl _) (by decide) (fun r h' hq _ => ?_) (fun E h' hq _ => by cases hq.1)
  obtain ⟨e1, e2⟩ := hq
  cases e1
  rw [e2, bk_new (A := []) (a := 0) (n := 60) rfl hl, List.nil_append]
  exact k
theorem lw_start {adK : Nat → Nat} (hn : adK 2001 ≤ 3072) : pnWP mL_law adK 104 QL 5000 510000 [] [some (.retAddr (adK 2000))] [] 0 := by
  have b1 := pot_C0 g4I.1
  have b2 := pot_S0 g4I.1
  have b3 : cC csI.2.1 = 2875 := by decide
  have b4 : cS csI.2.1 = 92000 := by decide
  have hL : LIw hX0 mdI 0 3475 492000 := LI0 (by omega) (by omega)
  have l1 : (hX0.map (pnRC IX9)).length = 61 := by rw [List.length_map]; rfl
  have l2 : (mdI.map (pnRC IY9)).length = 23 := by rw [List.length_map]; rfl
  have main := lw_loop hn 512 0 hX0 mdI (fun _ => 0) 0 3475 492000 hL (by omega) (by omega)
  exact pn_bud (ls_a (ls_b l1 (ls_c l1 l2 main))) (by omega) (by omega)
