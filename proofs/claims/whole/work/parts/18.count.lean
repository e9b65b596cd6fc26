theorem pnc_eq (x y : Int64) : (lg_cmp x y = 0) ↔ (x = y) := by
  unfold lg_cmp
  simp only [gt_iff_lt]
  by_cases h : y < x
  · simp only [h, if_true]
    constructor
    · intro e; exact absurd e (by decide)
    · intro e; subst e; exact absurd h (by simp [Int64.lt_iff_toInt_lt])
  · by_cases h2 : x = y
    · simp [h2]
    · simp only [h, h2, if_false]; constructor
      · intro e; exact absurd e (by decide)
      · intro e; exact e.elim
theorem pnc_ne (x y : Int64) : (lg_cmp x y = 0) ↔ (x = y) := pnc_eq x y
theorem pnc_ge (x y : Int64) : (0 ≤ lg_cmp x y) ↔ (y ≤ x) := lg_cmp_ge x y
theorem pnc_tri (x y : Int64) : (y < x ∧ lg_cmp x y = 1) ∨ (x = y ∧ lg_cmp x y = 0) ∨ (x < y ∧ lg_cmp x y = -1) := by
  unfold lg_cmp
  simp only [gt_iff_lt]
  by_cases h : y < x
  · left; simp [h]
  · by_cases h2 : x = y
    · right; left; subst h2; simp [h]
    · right; right
      refine ⟨?_, by simp [h, h2]⟩
      rw [Int64.lt_iff_toInt_lt] at h ⊢
      have : x.toInt ≠ y.toInt := fun e => h2 (Int64.toInt_inj.mp e)
      omega
theorem pnc_lt (x y : Int64) : (lg_cmp x y < 0) ↔ (x < y) := by
  rcases pnc_tri x y with ⟨h, e⟩ | ⟨h, e⟩ | ⟨h, e⟩ <;> rw [e]
  · exact ⟨fun q => absurd q (by decide), fun q => by rw [Int64.lt_iff_toInt_lt] at h q; omega⟩
  · exact ⟨fun q => absurd q (by decide), fun q => by subst h; rw [Int64.lt_iff_toInt_lt] at q; omega⟩
  · exact ⟨fun _ => h, fun _ => by decide⟩
theorem pnc_gt (x y : Int64) : (0 < lg_cmp x y) ↔ (y < x) := by
  rcases pnc_tri x y with ⟨h, e⟩ | ⟨h, e⟩ | ⟨h, e⟩ <;> rw [e]
  · exact ⟨fun _ => h, fun _ => by decide⟩
  · exact ⟨fun q => absurd q (by decide), fun q => by subst h; rw [Int64.lt_iff_toInt_lt] at q; omega⟩
  · exact ⟨fun q => absurd q (by decide), fun q => by rw [Int64.lt_iff_toInt_lt] at h q; omega⟩
theorem pnc_le (x y : Int64) : (lg_cmp x y ≤ 0) ↔ (x ≤ y) := by
  rcases pnc_tri x y with ⟨h, e⟩ | ⟨h, e⟩ | ⟨h, e⟩ <;> rw [e]
  · exact ⟨fun q => absurd q (by decide), fun q => by rw [Int64.lt_iff_toInt_lt] at h; rw [Int64.le_iff_toInt_le] at q; omega⟩
  · exact ⟨fun _ => by subst h; rw [Int64.le_iff_toInt_le]; omega, fun _ => by decide⟩
  · exact ⟨fun _ => by rw [Int64.lt_iff_toInt_lt] at h; rw [Int64.le_iff_toInt_le]; omega, fun _ => by decide⟩
def pnCVb (n : Nat) : Value → Bool
  | .ref k => Nat.blt k n
  | _ => true
def pnCCb (n : Nat) : pnE → Bool
  | .inl (_, _, .inr (.inr (.inr (.inr _)))) => false
  | .inr (_, fs) => fs.all (pnCVb n)
  | _ => true
theorem pnCV_b {n : Nat} {v : Value} (h : pnCVb n v = true) : pnCV n v := by
  cases v <;> first | trivial | exact Nat.blt_eq.mp h
theorem pnCC_b {n : Nat} {c : pnE} (h : pnCCb n c = true) : pnCC n c := by
  match c, h with
  | .inl (_, _, .inr (.inr (.inr (.inr g)))), h => cases h
  | .inr (_, fs), h => exact fun v hv => pnCV_b (List.all_eq_true.mp h v hv)
  | .inl (_, _, .inl _), _ => trivial
  | .inl (_, _, .inr (.inl _)), _ => trivial
  | .inl (_, _, .inr (.inr (.inl _))), _ => trivial
  | .inl (_, _, .inr (.inr (.inr (.inl _)))), _ => trivial
theorem pnCH_b {h : List pnE} (e : h.all (pnCCb h.length) = true) : pnCH h := fun k c hk => pnCC_b (List.all_eq_true.mp e c (List.mem_of_getElem? hk))
theorem pnCS_b {n : Nat} {st : List Value} (e : st.all (pnCVb n) = true) : pnCS n st := fun v hv => pnCV_b (List.all_eq_true.mp e v hv)
/-! ===== the same with numbers that count ===== -/
theorem pn_iinc1 {M : pnM} {adK : Nat → Nat} {d : Nat} {Q : pnR → List pnE → Prop} {bc bs : Nat} {h : List pnE} {L : List (Option Value)} {st : List Value} {pc q : Nat} {i j : Nat} (hd : decode M.2.1 pc = .ok (.iinc i 1, 3)) (hq : pc + 3 = q) (hl : pnGet L i = some (.int (nI j))) (hi : i < M.2.2.1) (k : pnWP M adK d Q bc bs h (pnSet L i (.int (nI (j + 1)))) st q) : pnWP M adK d Q bc bs h L st pc := by
  refine pn_iinc (mm := 1) hd hq hl (by decide) hi ?_
  rw [nI_1]
  exact k
theorem pn_neq {M : pnM} {adK : Nat → Nat} {d : Nat} {Q : pnR → List pnE → Prop} {bc bs : Nat} {h : List pnE} {L : List (Option Value)} {st : List Value} {pc q : Nat} {i j : Nat} {off : Int} {tgt : Nat} (hd : decode M.2.1 pc = .ok (.if_icmp .eq off, 3)) (ht : (pc : Int) + off = (tgt : Int)) (hq : pc + 3 = q) (hi : i < 2 ^ 31) (hj : j < 2 ^ 31) (kt : i = j → pnWP M adK d Q bc bs h L st tgt) (kf : i ≠ j → pnWP M adK d Q bc bs h L st q) : pnWP M adK d Q bc bs h L (.int (nI j) :: .int (nI i) :: st) pc := pn_icmp_eq hd ht hq (fun hc => kt ((nI_eq hi hj).mp hc)) (fun hc => kf (fun e => hc (by rw [e])))
theorem pn_nne {M : pnM} {adK : Nat → Nat} {d : Nat} {Q : pnR → List pnE → Prop} {bc bs : Nat} {h : List pnE} {L : List (Option Value)} {st : List Value} {pc q : Nat} {i j : Nat} {off : Int} {tgt : Nat} (hd : decode M.2.1 pc = .ok (.if_icmp .ne off, 3)) (ht : (pc : Int) + off = (tgt : Int)) (hq : pc + 3 = q) (hi : i < 2 ^ 31) (hj : j < 2 ^ 31) (kt : i ≠ j → pnWP M adK d Q bc bs h L st tgt) (kf : i = j → pnWP M adK d Q bc bs h L st q) : pnWP M adK d Q bc bs h L (.int (nI j) :: .int (nI i) :: st) pc := pn_icmp_ne hd ht hq (fun hc => kt (fun e => hc (by rw [e]))) (fun hc => kf ((nI_eq hi hj).mp hc))
theorem pn_nlt {M : pnM} {adK : Nat → Nat} {d : Nat} {Q : pnR → List pnE → Prop} {bc bs : Nat} {h : List pnE} {L : List (Option Value)} {st : List Value} {pc q : Nat} {i j : Nat} {off : Int} {tgt : Nat} (hd : decode M.2.1 pc = .ok (.if_icmp .lt off, 3)) (ht : (pc : Int) + off = (tgt : Int)) (hq : pc + 3 = q) (hi : i < 2 ^ 31) (hj : j < 2 ^ 31) (kt : i < j → pnWP M adK d Q bc bs h L st tgt) (kf : j ≤ i → pnWP M adK d Q bc bs h L st q) : pnWP M adK d Q bc bs h L (.int (nI j) :: .int (nI i) :: st) pc := pn_icmp_lt hd ht hq (fun hc => kt ((nI_ltI hi hj).mp hc)) (fun hc => kf (Nat.not_lt.mp (fun e => hc ((nI_ltI hi hj).mpr e))))
theorem pn_nge {M : pnM} {adK : Nat → Nat} {d : Nat} {Q : pnR → List pnE → Prop} {bc bs : Nat} {h : List pnE} {L : List (Option Value)} {st : List Value} {pc q : Nat} {i j : Nat} {off : Int} {tgt : Nat} (hd : decode M.2.1 pc = .ok (.if_icmp .ge off, 3)) (ht : (pc : Int) + off = (tgt : Int)) (hq : pc + 3 = q) (hi : i < 2 ^ 31) (hj : j < 2 ^ 31) (kt : j ≤ i → pnWP M adK d Q bc bs h L st tgt) (kf : i < j → pnWP M adK d Q bc bs h L st q) : pnWP M adK d Q bc bs h L (.int (nI j) :: .int (nI i) :: st) pc := pn_icmp_ge hd ht hq (fun hc => kt ((nI_leI hj hi).mp hc)) (fun hc => kf (Nat.not_le.mp (fun e => hc ((nI_leI hj hi).mpr e))))
theorem pn_ngt {M : pnM} {adK : Nat → Nat} {d : Nat} {Q : pnR → List pnE → Prop} {bc bs : Nat} {h : List pnE} {L : List (Option Value)} {st : List Value} {pc q : Nat} {i j : Nat} {off : Int} {tgt : Nat} (hd : decode M.2.1 pc = .ok (.if_icmp .gt off, 3)) (ht : (pc : Int) + off = (tgt : Int)) (hq : pc + 3 = q) (hi : i < 2 ^ 31) (hj : j < 2 ^ 31) (kt : j < i → pnWP M adK d Q bc bs h L st tgt) (kf : i ≤ j → pnWP M adK d Q bc bs h L st q) : pnWP M adK d Q bc bs h L (.int (nI j) :: .int (nI i) :: st) pc := pn_icmp_gt hd ht hq (fun hc => kt ((nI_ltI hj hi).mp hc)) (fun hc => kf (Nat.not_lt.mp (fun e => hc ((nI_ltI hj hi).mpr e))))
theorem pn_nle {M : pnM} {adK : Nat → Nat} {d : Nat} {Q : pnR → List pnE → Prop} {bc bs : Nat} {h : List pnE} {L : List (Option Value)} {st : List Value} {pc q : Nat} {i j : Nat} {off : Int} {tgt : Nat} (hd : decode M.2.1 pc = .ok (.if_icmp .le off, 3)) (ht : (pc : Int) + off = (tgt : Int)) (hq : pc + 3 = q) (hi : i < 2 ^ 31) (hj : j < 2 ^ 31) (kt : i ≤ j → pnWP M adK d Q bc bs h L st tgt) (kf : j < i → pnWP M adK d Q bc bs h L st q) : pnWP M adK d Q bc bs h L (.int (nI j) :: .int (nI i) :: st) pc := pn_icmp_le hd ht hq (fun hc => kt ((nI_leI hi hj).mp hc)) (fun hc => kf (Nat.not_le.mp (fun e => hc ((nI_leI hi hj).mpr e))))
theorem pn_zeq {M : pnM} {adK : Nat → Nat} {d : Nat} {Q : pnR → List pnE → Prop} {bc bs : Nat} {h : List pnE} {L : List (Option Value)} {st : List Value} {pc q : Nat} {i : Nat} {off : Int} {tgt : Nat} (hd : decode M.2.1 pc = .ok (.ifCond .eq off, 3)) (ht : (pc : Int) + off = (tgt : Int)) (hq : pc + 3 = q) (hi : i < 2 ^ 31) (kt : i = 0 → pnWP M adK d Q bc bs h L st tgt) (kf : i ≠ 0 → pnWP M adK d Q bc bs h L st q) : pnWP M adK d Q bc bs h L (.int (nI i) :: st) pc := pn_if_eq hd ht hq (fun hc => kt ((nI_eq hi (by decide)).mp (hc.trans nI_0.symm))) (fun hc => kf (fun e => hc (by rw [e]; exact nI_0)))
theorem pn_zne {M : pnM} {adK : Nat → Nat} {d : Nat} {Q : pnR → List pnE → Prop} {bc bs : Nat} {h : List pnE} {L : List (Option Value)} {st : List Value} {pc q : Nat} {i : Nat} {off : Int} {tgt : Nat} (hd : decode M.2.1 pc = .ok (.ifCond .ne off, 3)) (ht : (pc : Int) + off = (tgt : Int)) (hq : pc + 3 = q) (hi : i < 2 ^ 31) (kt : i ≠ 0 → pnWP M adK d Q bc bs h L st tgt) (kf : i = 0 → pnWP M adK d Q bc bs h L st q) : pnWP M adK d Q bc bs h L (.int (nI i) :: st) pc := pn_if_ne hd ht hq (fun hc => kt (fun e => hc (by rw [e]; exact nI_0))) (fun hc => kf ((nI_eq hi (by decide)).mp (hc.trans nI_0.symm)))
theorem pn_zlt {M : pnM} {adK : Nat → Nat} {d : Nat} {Q : pnR → List pnE → Prop} {bc bs : Nat} {h : List pnE} {L : List (Option Value)} {st : List Value} {pc q : Nat} {i : Nat} {off : Int} {tgt : Nat} (hd : decode M.2.1 pc = .ok (.ifCond .lt off, 3)) (ht : (pc : Int) + off = (tgt : Int)) (hq : pc + 3 = q) (hi : i < 2 ^ 31) (kt : False → pnWP M adK d Q bc bs h L st tgt) (kf : True → pnWP M adK d Q bc bs h L st q) : pnWP M adK d Q bc bs h L (.int (nI i) :: st) pc := pn_if_lt hd ht hq (fun hc => (nI_pos hi hc).elim) (fun hc => kf trivial)
theorem pn_zge {M : pnM} {adK : Nat → Nat} {d : Nat} {Q : pnR → List pnE → Prop} {bc bs : Nat} {h : List pnE} {L : List (Option Value)} {st : List Value} {pc q : Nat} {i : Nat} {off : Int} {tgt : Nat} (hd : decode M.2.1 pc = .ok (.ifCond .ge off, 3)) (ht : (pc : Int) + off = (tgt : Int)) (hq : pc + 3 = q) (hi : i < 2 ^ 31) (kt : True → pnWP M adK d Q bc bs h L st tgt) (kf : False → pnWP M adK d Q bc bs h L st q) : pnWP M adK d Q bc bs h L (.int (nI i) :: st) pc := pn_if_ge hd ht hq (fun hc => kt trivial) (fun hc => (hc (nI_pos' hi)).elim)
theorem pn_zgt {M : pnM} {adK : Nat → Nat} {d : Nat} {Q : pnR → List pnE → Prop} {bc bs : Nat} {h : List pnE} {L : List (Option Value)} {st : List Value} {pc q : Nat} {i : Nat} {off : Int} {tgt : Nat} (hd : decode M.2.1 pc = .ok (.ifCond .gt off, 3)) (ht : (pc : Int) + off = (tgt : Int)) (hq : pc + 3 = q) (hi : i < 2 ^ 31) (kt : 0 < i → pnWP M adK d Q bc bs h L st tgt) (kf : i = 0 → pnWP M adK d Q bc bs h L st q) : pnWP M adK d Q bc bs h L (.int (nI i) :: st) pc := pn_if_gt hd ht hq (fun hc => kt (by rw [← nI_0] at hc; exact (nI_ltI (by decide) hi).mp hc)) (fun hc => kf (Nat.eq_zero_of_not_pos (fun e => hc (by rw [← nI_0]; exact (nI_ltI (by decide) hi).mpr e))))
theorem pn_zle {M : pnM} {adK : Nat → Nat} {d : Nat} {Q : pnR → List pnE → Prop} {bc bs : Nat} {h : List pnE} {L : List (Option Value)} {st : List Value} {pc q : Nat} {i : Nat} {off : Int} {tgt : Nat} (hd : decode M.2.1 pc = .ok (.ifCond .le off, 3)) (ht : (pc : Int) + off = (tgt : Int)) (hq : pc + 3 = q) (hi : i < 2 ^ 31) (kt : i = 0 → pnWP M adK d Q bc bs h L st tgt) (kf : 0 < i → pnWP M adK d Q bc bs h L st q) : pnWP M adK d Q bc bs h L (.int (nI i) :: st) pc := pn_if_le hd ht hq (fun hc => kt (by rw [← nI_0] at hc; have := (nI_leI hi (by decide)).mp hc; omega)) (fun hc => kf (Nat.not_le.mp (fun e => hc (by rw [← nI_0]; exact (nI_leI hi (by decide)).mpr e))))
theorem pn_leq {M : pnM} {adK : Nat → Nat} {d : Nat} {Q : pnR → List pnE → Prop} {bc bs : Nat} {h : List pnE} {L : List (Option Value)} {st : List Value} {pc q : Nat} {x y : Int64} {q1 : Nat} {off : Int} {tgt : Nat} (hd1 : decode M.2.1 pc = .ok (.lcmp, 1)) (h1 : pc + 1 = q1) (hd : decode M.2.1 q1 = .ok (.ifCond .eq off, 3)) (ht : (q1 : Int) + off = (tgt : Int)) (hq : q1 + 3 = q) (kt : x = y → pnWP M adK d Q bc bs h L st tgt) (kf : ¬ x = y → pnWP M adK d Q bc bs h L st q) : pnWP M adK d Q bc bs h L (.long y :: .long x :: st) pc := pn_lcmp hd1 h1 (pn_if_eq hd ht hq (fun hc => kt (by simpa only [pnc_eq] using hc)) (fun hc => kf (by simpa only [pnc_eq] using hc)))
theorem pn_lne {M : pnM} {adK : Nat → Nat} {d : Nat} {Q : pnR → List pnE → Prop} {bc bs : Nat} {h : List pnE} {L : List (Option Value)} {st : List Value} {pc q : Nat} {x y : Int64} {q1 : Nat} {off : Int} {tgt : Nat} (hd1 : decode M.2.1 pc = .ok (.lcmp, 1)) (h1 : pc + 1 = q1) (hd : decode M.2.1 q1 = .ok (.ifCond .ne off, 3)) (ht : (q1 : Int) + off = (tgt : Int)) (hq : q1 + 3 = q) (kt : ¬ x = y → pnWP M adK d Q bc bs h L st tgt) (kf : x = y → pnWP M adK d Q bc bs h L st q) : pnWP M adK d Q bc bs h L (.long y :: .long x :: st) pc := pn_lcmp hd1 h1 (pn_if_ne hd ht hq (fun hc => kt (by simpa only [pnc_ne] using hc)) (fun hc => kf (by simpa only [pnc_ne] using hc)))
theorem pn_llt {M : pnM} {adK : Nat → Nat} {d : Nat} {Q : pnR → List pnE → Prop} {bc bs : Nat} {h : List pnE} {L : List (Option Value)} {st : List Value} {pc q : Nat} {x y : Int64} {q1 : Nat} {off : Int} {tgt : Nat} (hd1 : decode M.2.1 pc = .ok (.lcmp, 1)) (h1 : pc + 1 = q1) (hd : decode M.2.1 q1 = .ok (.ifCond .lt off, 3)) (ht : (q1 : Int) + off = (tgt : Int)) (hq : q1 + 3 = q) (kt : x < y → pnWP M adK d Q bc bs h L st tgt) (kf : ¬ x < y → pnWP M adK d Q bc bs h L st q) : pnWP M adK d Q bc bs h L (.long y :: .long x :: st) pc := pn_lcmp hd1 h1 (pn_if_lt hd ht hq (fun hc => kt (by simpa only [pnc_lt] using hc)) (fun hc => kf (by simpa only [pnc_lt] using hc)))
theorem pn_lge {M : pnM} {adK : Nat → Nat} {d : Nat} {Q : pnR → List pnE → Prop} {bc bs : Nat} {h : List pnE} {L : List (Option Value)} {st : List Value} {pc q : Nat} {x y : Int64} {q1 : Nat} {off : Int} {tgt : Nat} (hd1 : decode M.2.1 pc = .ok (.lcmp, 1)) (h1 : pc + 1 = q1) (hd : decode M.2.1 q1 = .ok (.ifCond .ge off, 3)) (ht : (q1 : Int) + off = (tgt : Int)) (hq : q1 + 3 = q) (kt : y ≤ x → pnWP M adK d Q bc bs h L st tgt) (kf : ¬ y ≤ x → pnWP M adK d Q bc bs h L st q) : pnWP M adK d Q bc bs h L (.long y :: .long x :: st) pc := pn_lcmp hd1 h1 (pn_if_ge hd ht hq (fun hc => kt (by simpa only [pnc_ge] using hc)) (fun hc => kf (by simpa only [pnc_ge] using hc)))
theorem pn_lgt {M : pnM} {adK : Nat → Nat} {d : Nat} {Q : pnR → List pnE → Prop} {bc bs : Nat} {h : List pnE} {L : List (Option Value)} {st : List Value} {pc q : Nat} {x y : Int64} {q1 : Nat} {off : Int} {tgt : Nat} (hd1 : decode M.2.1 pc = .ok (.lcmp, 1)) (h1 : pc + 1 = q1) (hd : decode M.2.1 q1 = .ok (.ifCond .gt off, 3)) (ht : (q1 : Int) + off = (tgt : Int)) (hq : q1 + 3 = q) (kt : y < x → pnWP M adK d Q bc bs h L st tgt) (kf : ¬ y < x → pnWP M adK d Q bc bs h L st q) : pnWP M adK d Q bc bs h L (.long y :: .long x :: st) pc := pn_lcmp hd1 h1 (pn_if_gt hd ht hq (fun hc => kt (by simpa only [pnc_gt] using hc)) (fun hc => kf (by simpa only [pnc_gt] using hc)))
theorem pn_lle {M : pnM} {adK : Nat → Nat} {d : Nat} {Q : pnR → List pnE → Prop} {bc bs : Nat} {h : List pnE} {L : List (Option Value)} {st : List Value} {pc q : Nat} {x y : Int64} {q1 : Nat} {off : Int} {tgt : Nat} (hd1 : decode M.2.1 pc = .ok (.lcmp, 1)) (h1 : pc + 1 = q1) (hd : decode M.2.1 q1 = .ok (.ifCond .le off, 3)) (ht : (q1 : Int) + off = (tgt : Int)) (hq : q1 + 3 = q) (kt : x ≤ y → pnWP M adK d Q bc bs h L st tgt) (kf : ¬ x ≤ y → pnWP M adK d Q bc bs h L st q) : pnWP M adK d Q bc bs h L (.long y :: .long x :: st) pc := pn_lcmp hd1 h1 (pn_if_le hd ht hq (fun hc => kt (by simpa only [pnc_le] using hc)) (fun hc => kf (by simpa only [pnc_le] using hc)))
