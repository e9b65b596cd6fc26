theorem pn_iaddN {M : pnM} {adK : Nat → Nat} {d : Nat} {Q : pnR → List pnE → Prop} {bc bs : Nat} {h : List pnE} {L : List (Option Value)} {st : List Value} {pc q : Nat} {i j : Nat} (hd : decode M.2.1 pc = .ok (.iadd, 1)) (hq : pc + 1 = q) (k : pnWP M adK d Q bc bs h L (.int (nI (i + j)) :: st) q) : pnWP M adK d Q bc bs h L (.int (nI j) :: .int (nI i) :: st) pc := by
  refine pn_iadd hd hq ?_
  rw [nI_add i j]
  exact k
theorem pn_imulN {M : pnM} {adK : Nat → Nat} {d : Nat} {Q : pnR → List pnE → Prop} {bc bs : Nat} {h : List pnE} {L : List (Option Value)} {st : List Value} {pc q : Nat} {i j : Nat} (hd : decode M.2.1 pc = .ok (.imul, 1)) (hq : pc + 1 = q) (k : pnWP M adK d Q bc bs h L (.int (nI (i * j)) :: st) q) : pnWP M adK d Q bc bs h L (.int (nI j) :: .int (nI i) :: st) pc := by
  refine pn_imul hd hq ?_
  rw [pk_mul i j]
  exact k
theorem pn_isubN {M : pnM} {adK : Nat → Nat} {d : Nat} {Q : pnR → List pnE → Prop} {bc bs : Nat} {h : List pnE} {L : List (Option Value)} {st : List Value} {pc q : Nat} {i j : Nat} (hd : decode M.2.1 pc = .ok (.isub, 1)) (hq : pc + 1 = q) (hs : j ≤ i) (k : pnWP M adK d Q bc bs h L (.int (nI (i - j)) :: st) q) : pnWP M adK d Q bc bs h L (.int (nI j) :: .int (nI i) :: st) pc := by
  refine pn_isub hd hq ?_
  rw [pk_sub hs]
  exact k
theorem pn_idivN {M : pnM} {adK : Nat → Nat} {d : Nat} {Q : pnR → List pnE → Prop} {bc bs : Nat} {h : List pnE} {L : List (Option Value)} {st : List Value} {pc q : Nat} {i j : Nat} (hd : decode M.2.1 pc = .ok (.idiv, 1)) (hq : pc + 1 = q) (hs : i < 2 ^ 31 ∧ 0 < j ∧ j < 2 ^ 31) (k : pnWP M adK d Q bc bs h L (.int (nI (i / j)) :: st) q) : pnWP M adK d Q bc bs h L (.int (nI j) :: .int (nI i) :: st) pc := by
  refine pn_idiv hd hq (nI_ne0 hs.2.1 hs.2.2) ?_
  rw [pk_div hs.1 hs.2.1 hs.2.2]
  exact k
theorem pn_iremN {M : pnM} {adK : Nat → Nat} {d : Nat} {Q : pnR → List pnE → Prop} {bc bs : Nat} {h : List pnE} {L : List (Option Value)} {st : List Value} {pc q : Nat} {i j : Nat} (hd : decode M.2.1 pc = .ok (.irem, 1)) (hq : pc + 1 = q) (hs : i < 2 ^ 31 ∧ 0 < j ∧ j < 2 ^ 31) (k : pnWP M adK d Q bc bs h L (.int (nI (i % j)) :: st) q) : pnWP M adK d Q bc bs h L (.int (nI j) :: .int (nI i) :: st) pc := by
  refine pn_irem hd hq (nI_ne0 hs.2.1 hs.2.2) ?_
  rw [pk_rem hs.1 hs.2.1 hs.2.2]
  exact k
theorem pn_i2lN {M : pnM} {adK : Nat → Nat} {d : Nat} {Q : pnR → List pnE → Prop} {bc bs : Nat} {h : List pnE} {L : List (Option Value)} {st : List Value} {pc q : Nat} {i : Nat} (hd : decode M.2.1 pc = .ok (.i2l, 1)) (hq : pc + 1 = q) (hs : i < 2 ^ 31) (k : pnWP M adK d Q bc bs h L (.long (lN i) :: st) q) : pnWP M adK d Q bc bs h L (.int (nI i) :: st) pc := by
  refine pn_i2l hd hq ?_
  rw [nI_l hs]
  exact k
theorem pn_l2iN {M : pnM} {adK : Nat → Nat} {d : Nat} {Q : pnR → List pnE → Prop} {bc bs : Nat} {h : List pnE} {L : List (Option Value)} {st : List Value} {pc q : Nat} {i : Nat} (hd : decode M.2.1 pc = .ok (.l2i, 1)) (hq : pc + 1 = q) (k : pnWP M adK d Q bc bs h L (.int (nI i) :: st) q) : pnWP M adK d Q bc bs h L (.long (lN i) :: st) pc := by
  refine pn_l2i hd hq ?_
  rw [lN_i]
  exact k
theorem pn_laddN {M : pnM} {adK : Nat → Nat} {d : Nat} {Q : pnR → List pnE → Prop} {bc bs : Nat} {h : List pnE} {L : List (Option Value)} {st : List Value} {pc q : Nat} {i j : Nat} (hd : decode M.2.1 pc = .ok (.ladd, 1)) (hq : pc + 1 = q) (k : pnWP M adK d Q bc bs h L (.long (lN (i + j)) :: st) q) : pnWP M adK d Q bc bs h L (.long (lN j) :: .long (lN i) :: st) pc := by
  refine pn_ladd hd hq ?_
  rw [lN_add i j]
  exact k
theorem pn_lmulN {M : pnM} {adK : Nat → Nat} {d : Nat} {Q : pnR → List pnE → Prop} {bc bs : Nat} {h : List pnE} {L : List (Option Value)} {st : List Value} {pc q : Nat} {i j : Nat} (hd : decode M.2.1 pc = .ok (.lmul, 1)) (hq : pc + 1 = q) (k : pnWP M adK d Q bc bs h L (.long (lN (i * j)) :: st) q) : pnWP M adK d Q bc bs h L (.long (lN j) :: .long (lN i) :: st) pc := by
  refine pn_lmul hd hq ?_
  rw [lN_mul i j]
  exact k
theorem pn_lsubN {M : pnM} {adK : Nat → Nat} {d : Nat} {Q : pnR → List pnE → Prop} {bc bs : Nat} {h : List pnE} {L : List (Option Value)} {st : List Value} {pc q : Nat} {i j : Nat} (hd : decode M.2.1 pc = .ok (.lsub, 1)) (hq : pc + 1 = q) (hs : j ≤ i) (k : pnWP M adK d Q bc bs h L (.long (lN (i - j)) :: st) q) : pnWP M adK d Q bc bs h L (.long (lN j) :: .long (lN i) :: st) pc := by
  refine pn_lsub hd hq ?_
  rw [lN_sub hs]
  exact k
/-- a truth as a number -/
def nB (b : Bool) : Int32 := nI b.toNat
theorem nB_01 (b : Bool) : nB b = 0 ∨ nB b = 1 := by cases b <;> first | exact Or.inl rfl | exact Or.inr rfl
theorem pn_beq {M : pnM} {adK : Nat → Nat} {d : Nat} {Q : pnR → List pnE → Prop} {bc bs : Nat} {h : List pnE} {L : List (Option Value)} {st : List Value} {pc q : Nat} {b : Bool} {off : Int} {tgt : Nat} (hd : decode M.2.1 pc = .ok (.ifCond .eq off, 3)) (ht : (pc : Int) + off = (tgt : Int)) (hq : pc + 3 = q) (kt : b = false → pnWP M adK d Q bc bs h L st tgt) (kf : b = true → pnWP M adK d Q bc bs h L st q) : pnWP M adK d Q bc bs h L (.int (nB b) :: st) pc := pn_if_eq hd ht hq (fun hc => kt (by cases b <;> first | rfl | exact absurd hc (by decide))) (fun hc => kf (by cases b <;> first | rfl | exact absurd rfl hc))
theorem pn_bne {M : pnM} {adK : Nat → Nat} {d : Nat} {Q : pnR → List pnE → Prop} {bc bs : Nat} {h : List pnE} {L : List (Option Value)} {st : List Value} {pc q : Nat} {b : Bool} {off : Int} {tgt : Nat} (hd : decode M.2.1 pc = .ok (.ifCond .ne off, 3)) (ht : (pc : Int) + off = (tgt : Int)) (hq : pc + 3 = q) (kt : b = true → pnWP M adK d Q bc bs h L st tgt) (kf : b = false → pnWP M adK d Q bc bs h L st q) : pnWP M adK d Q bc bs h L (.int (nB b) :: st) pc := pn_if_ne hd ht hq (fun hc => kt (by cases b <;> first | rfl | exact absurd rfl hc)) (fun hc => kf (by cases b <;> first | rfl | exact absurd hc (by decide)))
theorem pn_tret {M : pnM} {adK : Nat → Nat} {d : Nat} {Q : pnR → List pnE → Prop} {bc bs : Nat} {h : List pnE} {L : List (Option Value)} {pc : Nat} {b : Bool} (x : Int32) (hx : x = nB b) (hd : decode M.2.1 pc = .ok (.ireturn, 1)) (hr9 : M.2.2.2.1 = some .boolean) (hQ : Q (.inl (some (.int (nB b)))) h) : pnWP M adK d Q bc bs h L [.int x] pc := by
  subst hx
  exact pn_bret hd hr9 (nB_01 b) hQ
