/-! ===== the reference's object and its world ===== -/
/-- what the reference's row 'now' tells: nodes, network, shape, size, parts, bases, parts' lines, bases' numbers -/
abbrev MN : Type := Nat × Int64 × Nat × Nat × Nat × Nat × (Nat → Int64) × (Nat → Nat)
def nowF (Y : MN) : Nat → Int64 := fun j => if j = 0 then lN Y.1 else if j = 1 then lN Y.2.2.1 else if j = 2 then lN Y.2.2.2.1 else if j = 3 then lN Y.2.2.2.2.1 else if j = 4 then lN Y.2.2.2.2.2.1 else if j < 29 then lN (Y.2.2.2.2.2.2.2 (j - 5)) else if j = 29 then Y.2.1 else Y.2.2.2.2.2.2.1 (j - 30)
theorem nowF_p (Y : MN) (p : Nat) : nowF Y (30 + p) = Y.2.2.2.2.2.2.1 p := by
  unfold nowF
  rw [if_neg (by omega), if_neg (by omega), if_neg (by omega), if_neg (by omega), if_neg (by omega), if_neg (by omega), if_neg (by omega), show 30 + p - 30 = p by omega]
theorem nowF_b (Y : MN) (j : Nat) (h : j < 24) : nowF Y (5 + j) = lN (Y.2.2.2.2.2.2.2 j) := by
  unfold nowF
  rw [if_neg (by omega), if_neg (by omega), if_neg (by omega), if_neg (by omega), if_neg (by omega), if_pos (by omega), show 5 + j - 5 = j by omega]
abbrev G0 : Type := Nat × (Nat → Nat) × Nat × Int32 × Nat
abbrev G1 : Type := Nat × Nat × Nat × Int32 × (Nat → Int32) × (Nat → Int64) × (Nat → Int32) × (Nat → Nat) × Nat × Bool
abbrev G3 : Type := (Nat → Int32) × Nat
abbrev G4 : Type := Nat × (Nat → Int64) × Nat × (Nat → Int64) × (Nat → Nat) × Int64 × Int64 × Int64 × Nat
abbrev G5 : Type := Int64 × Int64
abbrev G6 : Type := (Nat → Int64) × (Nat → Int64) × Nat × Nat × Nat × Bool
abbrev G7 : Type := (Nat → Int32) × Nat
def ptF : Nat → Option Nat := fun j => if j < 8 then some (6 + j) else none
def hM (Y : MN) (P : Nat → MN) (a : G0) (b : G1) (c : G3) (e : G4) (f : G5) (g : G6) (h : G7) : List pnE :=
  [.inr (7, [.int (nI a.1), .ref 1, .int (nI a.2.2.1), .int (nI b.1), .int (nI b.2.1), .int a.2.2.2.1, .int (nI b.2.2.1), .int b.2.2.2.1, .ref 2, .ref 3, .ref 4, .ref 5, .int (nI a.2.2.2.2), .ref 14, .int (nI c.2), .ref 15, .ref 16, .int (nI b.2.2.2.2.2.2.2.2.1), .int (nB b.2.2.2.2.2.2.2.2.2), .ref 17, .ref 18, .ref 19, .long e.2.2.2.2.2.1, .long e.2.2.2.2.2.2.1, .long e.2.2.2.2.2.2.2.1, .int (nI e.2.2.2.2.2.2.2.2), .long f.1, .long f.2, .ref 20, .ref 21, .int (nI g.2.2.1), .int (nI g.2.2.2.1), .int (nI g.2.2.2.2.1), .int (nB g.2.2.2.2.2), .ref 22, .int (nI h.2)]),
   .inl (0, 3, .inl (fun j => nI (a.2.1 j))), .inl (0, 300, .inl b.2.2.2.2.1), .inl (1, 90, .inr (.inl (nowF Y))), .inl (1, 90, .inr (.inl b.2.2.2.2.2.1)), .inl (4, 8, .inr (.inr (.inr (.inr ptF)))),
   .inl (1, 90, .inr (.inl (nowF (P 0)))), .inl (1, 90, .inr (.inl (nowF (P 1)))), .inl (1, 90, .inr (.inl (nowF (P 2)))), .inl (1, 90, .inr (.inl (nowF (P 3)))), .inl (1, 90, .inr (.inl (nowF (P 4)))), .inl (1, 90, .inr (.inl (nowF (P 5)))), .inl (1, 90, .inr (.inl (nowF (P 6)))), .inl (1, 90, .inr (.inl (nowF (P 7)))),
   .inl (0, 5, .inl c.1), .inl (0, 1500, .inl b.2.2.2.2.2.2.1), .inl (0, 300, .inl (fun j => nI (b.2.2.2.2.2.2.2.1 j))), .inl (5, e.1, .inr (.inl e.2.1)), .inl (5, e.2.2.1, .inr (.inl e.2.2.2.1)), .inl (0, 57, .inl (fun j => nI (e.2.2.2.2.1 j))), .inl (1, 55, .inr (.inl g.1)), .inl (1, 55, .inr (.inl g.2.1)), .inl (0, 15, .inl h.1)]
theorem ptF_lt {j x : Nat} (h : ptF j = some x) : 6 ≤ x ∧ x < 14 := by
  unfold ptF at h
  split at h
  · cases h; omega
  · cases h
theorem hM_cl {Y : MN} {P : Nat → MN} {a : G0} {b : G1} {c : G3} {e : G4} {f : G5} {g : G6} {h : G7} : pnCH (hM Y P a b c e f g h) := pnCH_q rfl (fun q hq j x e => by
  have hq : q ∈ [ptF] := hq
  rw [List.mem_singleton] at hq
  subst hq
  exact Nat.lt_of_lt_of_le (ptF_lt e).2 (Nat.le_of_ble_eq_true rfl))
set_option maxRecDepth 100000 in
theorem m_thrown (adK : Nat → Nat) (d : Nat) (Y : MN) (P : Nat → MN) (a : G0) (b : G1) (c : G3) (e : G4) (f : G5) (g : G6) (h : G7) : pnCt mX7_thrown adK d 0 0 [.ref 0] (hM Y P a b c e f g h) (pnIs (.inl (some (.int (nI a.1)))) (hM Y P a b c e f g h)) := by
  refine pnCt_of (by decide) kX7_thrown (Nat.le_of_ble_eq_true rfl) rfl hM_cl (pnCS_b rfl) ?_
  refine pn_aload_n (q := 1) dX7_thrown_0 rfl rfl rfl ?_
  refine pn_get (q := 4) fX7_63 dX7_thrown_1 rfl rfl rfl ?_
  refine pn_iret dX7_thrown_4 rfl ?_
  exact ⟨rfl, rfl⟩
/-- refused: what is thrown, and counted -/
abbrev bdA (a : G0) (w r : Nat) : G0 := (w, updN a.2.1 r (a.2.1 r + 1), a.2.2)
set_option maxRecDepth 100000 in
theorem m_badT (adK : Nat → Nat) (d : Nat) (Y : MN) (P : Nat → MN) (a : G0) (b : G1) (c : G3) (e : G4) (f : G5) (g : G6) (h : G7) (w r : Nat) (ha : a.1 = 0) (hw : 1 ≤ w) (hw2 : w ≤ 9) (hr : r < 3) : pnCt mX7_bad adK d 0 0 [.ref 0, .int (nB true), .int (nI w), .int (nI r)] (hM Y P a b c e f g h) (pnIs (.inl (some (.int (nB true)))) (hM Y P (bdA a w r) b c e f g h)) := by
  refine pnCt_of (by decide) kX7_bad (Nat.le_of_ble_eq_true rfl) rfl hM_cl (pnCS_b rfl) ?_
  refine pn_iload_n (q := 1) dX7_bad_0 rfl rfl ?_
  refine pn_beq (q := 4) (tgt := 26) dX7_bad_1 (by decide) rfl (fun hc1 => ?_) (fun hc1 => ?_)
  · cases hc1
  · refine pn_aload_n (q := 5) dX7_bad_4 rfl rfl rfl ?_
    refine pn_get (q := 8) fX7_63 dX7_bad_5 rfl rfl rfl ?_
    first | refine pn_zne (q := 11) (tgt := 26) dX7_bad_8 (by decide) rfl (by omega) (fun hc8 => ?_) (fun hc8 => ?_) | refine pn_if_ne (q := 11) (tgt := 26) dX7_bad_8 (by decide) rfl (fun hc8 => ?_) (fun hc8 => ?_)
    · omega
    · refine pn_aload_n (q := 12) dX7_bad_11 rfl rfl rfl ?_
      refine pn_iload_n (q := 13) dX7_bad_12 rfl rfl ?_
      refine pn_put (q := 16) fX7_63 dX7_bad_13 rfl rfl (Nat.le_of_ble_eq_true rfl) (pnF_int _) ?_
      refine pn_aload_n (q := 17) dX7_bad_16 rfl rfl rfl ?_
      refine pn_get (q := 20) fX7_9 dX7_bad_17 rfl rfl rfl ?_
      refine pn_iload_n (q := 21) dX7_bad_20 rfl rfl ?_
      first | refine pn_dup2 (q := 22) dX7_bad_21 rfl rfl rfl ?_ | refine pn_dup2l (q := 22) dX7_bad_21 rfl ?_
      refine pn_iald (q := 23) dX7_bad_22 rfl rfl rfl (by omega) (by first | decide | omega) ?_
      refine pn_iconst (q := 24) (v := nI 1) dX7_bad_23 rfl (by decide) ?_
      first | with_reducible refine pn_iaddN (q := 25) dX7_bad_24 rfl ?_ | refine pn_iadd (q := 25) dX7_bad_24 rfl ?_
      refine pn_iast (q := 26) dX7_bad_25 rfl rfl rfl (by omega) (by decide) ?_; rw [updN_nI]
      refine pn_aload_n (q := 27) dX7_bad_26 rfl rfl rfl ?_
      refine pn_get (q := 30) fX7_63 dX7_bad_27 rfl rfl rfl ?_
      first | refine pn_zeq (q := 33) (tgt := 37) dX7_bad_30 (by decide) rfl (by omega) (fun hc30 => ?_) (fun hc30 => ?_) | refine pn_if_eq (q := 33) (tgt := 37) dX7_bad_30 (by decide) rfl (fun hc30 => ?_) (fun hc30 => ?_)
      · omega
      · refine pn_iconst (q := 34) (v := nI 1) dX7_bad_33 rfl (by decide) ?_
        refine pn_goto (q := 38) dX7_bad_34 (by decide) ?_
        refine pn_tret (b := true) _ ?_ dX7_bad_38 rfl ?_
        · rfl
        · exact ⟨rfl, rfl⟩
set_option maxRecDepth 100000 in
theorem m_badF (adK : Nat → Nat) (d : Nat) (Y : MN) (P : Nat → MN) (a : G0) (b : G1) (c : G3) (e : G4) (f : G5) (g : G6) (h : G7) (w r : Nat) (ha : a.1 = 0) : pnCt mX7_bad adK d 0 0 [.ref 0, .int (nB false), .int (nI w), .int (nI r)] (hM Y P a b c e f g h) (pnIs (.inl (some (.int (nB false)))) (hM Y P a b c e f g h)) := by
  refine pnCt_of (by decide) kX7_bad (Nat.le_of_ble_eq_true rfl) rfl hM_cl (pnCS_b rfl) ?_
  refine pn_iload_n (q := 1) dX7_bad_0 rfl rfl ?_
  refine pn_beq (q := 4) (tgt := 26) dX7_bad_1 (by decide) rfl (fun hc1 => ?_) (fun hc1 => ?_)
  · refine pn_aload_n (q := 27) dX7_bad_26 rfl rfl rfl ?_
    refine pn_get (q := 30) fX7_63 dX7_bad_27 rfl rfl rfl ?_
    first | refine pn_zeq (q := 33) (tgt := 37) dX7_bad_30 (by decide) rfl (by omega) (fun hc30 => ?_) (fun hc30 => ?_) | refine pn_if_eq (q := 33) (tgt := 37) dX7_bad_30 (by decide) rfl (fun hc30 => ?_) (fun hc30 => ?_)
    · refine pn_iconst (q := 38) (v := nI 0) dX7_bad_37 rfl (by decide) ?_
      refine pn_tret (b := false) _ ?_ dX7_bad_38 rfl ?_
      · rfl
      · exact ⟨rfl, rfl⟩
    · omega
  · cases hc1
set_option maxRecDepth 100000 in
theorem m_many (adK : Nat → Nat) (d : Nat) (Y : MN) (P : Nat → MN) (a : G0) (b : G1) (c : G3) (e : G4) (f : G5) (g : G6) (h : G7) : pnCt mX7_many adK d 0 0 [.ref 0] (hM Y P a b c e f g h) (pnIs (.inl (some (.int (nI Y.2.2.2.2.1)))) (hM Y P a b c e f g h)) := by
  refine pnCt_of (by decide) kX7_many (Nat.le_of_ble_eq_true rfl) rfl hM_cl (pnCS_b rfl) ?_
  refine pn_aload_n (q := 1) dX7_many_0 rfl rfl rfl ?_
  refine pn_get (q := 4) fX7_20 dX7_many_1 rfl rfl rfl ?_
  refine pn_iconst (q := 5) (v := nI 3) dX7_many_4 rfl (by decide) ?_
  (first | refine pn_lald1 (q := 6) dX7_many_5 rfl rfl rfl (by omega) (by first | decide | omega) ?_ | refine pn_lald5 (q := 6) dX7_many_5 rfl rfl rfl (by omega) (by first | decide | omega) ?_); refine pn_eq (h' := _) (st' := .long (lN Y.2.2.2.2.1) :: _) rfl rfl ?_
  first | with_reducible refine pn_l2iN (q := 7) dX7_many_6 rfl ?_ | refine pn_l2i (q := 7) dX7_many_6 rfl ?_
  refine pn_iret dX7_many_7 rfl ?_
  exact ⟨rfl, rfl⟩
def tknN (ps : Nat → Int64) : Nat → Int64
  | 0 => lN 0
  | i + 1 => tknN ps i ||| ps i
theorem lf_step (g t p : Int64) : (g &&& (t ^^^ (-1))) &&& (p ^^^ (-1)) = g &&& ((t ||| p) ^^^ (-1)) := by
  apply Int64.toBitVec_inj.mp
  simp only [Int64.toBitVec_and, Int64.toBitVec_xor, Int64.toBitVec_or]
  apply BitVec.eq_of_getLsbD_eq
  intro i hi
  simp only [BitVec.getLsbD_and, BitVec.getLsbD_xor, BitVec.getLsbD_or]
  have h1 : (Int64.toBitVec (-1)).getLsbD i = true := (show ∀ i, i < 64 → (Int64.toBitVec (-1)).getLsbD i = true by decide +kernel) i hi
  rw [h1]
  cases g.toBitVec.getLsbD i <;> cases t.toBitVec.getLsbD i <;> cases p.toBitVec.getLsbD i <;> rfl
theorem lf_tk (ps : Nat → Int64) (g : Int64) : ∀ i, g &&& (tknN ps i ^^^ (-1)) = lfN ps g i
  | 0 => by
    show g &&& (lN 0 ^^^ (-1)) = g
    rw [show lN 0 ^^^ (-1) = -1 by decide]
    exact Int64.and_neg_one
  | i + 1 => by
    have ih := lf_tk ps g i
    show g &&& ((tknN ps i ||| ps i) ^^^ (-1)) = lfN ps g i &&& (ps i ^^^ (-1))
    rw [← ih, lf_step]
set_option maxRecDepth 100000 in
theorem m_taken (adK : Nat → Nat) (d : Nat) (Y : MN) (P : Nat → MN) (a : G0) (b : G1) (c : G3) (e : G4) (f : G5) (g : G6) (h : G7) (hpc : Y.2.2.2.2.1 ≤ 60) : pnCt mX7_taken adK (d + 1) 0 0 [.ref 0] (hM Y P a b c e f g h) (pnIs (.inl (some (.long (tknN Y.2.2.2.2.2.2.1 Y.2.2.2.2.1)))) (hM Y P a b c e f g h)) := by
  refine pnCt_of (by decide) kX7_taken (Nat.le_of_ble_eq_true rfl) rfl hM_cl (pnCS_b rfl) ?_
  have loop : ∀ (z i : Nat), i + z = Y.2.2.2.2.1 → pnWP mX7_taken adK (d + 1) (pnIs (.inl (some (.long (tknN Y.2.2.2.2.2.2.1 Y.2.2.2.2.1)))) (hM Y P a b c e f g h)) 0 0 (hM Y P a b c e f g h) [some (.ref 0), some (.long (tknN Y.2.2.2.2.2.2.1 i)), none, some (.int (nI i))] [] 4 := by
    intro z
    induction z with
    | zero =>
      intro i hz
      refine pn_iload_n (q := 5) dX7_taken_4 rfl rfl ?_
      refine pn_aload_n (q := 6) dX7_taken_5 rfl rfl rfl ?_
      refine pn_idV (q := 9) (bc9 := 0) (bs9 := 0) (m_many adK d Y P a b c e f g h) lkX7_232 dX7_taken_6 rfl rfl (hM_cl) (hM_cl) (Nat.le_of_ble_eq_true rfl) rfl rfl rfl rfl rfl rfl (by omega) (by omega) (by omega) (Nat.le_of_ble_eq_true rfl) ?_
      first | refine pn_nge (q := 12) (tgt := 30) dX7_taken_9 (by decide) rfl (by omega) (by omega) (fun hc9 => ?_) (fun hc9 => ?_) | refine pn_icmp_ge (q := 12) (tgt := 30) dX7_taken_9 (by decide) rfl (fun hc9 => ?_) (fun hc9 => ?_)
      · refine pn_lload_n (q := 31) dX7_taken_30 rfl rfl ?_
        refine pn_lret dX7_taken_31 rfl ?_
        exact ⟨by rw [show i = Y.2.2.2.2.1 by omega], rfl⟩
      · omega
    | succ z ih =>
      intro i hz
      refine pn_iload_n (q := 5) dX7_taken_4 rfl rfl ?_
      refine pn_aload_n (q := 6) dX7_taken_5 rfl rfl rfl ?_
      refine pn_idV (q := 9) (bc9 := 0) (bs9 := 0) (m_many adK d Y P a b c e f g h) lkX7_232 dX7_taken_6 rfl rfl (hM_cl) (hM_cl) (Nat.le_of_ble_eq_true rfl) rfl rfl rfl rfl rfl rfl (by omega) (by omega) (by omega) (Nat.le_of_ble_eq_true rfl) ?_
      first | refine pn_nge (q := 12) (tgt := 30) dX7_taken_9 (by decide) rfl (by omega) (by omega) (fun hc9 => ?_) (fun hc9 => ?_) | refine pn_icmp_ge (q := 12) (tgt := 30) dX7_taken_9 (by decide) rfl (fun hc9 => ?_) (fun hc9 => ?_)
      · omega
      · refine pn_lload_n (q := 13) dX7_taken_12 rfl rfl ?_
        refine pn_aload_n (q := 14) dX7_taken_13 rfl rfl rfl ?_
        refine pn_get (q := 17) fX7_20 dX7_taken_14 rfl rfl rfl ?_
        refine pn_bipush (q := 19) (v := nI 30) dX7_taken_17 rfl (by decide) ?_
        refine pn_iload_n (q := 20) dX7_taken_19 rfl rfl ?_
        first | with_reducible refine pn_iaddN (q := 21) dX7_taken_20 rfl ?_ | refine pn_iadd (q := 21) dX7_taken_20 rfl ?_
        refine pn_lald1 (q := 22) dX7_taken_21 rfl rfl rfl (by omega) (by decide) ?_; rw [nowF_p]
        refine pn_lor (q := 23) dX7_taken_22 rfl ?_
        refine pn_lstore_n (q := 24) dX7_taken_23 rfl (by decide) ?_
        first | refine pn_iinc1 (q := 27) dX7_taken_24 rfl rfl (by decide) ?_ | refine pn_iinc (q := 27) (mm := 1) dX7_taken_24 rfl rfl (by decide) (by decide) ?_
        refine pn_goto (q := 4) dX7_taken_27 (by decide) ?_
        exact ih (i + 1) (by omega)
  refine pn_lconst (q := 1) (v := lN 0) dX7_taken_0 rfl (by decide) ?_
  refine pn_lstore_n (q := 2) dX7_taken_1 rfl (by decide) ?_
  refine pn_iconst (q := 3) (v := nI 0) dX7_taken_2 rfl (by decide) ?_
  refine pn_istore_n (q := 4) dX7_taken_3 rfl (by decide) ?_
  exact loop Y.2.2.2.2.1 0 (by omega)
set_option maxRecDepth 100000 in
theorem m_leftNow (adK : Nat → Nat) (d : Nat) (Y : MN) (P : Nat → MN) (a : G0) (b : G1) (c : G3) (e : G4) (f : G5) (g : G6) (h : G7) (hpc : Y.2.2.2.2.1 ≤ 60) : pnCt mX7_leftNow adK (d + 2) 0 0 [.ref 0] (hM Y P a b c e f g h) (pnIs (.inl (some (.long (lfN Y.2.2.2.2.2.2.1 Y.2.1 Y.2.2.2.2.1)))) (hM Y P a b c e f g h)) := by
  refine pnCt_of (by decide) kX7_leftNow (Nat.le_of_ble_eq_true rfl) rfl hM_cl (pnCS_b rfl) ?_
  refine pn_aload_n (q := 1) dX7_leftNow_0 rfl rfl rfl ?_
  refine pn_get (q := 4) fX7_20 dX7_leftNow_1 rfl rfl rfl ?_
  refine pn_bipush (q := 6) (v := nI 29) dX7_leftNow_4 rfl (by decide) ?_
  (first | refine pn_lald1 (q := 7) dX7_leftNow_6 rfl rfl rfl (by omega) (by first | decide | omega) ?_ | refine pn_lald5 (q := 7) dX7_leftNow_6 rfl rfl rfl (by omega) (by first | decide | omega) ?_); refine pn_eq (h' := _) (st' := .long (Y.2.1) :: _) rfl rfl ?_
  refine pn_aload_n (q := 8) dX7_leftNow_7 rfl rfl rfl ?_
  refine pn_idV (q := 11) (bc9 := 0) (bs9 := 0) (m_taken adK d Y P a b c e f g h hpc) lkX7_235 dX7_leftNow_8 rfl rfl (hM_cl) (hM_cl) (Nat.le_of_ble_eq_true rfl) rfl rfl rfl rfl rfl rfl (by omega) (by omega) (by omega) (Nat.le_of_ble_eq_true rfl) ?_
  refine pn_ldc2 (q := 14) pw_1283 dX7_leftNow_11 rfl ?_
  refine pn_lxor (q := 15) dX7_leftNow_14 rfl ?_
  refine pn_land (q := 16) dX7_leftNow_15 rfl ?_
  refine pn_lret dX7_leftNow_16 rfl ?_
  exact ⟨by rw [← lf_tk], rfl⟩
theorem inL_sub {n : Nat} (hn : n ≤ 1000) (x : Int32) : inL x.toInt64 (lN 0) ((nI n - nI 1).toInt64) = hasN n x := by
  unfold inL hasN
  have e0 : (lN 0).toInt = 0 := by decide
  have e1 : (nI n - nI 1).toInt = (n : Int) - 1 := by
    cases n with
    | zero => decide
    | succ m =>
      have : nI (m + 1) - nI 1 = nI m := by
        have h2 : nI (m + 1) = nI m + nI 1 := by
          show Int32.ofNat (m + 1) = Int32.ofNat m + Int32.ofNat 1
          rw [Int32.ofNat_add]
        rw [h2]
        exact Int32.add_sub_cancel _ _
      rw [this, nI_toInt (by omega)]
      omega
  apply decide_eq_decide.mpr
  rw [Int64.le_iff_toInt_le, Int64.le_iff_toInt_le, Int32.toInt_toInt64, Int32.toInt_toInt64, e0, e1]
  omega
theorem inL_lsub {n : Nat} (hn : n ≤ 1000) (hn1 : 1 ≤ n) (x : Int32) : inL x.toInt64 (lN 0) (lN (n - 1)) = hasN n x := by
  unfold inL hasN
  have e0 : (lN 0).toInt = 0 := by decide
  have e1 : (lN (n - 1)).toInt = ((n - 1 : Nat) : Int) := lg_ofNat_toInt (by omega)
  apply decide_eq_decide.mpr
  rw [Int64.le_iff_toInt_le, Int64.le_iff_toInt_le, Int32.toInt_toInt64, e0, e1]
  omega
theorem inL_nat {lo hi : Nat} (hlo : lo ≤ 1000) (hhi : hi ≤ 1000) (x : Int32) : inL x.toInt64 (lN lo) (lN hi) = decide ((lo : Int) ≤ x.toInt ∧ x.toInt ≤ (hi : Int)) := by
  unfold inL
  have e0 : (lN lo).toInt = lo := lg_ofNat_toInt (by omega)
  have e1 : (lN hi).toInt = hi := lg_ofNat_toInt (by omega)
  apply decide_eq_decide.mpr
  rw [Int64.le_iff_toInt_le, Int64.le_iff_toInt_le, Int32.toInt_toInt64, e0, e1]
set_option maxRecDepth 100000 in
theorem m_isThere (adK : Nat → Nat) (d : Nat) (Y : MN) (P : Nat → MN) (a : G0) (b : G1) (c : G3) (e : G4) (f : G5) (g : G6) (h : G7) (x : Int32) (hpc : Y.2.2.2.2.1 ≤ 60) : pnCt mX7_isThere adK (d + 1) 0 0 [.ref 0, .int x] (hM Y P a b c e f g h) (pnIs (.inl (some (.int (nB (hasN Y.2.2.2.2.1 x))))) (hM Y P a b c e f g h)) := by
  refine pnCt_of (by decide) kX7_isThere (Nat.le_of_ble_eq_true rfl) rfl hM_cl (pnCS_b rfl) ?_
  have C0 := m_in adK d x.toInt64 (lN 0) ((nI Y.2.2.2.2.1 - nI 1).toInt64)
  rw [inL_sub (by omega)] at C0
  refine pn_iload_n (q := 1) dX7_isThere_0 rfl rfl ?_
  refine pn_i2l (q := 2) dX7_isThere_1 rfl ?_
  refine pn_lconst (q := 3) (v := lN 0) dX7_isThere_2 rfl (by decide) ?_
  refine pn_aload_n (q := 4) dX7_isThere_3 rfl rfl rfl ?_
  refine pn_idV (q := 7) (bc9 := 0) (bs9 := 0) (m_many adK d Y P a b c e f g h) lkX7_232 dX7_isThere_4 rfl rfl (hM_cl) (hM_cl) (Nat.le_of_ble_eq_true rfl) rfl rfl rfl rfl rfl rfl (by omega) (by omega) (by omega) (Nat.le_of_ble_eq_true rfl) ?_
  refine pn_iconst (q := 8) (v := nI 1) dX7_isThere_7 rfl (by decide) ?_
  refine pn_isub (q := 9) dX7_isThere_8 rfl ?_
  refine pn_i2l (q := 10) dX7_isThere_9 rfl ?_
  refine pn_roS1 (q := 13) (C0) lkX7_92 dX7_isThere_10 rfl rfl (pnSel_of (I := []) rfl rfl) (pnFree_none rfl) rfl (by omega) (Nat.le_of_ble_eq_true rfl) rfl ?_
  refine pn_tret (b := hasN Y.2.2.2.2.1 x) _ ?_ dX7_isThere_13 rfl ?_
  · rfl
  · exact ⟨rfl, rfl⟩
set_option maxRecDepth 100000 in
theorem m_isNode (adK : Nat → Nat) (d : Nat) (Y : MN) (P : Nat → MN) (a : G0) (b : G1) (c : G3) (e : G4) (f : G5) (g : G6) (h : G7) (x : Int32) (hn : Y.1 ≤ 11) (hn1 : 1 ≤ Y.1) : pnCt mX7_isNode adK (d + 1) 0 0 [.ref 0, .int x] (hM Y P a b c e f g h) (pnIs (.inl (some (.int (nB (hasN Y.1 x))))) (hM Y P a b c e f g h)) := by
  refine pnCt_of (by decide) kX7_isNode (Nat.le_of_ble_eq_true rfl) rfl hM_cl (pnCS_b rfl) ?_
  have C0 := m_in adK d x.toInt64 (lN 0) (lN (Y.1 - 1))
  rw [inL_lsub (by omega) hn1] at C0
  refine pn_iload_n (q := 1) dX7_isNode_0 rfl rfl ?_
  refine pn_i2l (q := 2) dX7_isNode_1 rfl ?_
  refine pn_lconst (q := 3) (v := lN 0) dX7_isNode_2 rfl (by decide) ?_
  refine pn_aload_n (q := 4) dX7_isNode_3 rfl rfl rfl ?_
  refine pn_get (q := 7) fX7_20 dX7_isNode_4 rfl rfl rfl ?_
  refine pn_iconst (q := 8) (v := nI 0) dX7_isNode_7 rfl (by decide) ?_
  (first | refine pn_lald1 (q := 9) dX7_isNode_8 rfl rfl rfl (by omega) (by first | decide | omega) ?_ | refine pn_lald5 (q := 9) dX7_isNode_8 rfl rfl rfl (by omega) (by first | decide | omega) ?_); refine pn_eq (h' := _) (st' := .long (lN Y.1) :: _) rfl rfl ?_
  refine pn_lconst (q := 10) (v := lN 1) dX7_isNode_9 rfl (by decide) ?_
  first | with_reducible refine pn_lsubN (q := 11) dX7_isNode_10 rfl (by omega) ?_ | refine pn_lsub (q := 11) dX7_isNode_10 rfl ?_
  refine pn_roS1 (q := 14) (C0) lkX7_92 dX7_isNode_11 rfl rfl (pnSel_of (I := []) rfl rfl) (pnFree_none rfl) rfl (by omega) (Nat.le_of_ble_eq_true rfl) rfl ?_
  refine pn_tret (b := hasN Y.1 x) _ ?_ dX7_isNode_14 rfl ?_
  · rfl
  · exact ⟨rfl, rfl⟩
theorem inL_lsub0 (x : Int32) : inL x.toInt64 (lN 0) (lN 0 - lN 1) = hasN 0 x := by
  unfold inL hasN
  have e0 : (lN 0).toInt = 0 := by decide
  have e1 : (lN 0 - lN 1).toInt = -1 := by decide
  apply decide_eq_decide.mpr
  rw [Int64.le_iff_toInt_le, Int64.le_iff_toInt_le, Int32.toInt_toInt64, e0, e1]
  omega
set_option maxRecDepth 100000 in
theorem m_isBase (adK : Nat → Nat) (d : Nat) (Y : MN) (P : Nat → MN) (a : G0) (b : G1) (c : G3) (e : G4) (f : G5) (g : G6) (h : G7) (x : Int32) (hbc : Y.2.2.2.2.2.1 ≤ 4) : pnCt mX7_isBase adK (d + 1) 0 0 [.ref 0, .int x] (hM Y P a b c e f g h) (pnIs (.inl (some (.int (nB (hasN Y.2.2.2.2.2.1 x))))) (hM Y P a b c e f g h)) := by
  refine pnCt_of (by decide) kX7_isBase (Nat.le_of_ble_eq_true rfl) rfl hM_cl (pnCS_b rfl) ?_
  by_cases h0 : Y.2.2.2.2.2.1 = 0
  · have C0 := m_in adK d x.toInt64 (lN 0) (lN 0 - lN 1)
    rw [inL_lsub0] at C0
    rw [h0]
    refine pn_iload_n (q := 1) dX7_isBase_0 rfl rfl ?_
    refine pn_i2l (q := 2) dX7_isBase_1 rfl ?_
    refine pn_lconst (q := 3) (v := lN 0) dX7_isBase_2 rfl (by decide) ?_
    refine pn_aload_n (q := 4) dX7_isBase_3 rfl rfl rfl ?_
    refine pn_get (q := 7) fX7_20 dX7_isBase_4 rfl rfl rfl ?_
    refine pn_iconst (q := 8) (v := nI 4) dX7_isBase_7 rfl (by decide) ?_
    (first | refine pn_lald1 (q := 9) dX7_isBase_8 rfl rfl rfl (by omega) (by first | decide | omega) ?_ | refine pn_lald5 (q := 9) dX7_isBase_8 rfl rfl rfl (by omega) (by first | decide | omega) ?_); refine pn_eq (h' := _) (st' := .long (lN Y.2.2.2.2.2.1) :: _) rfl rfl ?_
    refine pn_lconst (q := 10) (v := lN 1) dX7_isBase_9 rfl (by decide) ?_
    rw [h0]; refine pn_lsub (q := 11) dX7_isBase_10 rfl ?_
    refine pn_roS1 (q := 14) (C0) lkX7_92 dX7_isBase_11 rfl rfl (pnSel_of (I := []) rfl rfl) (pnFree_none rfl) rfl (by omega) (Nat.le_of_ble_eq_true rfl) rfl ?_
    refine pn_tret (b := hasN 0 x) _ ?_ dX7_isBase_14 rfl ?_
    · rfl
    · exact ⟨rfl, rfl⟩
  · have C0 := m_in adK d x.toInt64 (lN 0) (lN (Y.2.2.2.2.2.1 - 1))
    rw [inL_lsub (by omega) (by omega)] at C0
    refine pn_iload_n (q := 1) dX7_isBase_0 rfl rfl ?_
    refine pn_i2l (q := 2) dX7_isBase_1 rfl ?_
    refine pn_lconst (q := 3) (v := lN 0) dX7_isBase_2 rfl (by decide) ?_
    refine pn_aload_n (q := 4) dX7_isBase_3 rfl rfl rfl ?_
    refine pn_get (q := 7) fX7_20 dX7_isBase_4 rfl rfl rfl ?_
    refine pn_iconst (q := 8) (v := nI 4) dX7_isBase_7 rfl (by decide) ?_
    (first | refine pn_lald1 (q := 9) dX7_isBase_8 rfl rfl rfl (by omega) (by first | decide | omega) ?_ | refine pn_lald5 (q := 9) dX7_isBase_8 rfl rfl rfl (by omega) (by first | decide | omega) ?_); refine pn_eq (h' := _) (st' := .long (lN Y.2.2.2.2.2.1) :: _) rfl rfl ?_
    refine pn_lconst (q := 10) (v := lN 1) dX7_isBase_9 rfl (by decide) ?_
    first | with_reducible refine pn_lsubN (q := 11) dX7_isBase_10 rfl (by omega) ?_ | refine pn_lsub (q := 11) dX7_isBase_10 rfl ?_
    refine pn_roS1 (q := 14) (C0) lkX7_92 dX7_isBase_11 rfl rfl (pnSel_of (I := []) rfl rfl) (pnFree_none rfl) rfl (by omega) (Nat.le_of_ble_eq_true rfl) rfl ?_
    refine pn_tret (b := hasN Y.2.2.2.2.2.1 x) _ ?_ dX7_isBase_14 rfl ?_
    · rfl
    · exact ⟨rfl, rfl⟩
