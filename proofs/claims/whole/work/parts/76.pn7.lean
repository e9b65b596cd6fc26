/-! ===== the methods that ask the catalog ===== -/
abbrev S3 : Type := (Nat → Int64) × (Nat → Nat) × (Nat → Nat)
def lnC (N : NS) : Nat := (paL N.1 N.2.2.1 N.2.2.2.1 N.2.1).length
def rC (C : CS) (N : NS) : Nat := rT C.2.1 (lnC N)
def mcC (C : CS) (N : NS) : Nat := cC C.2.1 - cC (rC C N)
def msC (C : CS) (N : NS) : Nat := cS C.2.1 - cS (rC C N)
abbrev ctF (C : CS) (N : NS) (s : S3) : CS := (lnC N, rC C N, s.1, s.2.1, C.2.2.2.2.1, N.1, N.2.2.1, N.2.2.2.1, N.2.1, plN N.2.2.1 N.2.2.2.1, s.2.2)
def csOk (C : CS) : Prop := catOk C.1 C.2.1 C.2.2.1 C.2.2.2.1 C.2.2.2.2.2.1 C.2.2.2.2.2.2.1 C.2.2.2.2.2.2.2.1 C.2.2.2.2.2.2.2.2.1 C.2.2.2.2.2.2.2.2.2.1 C.2.2.2.2.2.2.2.2.2.2
theorem pnFreeQ_5 {h : List pnE} {L : List (Option Value)} {st : List Value} {I : List Nat} : ∀ (hc : List pnE) (is : List Nat), pnFreeQ h L st I hc is = (pn5s hc is).all (fun i => pnOutQ I i h 0 && (pnNoL i L && st.all (pnNoV i)))
  | [], is => by cases is <;> rfl
  | c :: cs, [] => rfl
  | c :: cs, i :: is => by
    have ih := pnFreeQ_5 (h := h) (L := L) (st := st) (I := I) cs is
    unfold pnFreeQ pn5s
    rw [List.all_append, ← ih]
    cases pnIs5 c <;> simp
set_option maxRecDepth 100000 in
theorem hP_oF {b : Nat → Int32} {tp : Nat} {fp : Int32} {N : NS} {A : AS} {Q : QS} {C : CS} {W : WS} {Z : SS} {ask : Nat → Int32} {rf : Nat → Nat} (hq : Q.1 = 8 ∨ Q.1 = 9) : pnOutQ [49, 50, 51, 52, 2, 3, 4, 5] 50 (hP b tp fp N A Q C W Z ask rf) 0 = true := by
  obtain ⟨q, Q'⟩ := Q
  have hq : q = 8 ∨ q = 9 := hq
  rcases hq with e | e <;> subst e <;> rfl
set_option maxRecDepth 100000 in
theorem hP_oC {b : Nat → Int32} {tp : Nat} {fp : Int32} {N : NS} {A : AS} {Q : QS} {C : CS} {W : WS} {Z : SS} {ask : Nat → Int32} {rf : Nat → Nat} (hq : Q.1 = 8 ∨ Q.1 = 9) : pnOutQ [49, 50, 51, 52] 50 (hP b tp fp N A Q C W Z ask rf) 0 = true := by
  obtain ⟨q, Q'⟩ := Q
  have hq : q = 8 ∨ q = 9 := hq
  rcases hq with e | e <;> subst e <;> rfl
set_option maxRecDepth 100000 in
theorem hP_oW {b : Nat → Int32} {tp : Nat} {fp : Int32} {N : NS} {A : AS} {Q : QS} {C : CS} {W : WS} {Z : SS} {ask : Nat → Int32} {rf : Nat → Nat} (hq : Q.1 = 8 ∨ Q.1 = 9) : pnOutQ [53, 54, 55, 49, 50, 51, 52] 50 (hP b tp fp N A Q C W Z ask rf) 0 = true := by
  obtain ⟨q, Q'⟩ := Q
  have hq : q = 8 ∨ q = 9 := hq
  rcases hq with e | e <;> subst e <;> rfl
theorem hP_free {b : Nat → Int32} {tp : Nat} {fp : Int32} {N : NS} {A : AS} {Q : QS} {C : CS} {W : WS} {Z : SS} {ask : Nat → Int32} {rf : Nat → Nat} {L : List (Option Value)} {st : List Value} {I : List Nat} {hc : List pnE} (hl : I.length = hc.length) (h5 : pn5s hc I = [50]) (ho : pnOutQ I 50 (hP b tp fp N A Q C W Z ask rf) 0 = true) (e : (pnNoL 50 L && st.all (pnNoV 50)) = true) : pnFree (hP b tp fp N A Q C W Z ask rf) L st I hc :=
  pnFree_q hl (by rw [pnFreeQ_5, h5]; show ((pnOutQ I 50 (hP b tp fp N A Q C W Z ask rf) 0 && (pnNoL 50 L && st.all (pnNoV 50))) && true) = true; rw [ho, e]; rfl) (fun g hg j x e9 => by
    rw [h5]
    have hg : g ∈ [fun j => (slF j).map (fun k => IA.getD k 0)] := hg
    rw [List.mem_singleton] at hg
    subst hg
    have e9 : (slF j).map (fun k => IA.getD k 0) = some x := e9
    cases hs : slF j with
    | none => rw [hs] at e9; cases e9
    | some y =>
      rw [hs] at e9
      have e9 : IA.getD y 0 = x := Option.some.inj e9
      have hy := slF_lt hs
      rw [← e9, List.mem_singleton]
      exact (show ∀ y, y < 34 → ¬ IA.getD y 0 = 50 by decide) y hy)
def hC0 (C : CS) : List pnE := hCat C.1 C.2.1 C.2.2.1 (fun j => nI (C.2.2.2.1 j)) C.2.2.2.2.1 C.2.2.2.2.2.1 C.2.2.2.2.2.2.1 C.2.2.2.2.2.2.2.1 C.2.2.2.2.2.2.2.2.1 C.2.2.2.2.2.2.2.2.2.1 (fun j => nI (C.2.2.2.2.2.2.2.2.2.2 j))
theorem p_fit (adK : Nat → Nat) (d : Nat) (C : CS) (N : NS) (hS : shOk N.2.2.1 N.2.2.2.1) (hn : N.1 ≤ 11) (hn1 : 1 ≤ N.1) (hC : csOk C) (hlen : lnC N ≤ 27720) : pnCt mX1_fit adK (d + 9) (mcC C N) (msC C N) [.ref 0, .ref 4] (hC0 C ++ hNS 4 N) (pnExP (fun s : S3 => csOk (ctF C N s)) (fun _ => none) (fun s => hC0 (ctF C N s) ++ hNS 4 N)) :=
  c_fit adK d C.1 C.2.1 C.2.2.1 C.2.2.2.1 C.2.2.2.2.1 C.2.2.2.2.2.1 C.2.2.2.2.2.2.1 C.2.2.2.2.2.2.2.1 C.2.2.2.2.2.2.2.2.1 C.2.2.2.2.2.2.2.2.2.1 C.2.2.2.2.2.2.2.2.2.2 N.1 N.2.2.1 N.2.2.2.1 N.2.1 N.2.2.2.2.1 N.2.2.2.2.2.1 N.2.2.2.2.2.2.1 N.2.2.2.2.2.2.2.1 N.2.2.2.2.2.2.2.2 hS hn hn1 hC hlen
/-! parts, partAt -/
set_option maxRecDepth 100000 in
theorem p_parts0 (adK : Nat → Nat) (d : Nat) (b : Nat → Int32) (tp : Nat) (fp : Int32) (N : NS) (A : AS) (Q : QS) (C : CS) (W : WS) (Z : SS) (ask : Nat → Int32) (rf : Nat → Nat) (hq : Q.1 = 8 ∨ Q.1 = 9) (hS : shOk N.2.2.1 N.2.2.2.1) (hn : N.1 ≤ 11) (hn1 : 1 ≤ N.1) (hpc : N.2.2.2.2.1 ≤ 55) (hC : csOk C) (hlen : lnC N ≤ 27720) : pnCt mX6_parts adK (d + 10) (mcC C N) (msC C N) [.ref 0, .int (nI 0)] (hP b tp fp N A Q C W Z ask rf) (pnExP (fun s : S3 => csOk (ctF C N s)) (fun _ => some (.int (nI (lnC N)))) (fun s => (hP b tp fp N A Q (ctF C N s) W Z ask rf))) := by
  refine pnCt_of (by decide) kX6_parts (Nat.le_of_ble_eq_true rfl) rfl (hP_cl hq) (pnCS_b rfl) ?_
  have CF := p_fit adK d C N hS hn hn1 hC hlen
  refine pn_aload_n (q := 1) dX6_parts_0 rfl rfl rfl ?_
  refine pn_iload_n (q := 2) dX6_parts_1 rfl rfl ?_
  refine pn_iconst (q := 3) (v := nI 1) dX6_parts_2 rfl (by decide) ?_
  refine pn_idV (q := 6) (bc9 := mcC C N) (bs9 := msC C N) (p_requireWhat adK d b tp fp N A Q C W Z ask rf hq 0 1 (by omega) (by omega)) lkX6_203 dX6_parts_3 rfl rfl (hP_cl hq) (hP_cl hq) (Nat.le_of_ble_eq_true rfl) rfl rfl rfl rfl rfl rfl (by omega) (by omega) (by omega) (Nat.le_of_ble_eq_true rfl) ?_
  refine pn_aload_n (q := 7) dX6_parts_6 rfl rfl rfl ?_
  refine pn_get (q := 10) fX6_44 dX6_parts_7 rfl rfl rfl ?_
  refine pn_aload_n (q := 11) dX6_parts_10 rfl rfl rfl ?_
  refine pn_get (q := 14) fX6_23 dX6_parts_11 rfl rfl rfl ?_
  refine pn_ePV0 (q := 17) (bc9 := 0) (bs9 := 0) (CF) lkX6_148 dX6_parts_14 rfl rfl (pnSel_of (I := [49, 50, 51, 52, 2, 3, 4, 5]) rfl rfl) (hP_free rfl rfl (hP_oF hq) rfl) rfl rfl rfl (by omega) (by omega) (by omega) (Nat.le_of_ble_eq_true rfl) (fun s hs => ?_)
  refine pn_eq (h' := (hP b tp fp N A Q (ctF C N s) W Z ask rf)) (st' := _) rfl rfl ?_
  refine pn_iload_n (q := 18) dX6_parts_17 rfl rfl ?_
  first | refine pn_zne (q := 21) (tgt := 31) dX6_parts_18 (by decide) rfl (by omega) (fun hc18 => ?_) (fun hc18 => ?_) | refine pn_if_ne (q := 21) (tgt := 31) dX6_parts_18 (by decide) rfl (fun hc18 => ?_) (fun hc18 => ?_)
  · omega
  · refine pn_aload_n (q := 22) dX6_parts_21 rfl rfl rfl ?_
    refine pn_get (q := 25) fX6_44 dX6_parts_22 rfl rfl rfl ?_
    refine pn_get (q := 28) fX6_244 dX6_parts_25 rfl rfl rfl ?_
    refine pn_goto (q := 45) dX6_parts_28 (by decide) ?_
    refine pn_iret dX6_parts_45 rfl ?_
    exact ⟨s, hs, rfl, rfl⟩
set_option maxRecDepth 100000 in
theorem p_parts1 (adK : Nat → Nat) (d : Nat) (b : Nat → Int32) (tp : Nat) (fp : Int32) (N : NS) (A : AS) (Q : QS) (C : CS) (W : WS) (Z : SS) (ask : Nat → Int32) (rf : Nat → Nat) (hq : Q.1 = 8 ∨ Q.1 = 9) (hS : shOk N.2.2.1 N.2.2.2.1) (hn : N.1 ≤ 11) (hn1 : 1 ≤ N.1) (hpc : N.2.2.2.2.1 ≤ 55) (hC : csOk C) (hlen : lnC N ≤ 27720) : pnCt mX6_parts adK (d + 10) (mcC C N) (msC C N) [.ref 0, .int (nI 1)] (hP b tp fp N A Q C W Z ask rf) (pnExP (fun s : S3 => csOk (ctF C N s)) (fun s => some (.int (nI (cwN s.1 (lfN N.2.2.2.2.2.2.1 N.2.1 N.2.2.2.2.1) (lnC N))))) (fun s => (hP b tp fp N A Q (ctF C N s) W Z ask rf))) := by
  refine pnCt_of (by decide) kX6_parts (Nat.le_of_ble_eq_true rfl) rfl (hP_cl hq) (pnCS_b rfl) ?_
  have CF := p_fit adK d C N hS hn hn1 hC hlen
  refine pn_aload_n (q := 1) dX6_parts_0 rfl rfl rfl ?_
  refine pn_iload_n (q := 2) dX6_parts_1 rfl rfl ?_
  refine pn_iconst (q := 3) (v := nI 1) dX6_parts_2 rfl (by decide) ?_
  refine pn_idV (q := 6) (bc9 := mcC C N) (bs9 := msC C N) (p_requireWhat adK d b tp fp N A Q C W Z ask rf hq 1 1 (by omega) (by omega)) lkX6_203 dX6_parts_3 rfl rfl (hP_cl hq) (hP_cl hq) (Nat.le_of_ble_eq_true rfl) rfl rfl rfl rfl rfl rfl (by omega) (by omega) (by omega) (Nat.le_of_ble_eq_true rfl) ?_
  refine pn_aload_n (q := 7) dX6_parts_6 rfl rfl rfl ?_
  refine pn_get (q := 10) fX6_44 dX6_parts_7 rfl rfl rfl ?_
  refine pn_aload_n (q := 11) dX6_parts_10 rfl rfl rfl ?_
  refine pn_get (q := 14) fX6_23 dX6_parts_11 rfl rfl rfl ?_
  refine pn_ePV0 (q := 17) (bc9 := 0) (bs9 := 0) (CF) lkX6_148 dX6_parts_14 rfl rfl (pnSel_of (I := [49, 50, 51, 52, 2, 3, 4, 5]) rfl rfl) (hP_free rfl rfl (hP_oF hq) rfl) rfl rfl rfl (by omega) (by omega) (by omega) (Nat.le_of_ble_eq_true rfl) (fun s hs => ?_)
  refine pn_eq (h' := (hP b tp fp N A Q (ctF C N s) W Z ask rf)) (st' := _) rfl rfl ?_
  refine pn_iload_n (q := 18) dX6_parts_17 rfl rfl ?_
  first | refine pn_zne (q := 21) (tgt := 31) dX6_parts_18 (by decide) rfl (by omega) (fun hc18 => ?_) (fun hc18 => ?_) | refine pn_if_ne (q := 21) (tgt := 31) dX6_parts_18 (by decide) rfl (fun hc18 => ?_) (fun hc18 => ?_)
  · refine pn_aload_n (q := 32) dX6_parts_31 rfl rfl rfl ?_
    refine pn_get (q := 35) fX6_44 dX6_parts_32 rfl rfl rfl ?_
    refine pn_aload_n (q := 36) dX6_parts_35 rfl rfl rfl ?_
    refine pn_get (q := 39) fX6_23 dX6_parts_36 rfl rfl rfl ?_
    refine pn_roV1 (q := 42) (c_leftLines adK d N.1 N.2.1 N.2.2.1 N.2.2.2.1 N.2.2.2.2.1 N.2.2.2.2.2.1 N.2.2.2.2.2.2.1 N.2.2.2.2.2.2.2.1 N.2.2.2.2.2.2.2.2 hpc) lkX6_104 dX6_parts_39 rfl rfl (pnSel_of (I := [2, 3, 4, 5]) rfl rfl) (pnFree_none rfl) rfl rfl rfl (by omega) (Nat.le_of_ble_eq_true rfl) rfl ?_
    refine pn_roV1 (q := 45) (c_countWithin adK d (lnC N) (rC C N) s.1 (fun j => nI (s.2.1 j)) C.2.2.2.2.1 N.1 N.2.2.1 N.2.2.2.1 N.2.1 (plN N.2.2.1 N.2.2.2.1) (fun j => nI (s.2.2 j)) (lfN N.2.2.2.2.2.2.1 N.2.1 N.2.2.2.2.1) hs.2.1 (by have := rOk_le hs.1; exact Nat.le_trans this (by decide))) lkX6_245 dX6_parts_42 rfl rfl (pnSel_of (I := [49, 50, 51, 52]) rfl rfl) (hP_free rfl rfl (hP_oC hq) rfl) rfl rfl rfl (by omega) (Nat.le_of_ble_eq_true rfl) rfl ?_
    refine pn_iret dX6_parts_45 rfl ?_
    exact ⟨s, hs, rfl, rfl⟩
  · omega
set_option maxRecDepth 100000 in
theorem p_partsX (adK : Nat → Nat) (d : Nat) (b : Nat → Int32) (tp : Nat) (fp : Int32) (N : NS) (A : AS) (Q : QS) (C : CS) (W : WS) (Z : SS) (ask : Nat → Int32) (rf : Nat → Nat) (hq : Q.1 = 8 ∨ Q.1 = 9) (w : Int32) (hw : hasN 2 w = false) : pnCt mX6_parts adK (d + 7) 1 6 [.ref 0, .int w] (hP b tp fp N A Q C W Z ask rf) (pnIs (.inr "java/lang/IllegalArgumentException") (hP b tp fp N A Q C W Z ask (updN rf 1 (rf 1 + 1)))) := by
  refine pnCt_of (by decide) kX6_parts (Nat.le_of_ble_eq_true rfl) rfl (hP_cl hq) (pnCS_b rfl) ?_
  refine pn_aload_n (q := 1) dX6_parts_0 rfl rfl rfl ?_
  refine pn_iload_n (q := 2) dX6_parts_1 rfl rfl ?_
  refine pn_iconst (q := 3) (v := nI 1) dX6_parts_2 rfl (by decide) ?_
  refine pn_idVX (q := 6) (p_requireWhatX adK d b tp fp N A Q C W Z ask rf hq w 1 hw (by omega)) lkX6_203 dX6_parts_3 rfl rfl (hP_cl hq) (hP_cl hq) (Nat.le_of_ble_eq_true rfl) rfl rfl rfl rfl rfl (by omega) (by omega) (by omega) (Nat.le_of_ble_eq_true rfl) rfl (⟨rfl, rfl⟩)
def ptA (f : Nat → Int64) (x : Int64) (q : Int32) (c : Nat) : Int64 := if q < 0 then 0 else wiN f x q 0 0 c
def pnExQ {S : Type} (P : S → Prop) (r0 : S → pnR) (hf : S → List pnE) : pnR → List pnE → Prop := fun r h' => ∃ x : S, P x ∧ r = r0 x ∧ h' = hf x
def ptR (f : Nat → Int64) (x : Int64) (q : Int32) (c : Nat) : pnR := if ptA f x q c = 0 then .inr "java/util/NoSuchElementException" else .inl (some (.long (ptA f x q c)))
set_option maxRecDepth 100000 in
theorem p_partAt (adK : Nat → Nat) (d : Nat) (b : Nat → Int32) (tp : Nat) (fp : Int32) (N : NS) (A : AS) (Q : QS) (C : CS) (W : WS) (Z : SS) (ask : Nat → Int32) (rf : Nat → Nat) (hq : Q.1 = 8 ∨ Q.1 = 9) (hS : shOk N.2.2.1 N.2.2.2.1) (hn : N.1 ≤ 11) (hn1 : 1 ≤ N.1) (hpc : N.2.2.2.2.1 ≤ 55) (hC : csOk C) (hlen : lnC N ≤ 27720) (w : Int32) : pnCt mX6_partAt adK (d + 10) (mcC C N + 1) (msC C N + 6) [.ref 0, .int w] (hP b tp fp N A Q C W Z ask rf) (pnExQ (fun s : S3 => csOk (ctF C N s)) (fun s => ptR s.1 (lfN N.2.2.2.2.2.2.1 N.2.1 N.2.2.2.2.1) w (lnC N)) (fun s => hP b tp fp N A Q (ctF C N s) W Z ask (if ptA s.1 (lfN N.2.2.2.2.2.2.1 N.2.1 N.2.2.2.2.1) w (lnC N) = 0 then updN rf 0 (rf 0 + 1) else rf))) := by
  refine pnCt_of (by decide) kX6_partAt (Nat.le_of_ble_eq_true rfl) rfl (hP_cl hq) (pnCS_b rfl) ?_
  have CF := p_fit adK d C N hS hn hn1 hC hlen
  have key : ∀ (s : S3) (y : Int64), csOk (ctF C N s) → y = ptA s.1 (lfN N.2.2.2.2.2.2.1 N.2.1 N.2.2.2.2.1) w (lnC N) → pnWP mX6_partAt adK (d + 10) (pnExQ (fun s : S3 => csOk (ctF C N s)) (fun s => ptR s.1 (lfN N.2.2.2.2.2.2.1 N.2.1 N.2.2.2.2.1) w (lnC N)) (fun s => hP b tp fp N A Q (ctF C N s) W Z ask (if ptA s.1 (lfN N.2.2.2.2.2.2.1 N.2.1 N.2.2.2.2.1) w (lnC N) = 0 then updN rf 0 (rf 0 + 1) else rf))) 1 6 (hP b tp fp N A Q (ctF C N s) W Z ask rf) [some (.ref 0), some (.int w), some (.long y)] [] 35 := by
    intro s y hs ey
    subst ey
    by_cases e0 : ptA s.1 (lfN N.2.2.2.2.2.2.1 N.2.1 N.2.2.2.2.1) w (lnC N) = 0
    · refine pn_lload_n (q := 36) dX6_partAt_35 rfl rfl ?_
      refine pn_lconst (q := 37) (v := 0) dX6_partAt_36 rfl (by decide) ?_
      refine pn_lne (q1 := 38) (q := 41) (tgt := 61) dX6_partAt_37 rfl dX6_partAt_38 (by decide) rfl (fun hc37 => ?_) (fun hc37 => ?_)
      · exact (hc37 e0).elim
      · refine pn_aload_n (q := 42) dX6_partAt_41 rfl rfl rfl ?_
        refine pn_get (q := 45) fX6_66 dX6_partAt_42 rfl rfl rfl ?_
        refine pn_iconst (q := 46) (v := nI 0) dX6_partAt_45 rfl (by decide) ?_
        first | refine pn_dup2 (q := 47) dX6_partAt_46 rfl rfl rfl ?_ | refine pn_dup2l (q := 47) dX6_partAt_46 rfl ?_
        refine pn_iald (q := 48) dX6_partAt_47 rfl rfl rfl (by omega) (by first | decide | omega) ?_
        refine pn_iconst (q := 49) (v := nI 1) dX6_partAt_48 rfl (by decide) ?_
        first | with_reducible refine pn_iaddN (q := 50) dX6_partAt_49 rfl ?_ | refine pn_iadd (q := 50) dX6_partAt_49 rfl ?_
        refine pn_iast (q := 51) dX6_partAt_50 rfl rfl rfl (by omega) (by first | decide | omega) ?_; rw [updN_nI]
        refine pn_bud (bc' := 0 + 1) (bs' := 0 + 6) ?_ (by omega) (by omega)
        exact pn_thrNS (j := 14) rfl xf_nse pw_841 pw_98 (pnOkW_of xw_nse) xg_nse dX6_partAt_51 dX6_partAt_54 dX6_partAt_55 dX6_partAt_57 dX6_partAt_60 rfl (by omega) (Nat.le_of_ble_eq_true rfl) (⟨s, hs, (if_pos e0).symm, by show _ = hP b tp fp N A Q (ctF C N s) W Z ask (if ptA s.1 (lfN N.2.2.2.2.2.2.1 N.2.1 N.2.2.2.2.1) w (lnC N) = 0 then updN rf 0 (rf 0 + 1) else rf); rw [if_pos e0]; rfl⟩)
    · refine pn_lload_n (q := 36) dX6_partAt_35 rfl rfl ?_
      refine pn_lconst (q := 37) (v := 0) dX6_partAt_36 rfl (by decide) ?_
      refine pn_lne (q1 := 38) (q := 41) (tgt := 61) dX6_partAt_37 rfl dX6_partAt_38 (by decide) rfl (fun hc37 => ?_) (fun hc37 => ?_)
      · refine pn_lload_n (q := 62) dX6_partAt_61 rfl rfl ?_
        refine pn_lret dX6_partAt_62 rfl ?_
        exact ⟨s, hs, (if_neg e0).symm, by show _ = hP b tp fp N A Q (ctF C N s) W Z ask (if ptA s.1 (lfN N.2.2.2.2.2.2.1 N.2.1 N.2.2.2.2.1) w (lnC N) = 0 then updN rf 0 (rf 0 + 1) else rf); rw [if_neg e0]⟩
      · exact (e0 hc37).elim
  by_cases h0 : w < 0
  · refine pn_aload_n (q := 1) dX6_partAt_0 rfl rfl rfl ?_
    refine pn_get (q := 4) fX6_44 dX6_partAt_1 rfl rfl rfl ?_
    refine pn_aload_n (q := 5) dX6_partAt_4 rfl rfl rfl ?_
    refine pn_get (q := 8) fX6_23 dX6_partAt_5 rfl rfl rfl ?_
    refine pn_ePV0 (q := 11) (bc9 := 1) (bs9 := 6) (CF) lkX6_148 dX6_partAt_8 rfl rfl (pnSel_of (I := [49, 50, 51, 52, 2, 3, 4, 5]) rfl rfl) (hP_free rfl rfl (hP_oF hq) rfl) rfl rfl rfl (by omega) (by omega) (by omega) (Nat.le_of_ble_eq_true rfl) (fun s hs => ?_)
    refine pn_eq (h' := (hP b tp fp N A Q (ctF C N s) W Z ask rf)) (st' := _) rfl rfl ?_
    refine pn_iload_n (q := 12) dX6_partAt_11 rfl rfl ?_
    refine pn_if_ge (q := 15) (tgt := 19) dX6_partAt_12 (by decide) rfl (fun hc12 => ?_) (fun hc12 => ?_)
    · exact (Int32.not_lt.mpr hc12 h0).elim
    · refine pn_lconst (q := 16) (v := 0) dX6_partAt_15 rfl (by decide) ?_
      refine pn_goto (q := 34) dX6_partAt_16 (by decide) ?_
      refine pn_lstore_n (q := 35) dX6_partAt_34 rfl (by decide) ?_
      exact key s 0 hs (if_pos h0).symm
  · refine pn_aload_n (q := 1) dX6_partAt_0 rfl rfl rfl ?_
    refine pn_get (q := 4) fX6_44 dX6_partAt_1 rfl rfl rfl ?_
    refine pn_aload_n (q := 5) dX6_partAt_4 rfl rfl rfl ?_
    refine pn_get (q := 8) fX6_23 dX6_partAt_5 rfl rfl rfl ?_
    refine pn_ePV0 (q := 11) (bc9 := 1) (bs9 := 6) (CF) lkX6_148 dX6_partAt_8 rfl rfl (pnSel_of (I := [49, 50, 51, 52, 2, 3, 4, 5]) rfl rfl) (hP_free rfl rfl (hP_oF hq) rfl) rfl rfl rfl (by omega) (by omega) (by omega) (Nat.le_of_ble_eq_true rfl) (fun s hs => ?_)
    refine pn_eq (h' := (hP b tp fp N A Q (ctF C N s) W Z ask rf)) (st' := _) rfl rfl ?_
    refine pn_iload_n (q := 12) dX6_partAt_11 rfl rfl ?_
    refine pn_if_ge (q := 15) (tgt := 19) dX6_partAt_12 (by decide) rfl (fun hc12 => ?_) (fun hc12 => ?_)
    · refine pn_aload_n (q := 20) dX6_partAt_19 rfl rfl rfl ?_
      refine pn_get (q := 23) fX6_44 dX6_partAt_20 rfl rfl rfl ?_
      refine pn_aload_n (q := 24) dX6_partAt_23 rfl rfl rfl ?_
      refine pn_get (q := 27) fX6_23 dX6_partAt_24 rfl rfl rfl ?_
      refine pn_roV1 (q := 30) (c_leftLines adK d N.1 N.2.1 N.2.2.1 N.2.2.2.1 N.2.2.2.2.1 N.2.2.2.2.2.1 N.2.2.2.2.2.2.1 N.2.2.2.2.2.2.2.1 N.2.2.2.2.2.2.2.2 hpc) lkX6_104 dX6_partAt_27 rfl rfl (pnSel_of (I := [2, 3, 4, 5]) rfl rfl) (pnFree_none rfl) rfl rfl rfl (by omega) (Nat.le_of_ble_eq_true rfl) rfl ?_
      refine pn_iload_n (q := 31) dX6_partAt_30 rfl rfl ?_
      refine pn_roV1 (q := 34) (c_within adK d (lnC N) (rC C N) s.1 (fun j => nI (s.2.1 j)) C.2.2.2.2.1 N.1 N.2.2.1 N.2.2.2.1 N.2.1 (plN N.2.2.1 N.2.2.2.1) (fun j => nI (s.2.2 j)) (lfN N.2.2.2.2.2.2.1 N.2.1 N.2.2.2.2.1) w hs.2.1 (by have := rOk_le hs.1; exact Nat.le_trans this (by decide))) lkX6_248 dX6_partAt_31 rfl rfl (pnSel_of (I := [49, 50, 51, 52]) rfl rfl) (hP_free rfl rfl (hP_oC hq) rfl) rfl rfl rfl (by omega) (Nat.le_of_ble_eq_true rfl) rfl ?_
      refine pn_lstore_n (q := 35) dX6_partAt_34 rfl (by decide) ?_
      exact key s _ hs (if_neg h0).symm
    · exact (hc12 (Int32.not_lt.mp h0)).elim
/-! search -/
abbrev gwR (C : CS) (W : WS) (once : Bool) (x : Int64) := goR C.2.2.1 C.2.1 C.2.2.2.1 C.1 once x W.2.2.2.2.1 W.2.2.2.2.2.1
def goW (C : CS) (W : WS) (once : Bool) (x : Int64) : WS := if W.2.2.2.2.2.2.1 = true ∧ x = W.2.2.2.2.2.2.2.1 ∧ C.2.2.2.2.2.1 = W.2.2.2.2.2.2.2.2.1 ∧ C.2.2.2.2.2.2.1 = W.2.2.2.2.2.2.2.2.2.1 ∧ C.2.2.2.2.2.2.2.1 = W.2.2.2.2.2.2.2.2.2.2 then W else ((gwR C W once x).1, (gwR C W once x).2.1, (gwR C W once x).2.2.1, (gwR C W once x).2.2.2.1, (gwR C W once x).2.2.2.2.1, (gwR C W once x).2.2.2.2.2, !once, x, C.2.2.2.2.2.1, C.2.2.2.2.2.2.1, C.2.2.2.2.2.2.2.1)
def hW3 (W : WS) : List pnE := hWalk W.1 W.2.1 W.2.2.1 W.2.2.2.1 W.2.2.2.2.1 W.2.2.2.2.2.1 W.2.2.2.2.2.2.1 W.2.2.2.2.2.2.2.1 W.2.2.2.2.2.2.2.2.1 W.2.2.2.2.2.2.2.2.2.1 W.2.2.2.2.2.2.2.2.2.2
def hC3 (C : CS) : List pnE := hCatO 3 C.1 C.2.1 C.2.2.1 (fun j => nI (C.2.2.2.1 j)) C.2.2.2.2.1 C.2.2.2.2.2.1 C.2.2.2.2.2.2.1 C.2.2.2.2.2.2.2.1 C.2.2.2.2.2.2.2.2.1 C.2.2.2.2.2.2.2.2.2.1 (fun j => nI (C.2.2.2.2.2.2.2.2.2.2 j))
def wsOk (W : WS) : Prop := (∀ j, W.2.2.2.2.2.1 j ≤ 60000) ∧ W.2.2.2.2.2.2.2.2.1 ≤ 11 ∧ W.2.2.2.2.2.2.2.2.2.1 ≤ 3 ∧ W.2.2.2.2.2.2.2.2.2.2 ≤ 5
theorem c_go (adK : Nat → Nat) (d : Nat) (C : CS) (W : WS) (once : Bool) (x : Int64) (hC : csOk C) (hW : wsOk W) (hb : C.2.2.2.2.2.1 ≤ 11 ∧ C.2.2.2.2.2.2.1 ≤ 3 ∧ C.2.2.2.2.2.2.2.1 ≤ 5) : pnCt mX5_go adK (d + 4) 0 0 [.ref 0, .ref 3, .long x, .int (nB once)] (hW3 W ++ hC3 C) (pnIs (.inl none) (hW3 (goW C W once x) ++ hC3 C)) := by
  by_cases h : W.2.2.2.2.2.2.1 = true ∧ x = W.2.2.2.2.2.2.2.1 ∧ C.2.2.2.2.2.1 = W.2.2.2.2.2.2.2.2.1 ∧ C.2.2.2.2.2.2.1 = W.2.2.2.2.2.2.2.2.2.1 ∧ C.2.2.2.2.2.2.2.1 = W.2.2.2.2.2.2.2.2.2.2
  · have e : goW C W once x = W := if_pos h
    rw [e]
    exact c_goSame adK (d + 4) C.1 C.2.1 C.2.2.1 C.2.2.2.1 C.2.2.2.2.1 C.2.2.2.2.2.1 C.2.2.2.2.2.2.1 C.2.2.2.2.2.2.2.1 C.2.2.2.2.2.2.2.2.1 C.2.2.2.2.2.2.2.2.2.1 (fun j => nI (C.2.2.2.2.2.2.2.2.2.2 j)) W.1 W.2.1 W.2.2.1 W.2.2.2.1 W.2.2.2.2.1 W.2.2.2.2.2.1 W.2.2.2.2.2.2.1 W.2.2.2.2.2.2.2.1 W.2.2.2.2.2.2.2.2.1 W.2.2.2.2.2.2.2.2.2.1 W.2.2.2.2.2.2.2.2.2.2 x once h
  · unfold goW
    rw [if_neg h]
    exact c_goNew adK d C.1 C.2.1 C.2.2.1 C.2.2.2.1 C.2.2.2.2.1 C.2.2.2.2.2.1 C.2.2.2.2.2.2.1 C.2.2.2.2.2.2.2.1 C.2.2.2.2.2.2.2.2.1 C.2.2.2.2.2.2.2.2.2.1 (fun j => nI (C.2.2.2.2.2.2.2.2.2.2 j)) W.1 W.2.1 W.2.2.1 W.2.2.2.1 W.2.2.2.2.1 W.2.2.2.2.2.1 W.2.2.2.2.2.2.1 W.2.2.2.2.2.2.2.1 W.2.2.2.2.2.2.2.2.1 W.2.2.2.2.2.2.2.2.2.1 W.2.2.2.2.2.2.2.2.2.2 x once hC.2.2.2.1 hC.2.1 (Nat.le_trans (rOk_le hC.1) (by decide)) hW.1 ⟨hb.1, hb.2.1, hb.2.2, hW.2.1, hW.2.2.1, hW.2.2.2⟩ h
set_option maxRecDepth 100000 in
theorem p_search0 (adK : Nat → Nat) (d : Nat) (b : Nat → Int32) (tp : Nat) (fp : Int32) (N : NS) (A : AS) (Q : QS) (C : CS) (W : WS) (Z : SS) (ask : Nat → Int32) (rf : Nat → Nat) (hq : Q.1 = 8 ∨ Q.1 = 9) (hS : shOk N.2.2.1 N.2.2.2.1) (hn : N.1 ≤ 11) (hn1 : 1 ≤ N.1) (hpc : N.2.2.2.2.1 ≤ 55) (hC : csOk C) (hlen : lnC N ≤ 27720) (hW : wsOk W) : pnCt mX6_search adK (d + 10) (mcC C N) (msC C N) [.ref 0, .int (nI 0)] (hP b tp fp N A Q C W Z ask rf) (pnExP (fun s : S3 => csOk (ctF C N s)) (fun s => some (.int (nI ((goW (ctF C N s) W false (lfN N.2.2.2.2.2.2.1 N.2.1 N.2.2.2.2.1))).1))) (fun s => (hP b tp fp N A Q (ctF C N s) (goW (ctF C N s) W false (lfN N.2.2.2.2.2.2.1 N.2.1 N.2.2.2.2.1)) Z ask rf))) := by
  refine pnCt_of (by decide) kX6_search (Nat.le_of_ble_eq_true rfl) rfl (hP_cl hq) (pnCS_b rfl) ?_
  have CF := p_fit adK d C N hS hn hn1 hC hlen
  have hb : N.1 ≤ 11 ∧ N.2.2.1 ≤ 3 ∧ N.2.2.2.1 ≤ 5 := by unfold shOk at hS; omega
  refine pn_aload_n (q := 1) dX6_search_0 rfl rfl rfl ?_
  refine pn_iload_n (q := 2) dX6_search_1 rfl rfl ?_
  refine pn_iconst (q := 3) (v := nI 2) dX6_search_2 rfl (by decide) ?_
  refine pn_idV (q := 6) (bc9 := mcC C N) (bs9 := msC C N) (p_requireWhat adK d b tp fp N A Q C W Z ask rf hq 0 2 (by omega) (by omega)) lkX6_203 dX6_search_3 rfl rfl (hP_cl hq) (hP_cl hq) (Nat.le_of_ble_eq_true rfl) rfl rfl rfl rfl rfl rfl (by omega) (by omega) (by omega) (Nat.le_of_ble_eq_true rfl) ?_
  refine pn_aload_n (q := 7) dX6_search_6 rfl rfl rfl ?_
  refine pn_get (q := 10) fX6_44 dX6_search_7 rfl rfl rfl ?_
  refine pn_aload_n (q := 11) dX6_search_10 rfl rfl rfl ?_
  refine pn_get (q := 14) fX6_23 dX6_search_11 rfl rfl rfl ?_
  refine pn_ePV0 (q := 17) (bc9 := 0) (bs9 := 0) (CF) lkX6_148 dX6_search_14 rfl rfl (pnSel_of (I := [49, 50, 51, 52, 2, 3, 4, 5]) rfl rfl) (hP_free rfl rfl (hP_oF hq) rfl) rfl rfl rfl (by omega) (by omega) (by omega) (Nat.le_of_ble_eq_true rfl) (fun s hs => ?_)
  refine pn_eq (h' := (hP b tp fp N A Q (ctF C N s) W Z ask rf)) (st' := _) rfl rfl ?_
  refine pn_aload_n (q := 18) dX6_search_17 rfl rfl rfl ?_
  refine pn_get (q := 21) fX6_51 dX6_search_18 rfl rfl rfl ?_
  refine pn_aload_n (q := 22) dX6_search_21 rfl rfl rfl ?_
  refine pn_get (q := 25) fX6_44 dX6_search_22 rfl rfl rfl ?_
  refine pn_aload_n (q := 26) dX6_search_25 rfl rfl rfl ?_
  refine pn_get (q := 29) fX6_23 dX6_search_26 rfl rfl rfl ?_
  refine pn_roV1 (q := 32) (c_leftLines adK d N.1 N.2.1 N.2.2.1 N.2.2.2.1 N.2.2.2.2.1 N.2.2.2.2.2.1 N.2.2.2.2.2.2.1 N.2.2.2.2.2.2.2.1 N.2.2.2.2.2.2.2.2 hpc) lkX6_104 dX6_search_29 rfl rfl (pnSel_of (I := [2, 3, 4, 5]) rfl rfl) (pnFree_none rfl) rfl rfl rfl (by omega) (Nat.le_of_ble_eq_true rfl) rfl ?_
  refine pn_iconst (q := 33) (v := nB false) dX6_search_32 rfl (by decide) ?_
  refine pn_upV0 (q := 36) (bc9 := 0) (bs9 := 0) (c_go adK d (ctF C N s) W false (lfN N.2.2.2.2.2.2.1 N.2.1 N.2.2.2.2.1) hs hW hb) lkX6_175 dX6_search_33 rfl rfl (pnSel_of (I := [53, 54, 55, 49, 50, 51, 52]) rfl rfl) (hP_free rfl rfl (hP_oW hq) rfl) rfl rfl rfl (by omega) (by omega) (by omega) (Nat.le_of_ble_eq_true rfl) ?_
  refine pn_eq (h' := (hP b tp fp N A Q (ctF C N s) (goW (ctF C N s) W false (lfN N.2.2.2.2.2.2.1 N.2.1 N.2.2.2.2.1)) Z ask rf)) (st' := _) rfl rfl ?_
  refine pn_iload_n (q := 37) dX6_search_36 rfl rfl ?_
  first | refine pn_zne (q := 40) (tgt := 48) dX6_search_37 (by decide) rfl (by omega) (fun hc37 => ?_) (fun hc37 => ?_) | refine pn_if_ne (q := 40) (tgt := 48) dX6_search_37 (by decide) rfl (fun hc37 => ?_) (fun hc37 => ?_)
  · omega
  · refine pn_aload_n (q := 41) dX6_search_40 rfl rfl rfl ?_
    refine pn_get (q := 44) fX6_51 dX6_search_41 rfl rfl rfl ?_
    refine pn_get (q := 47) fX6_179 dX6_search_44 rfl rfl rfl ?_
    refine pn_iret dX6_search_47 rfl ?_
    first | exact ⟨s, hs, rfl, rfl⟩ | exact ⟨s, hs, (by dsimp only; rw [hc68]; rfl), rfl⟩
set_option maxRecDepth 100000 in
theorem p_search1 (adK : Nat → Nat) (d : Nat) (b : Nat → Int32) (tp : Nat) (fp : Int32) (N : NS) (A : AS) (Q : QS) (C : CS) (W : WS) (Z : SS) (ask : Nat → Int32) (rf : Nat → Nat) (hq : Q.1 = 8 ∨ Q.1 = 9) (hS : shOk N.2.2.1 N.2.2.2.1) (hn : N.1 ≤ 11) (hn1 : 1 ≤ N.1) (hpc : N.2.2.2.2.1 ≤ 55) (hC : csOk C) (hlen : lnC N ≤ 27720) (hW : wsOk W) : pnCt mX6_search adK (d + 10) (mcC C N) (msC C N) [.ref 0, .int (nI 1)] (hP b tp fp N A Q C W Z ask rf) (pnExP (fun s : S3 => csOk (ctF C N s)) (fun s => some (.int (nI ((goW (ctF C N s) W false (lfN N.2.2.2.2.2.2.1 N.2.1 N.2.2.2.2.1))).2.1))) (fun s => (hP b tp fp N A Q (ctF C N s) (goW (ctF C N s) W false (lfN N.2.2.2.2.2.2.1 N.2.1 N.2.2.2.2.1)) Z ask rf))) := by
  refine pnCt_of (by decide) kX6_search (Nat.le_of_ble_eq_true rfl) rfl (hP_cl hq) (pnCS_b rfl) ?_
  have CF := p_fit adK d C N hS hn hn1 hC hlen
  have hb : N.1 ≤ 11 ∧ N.2.2.1 ≤ 3 ∧ N.2.2.2.1 ≤ 5 := by unfold shOk at hS; omega
  refine pn_aload_n (q := 1) dX6_search_0 rfl rfl rfl ?_
  refine pn_iload_n (q := 2) dX6_search_1 rfl rfl ?_
  refine pn_iconst (q := 3) (v := nI 2) dX6_search_2 rfl (by decide) ?_
  refine pn_idV (q := 6) (bc9 := mcC C N) (bs9 := msC C N) (p_requireWhat adK d b tp fp N A Q C W Z ask rf hq 1 2 (by omega) (by omega)) lkX6_203 dX6_search_3 rfl rfl (hP_cl hq) (hP_cl hq) (Nat.le_of_ble_eq_true rfl) rfl rfl rfl rfl rfl rfl (by omega) (by omega) (by omega) (Nat.le_of_ble_eq_true rfl) ?_
  refine pn_aload_n (q := 7) dX6_search_6 rfl rfl rfl ?_
  refine pn_get (q := 10) fX6_44 dX6_search_7 rfl rfl rfl ?_
  refine pn_aload_n (q := 11) dX6_search_10 rfl rfl rfl ?_
  refine pn_get (q := 14) fX6_23 dX6_search_11 rfl rfl rfl ?_
  refine pn_ePV0 (q := 17) (bc9 := 0) (bs9 := 0) (CF) lkX6_148 dX6_search_14 rfl rfl (pnSel_of (I := [49, 50, 51, 52, 2, 3, 4, 5]) rfl rfl) (hP_free rfl rfl (hP_oF hq) rfl) rfl rfl rfl (by omega) (by omega) (by omega) (Nat.le_of_ble_eq_true rfl) (fun s hs => ?_)
  refine pn_eq (h' := (hP b tp fp N A Q (ctF C N s) W Z ask rf)) (st' := _) rfl rfl ?_
  refine pn_aload_n (q := 18) dX6_search_17 rfl rfl rfl ?_
  refine pn_get (q := 21) fX6_51 dX6_search_18 rfl rfl rfl ?_
  refine pn_aload_n (q := 22) dX6_search_21 rfl rfl rfl ?_
  refine pn_get (q := 25) fX6_44 dX6_search_22 rfl rfl rfl ?_
  refine pn_aload_n (q := 26) dX6_search_25 rfl rfl rfl ?_
  refine pn_get (q := 29) fX6_23 dX6_search_26 rfl rfl rfl ?_
  refine pn_roV1 (q := 32) (c_leftLines adK d N.1 N.2.1 N.2.2.1 N.2.2.2.1 N.2.2.2.2.1 N.2.2.2.2.2.1 N.2.2.2.2.2.2.1 N.2.2.2.2.2.2.2.1 N.2.2.2.2.2.2.2.2 hpc) lkX6_104 dX6_search_29 rfl rfl (pnSel_of (I := [2, 3, 4, 5]) rfl rfl) (pnFree_none rfl) rfl rfl rfl (by omega) (Nat.le_of_ble_eq_true rfl) rfl ?_
  refine pn_iconst (q := 33) (v := nB false) dX6_search_32 rfl (by decide) ?_
  refine pn_upV0 (q := 36) (bc9 := 0) (bs9 := 0) (c_go adK d (ctF C N s) W false (lfN N.2.2.2.2.2.2.1 N.2.1 N.2.2.2.2.1) hs hW hb) lkX6_175 dX6_search_33 rfl rfl (pnSel_of (I := [53, 54, 55, 49, 50, 51, 52]) rfl rfl) (hP_free rfl rfl (hP_oW hq) rfl) rfl rfl rfl (by omega) (by omega) (by omega) (Nat.le_of_ble_eq_true rfl) ?_
  refine pn_eq (h' := (hP b tp fp N A Q (ctF C N s) (goW (ctF C N s) W false (lfN N.2.2.2.2.2.2.1 N.2.1 N.2.2.2.2.1)) Z ask rf)) (st' := _) rfl rfl ?_
  refine pn_iload_n (q := 37) dX6_search_36 rfl rfl ?_
  first | refine pn_zne (q := 40) (tgt := 48) dX6_search_37 (by decide) rfl (by omega) (fun hc37 => ?_) (fun hc37 => ?_) | refine pn_if_ne (q := 40) (tgt := 48) dX6_search_37 (by decide) rfl (fun hc37 => ?_) (fun hc37 => ?_)
  · refine pn_iload_n (q := 49) dX6_search_48 rfl rfl ?_
    refine pn_iconst (q := 50) (v := nI 1) dX6_search_49 rfl (by decide) ?_
    first | refine pn_nne (q := 53) (tgt := 61) dX6_search_50 (by decide) rfl (by omega) (by omega) (fun hc50 => ?_) (fun hc50 => ?_) | refine pn_icmp_ne (q := 53) (tgt := 61) dX6_search_50 (by decide) rfl (fun hc50 => ?_) (fun hc50 => ?_)
    · omega
    · refine pn_aload_n (q := 54) dX6_search_53 rfl rfl rfl ?_
      refine pn_get (q := 57) fX6_51 dX6_search_54 rfl rfl rfl ?_
      refine pn_get (q := 60) fX6_259 dX6_search_57 rfl rfl rfl ?_
      refine pn_iret dX6_search_60 rfl ?_
      first | exact ⟨s, hs, rfl, rfl⟩ | exact ⟨s, hs, (by dsimp only; rw [hc68]; rfl), rfl⟩
  · omega
set_option maxRecDepth 100000 in
theorem p_search2 (adK : Nat → Nat) (d : Nat) (b : Nat → Int32) (tp : Nat) (fp : Int32) (N : NS) (A : AS) (Q : QS) (C : CS) (W : WS) (Z : SS) (ask : Nat → Int32) (rf : Nat → Nat) (hq : Q.1 = 8 ∨ Q.1 = 9) (hS : shOk N.2.2.1 N.2.2.2.1) (hn : N.1 ≤ 11) (hn1 : 1 ≤ N.1) (hpc : N.2.2.2.2.1 ≤ 55) (hC : csOk C) (hlen : lnC N ≤ 27720) (hW : wsOk W) : pnCt mX6_search adK (d + 10) (mcC C N) (msC C N) [.ref 0, .int (nI 2)] (hP b tp fp N A Q C W Z ask rf) (pnExP (fun s : S3 => csOk (ctF C N s)) (fun s => some (.int (nI (if ((goW (ctF C N s) W false (lfN N.2.2.2.2.2.2.1 N.2.1 N.2.2.2.2.1))).2.2.1 = true then 0 else 1)))) (fun s => (hP b tp fp N A Q (ctF C N s) (goW (ctF C N s) W false (lfN N.2.2.2.2.2.2.1 N.2.1 N.2.2.2.2.1)) Z ask rf))) := by
  refine pnCt_of (by decide) kX6_search (Nat.le_of_ble_eq_true rfl) rfl (hP_cl hq) (pnCS_b rfl) ?_
  have CF := p_fit adK d C N hS hn hn1 hC hlen
  have hb : N.1 ≤ 11 ∧ N.2.2.1 ≤ 3 ∧ N.2.2.2.1 ≤ 5 := by unfold shOk at hS; omega
  refine pn_aload_n (q := 1) dX6_search_0 rfl rfl rfl ?_
  refine pn_iload_n (q := 2) dX6_search_1 rfl rfl ?_
  refine pn_iconst (q := 3) (v := nI 2) dX6_search_2 rfl (by decide) ?_
  refine pn_idV (q := 6) (bc9 := mcC C N) (bs9 := msC C N) (p_requireWhat adK d b tp fp N A Q C W Z ask rf hq 2 2 (by omega) (by omega)) lkX6_203 dX6_search_3 rfl rfl (hP_cl hq) (hP_cl hq) (Nat.le_of_ble_eq_true rfl) rfl rfl rfl rfl rfl rfl (by omega) (by omega) (by omega) (Nat.le_of_ble_eq_true rfl) ?_
  refine pn_aload_n (q := 7) dX6_search_6 rfl rfl rfl ?_
  refine pn_get (q := 10) fX6_44 dX6_search_7 rfl rfl rfl ?_
  refine pn_aload_n (q := 11) dX6_search_10 rfl rfl rfl ?_
  refine pn_get (q := 14) fX6_23 dX6_search_11 rfl rfl rfl ?_
  refine pn_ePV0 (q := 17) (bc9 := 0) (bs9 := 0) (CF) lkX6_148 dX6_search_14 rfl rfl (pnSel_of (I := [49, 50, 51, 52, 2, 3, 4, 5]) rfl rfl) (hP_free rfl rfl (hP_oF hq) rfl) rfl rfl rfl (by omega) (by omega) (by omega) (Nat.le_of_ble_eq_true rfl) (fun s hs => ?_)
  refine pn_eq (h' := (hP b tp fp N A Q (ctF C N s) W Z ask rf)) (st' := _) rfl rfl ?_
  refine pn_aload_n (q := 18) dX6_search_17 rfl rfl rfl ?_
  refine pn_get (q := 21) fX6_51 dX6_search_18 rfl rfl rfl ?_
  refine pn_aload_n (q := 22) dX6_search_21 rfl rfl rfl ?_
  refine pn_get (q := 25) fX6_44 dX6_search_22 rfl rfl rfl ?_
  refine pn_aload_n (q := 26) dX6_search_25 rfl rfl rfl ?_
  refine pn_get (q := 29) fX6_23 dX6_search_26 rfl rfl rfl ?_
  refine pn_roV1 (q := 32) (c_leftLines adK d N.1 N.2.1 N.2.2.1 N.2.2.2.1 N.2.2.2.2.1 N.2.2.2.2.2.1 N.2.2.2.2.2.2.1 N.2.2.2.2.2.2.2.1 N.2.2.2.2.2.2.2.2 hpc) lkX6_104 dX6_search_29 rfl rfl (pnSel_of (I := [2, 3, 4, 5]) rfl rfl) (pnFree_none rfl) rfl rfl rfl (by omega) (Nat.le_of_ble_eq_true rfl) rfl ?_
  refine pn_iconst (q := 33) (v := nB false) dX6_search_32 rfl (by decide) ?_
  refine pn_upV0 (q := 36) (bc9 := 0) (bs9 := 0) (c_go adK d (ctF C N s) W false (lfN N.2.2.2.2.2.2.1 N.2.1 N.2.2.2.2.1) hs hW hb) lkX6_175 dX6_search_33 rfl rfl (pnSel_of (I := [53, 54, 55, 49, 50, 51, 52]) rfl rfl) (hP_free rfl rfl (hP_oW hq) rfl) rfl rfl rfl (by omega) (by omega) (by omega) (Nat.le_of_ble_eq_true rfl) ?_
  refine pn_eq (h' := (hP b tp fp N A Q (ctF C N s) (goW (ctF C N s) W false (lfN N.2.2.2.2.2.2.1 N.2.1 N.2.2.2.2.1)) Z ask rf)) (st' := _) rfl rfl ?_
  refine pn_iload_n (q := 37) dX6_search_36 rfl rfl ?_
  first | refine pn_zne (q := 40) (tgt := 48) dX6_search_37 (by decide) rfl (by omega) (fun hc37 => ?_) (fun hc37 => ?_) | refine pn_if_ne (q := 40) (tgt := 48) dX6_search_37 (by decide) rfl (fun hc37 => ?_) (fun hc37 => ?_)
  · refine pn_iload_n (q := 49) dX6_search_48 rfl rfl ?_
    refine pn_iconst (q := 50) (v := nI 1) dX6_search_49 rfl (by decide) ?_
    first | refine pn_nne (q := 53) (tgt := 61) dX6_search_50 (by decide) rfl (by omega) (by omega) (fun hc50 => ?_) (fun hc50 => ?_) | refine pn_icmp_ne (q := 53) (tgt := 61) dX6_search_50 (by decide) rfl (fun hc50 => ?_) (fun hc50 => ?_)
    · refine pn_aload_n (q := 62) dX6_search_61 rfl rfl rfl ?_
      refine pn_get (q := 65) fX6_51 dX6_search_62 rfl rfl rfl ?_
      refine pn_get (q := 68) fX6_262 dX6_search_65 rfl rfl rfl ?_
      refine pn_beq (q := 71) (tgt := 75) dX6_search_68 (by decide) rfl (fun hc68 => ?_) (fun hc68 => ?_)
      · refine pn_iconst (q := 76) (v := nI 1) dX6_search_75 rfl (by decide) ?_
        refine pn_iret dX6_search_76 rfl ?_
        first | exact ⟨s, hs, rfl, rfl⟩ | exact ⟨s, hs, (by dsimp only; rw [hc68]; rfl), rfl⟩
      · refine pn_iconst (q := 72) (v := nI 0) dX6_search_71 rfl (by decide) ?_
        refine pn_goto (q := 76) dX6_search_72 (by decide) ?_
        refine pn_iret dX6_search_76 rfl ?_
        first | exact ⟨s, hs, rfl, rfl⟩ | exact ⟨s, hs, (by dsimp only; rw [hc68]; rfl), rfl⟩
    · omega
  · omega
set_option maxRecDepth 100000 in
theorem p_searchX (adK : Nat → Nat) (d : Nat) (b : Nat → Int32) (tp : Nat) (fp : Int32) (N : NS) (A : AS) (Q : QS) (C : CS) (W : WS) (Z : SS) (ask : Nat → Int32) (rf : Nat → Nat) (hq : Q.1 = 8 ∨ Q.1 = 9) (w : Int32) (hw : hasN 3 w = false) : pnCt mX6_search adK (d + 7) 1 6 [.ref 0, .int w] (hP b tp fp N A Q C W Z ask rf) (pnIs (.inr "java/lang/IllegalArgumentException") (hP b tp fp N A Q C W Z ask (updN rf 1 (rf 1 + 1)))) := by
  refine pnCt_of (by decide) kX6_search (Nat.le_of_ble_eq_true rfl) rfl (hP_cl hq) (pnCS_b rfl) ?_
  refine pn_aload_n (q := 1) dX6_search_0 rfl rfl rfl ?_
  refine pn_iload_n (q := 2) dX6_search_1 rfl rfl ?_
  refine pn_iconst (q := 3) (v := nI 2) dX6_search_2 rfl (by decide) ?_
  refine pn_idVX (q := 6) (p_requireWhatX adK d b tp fp N A Q C W Z ask rf hq w 2 hw (by omega)) lkX6_203 dX6_search_3 rfl rfl (hP_cl hq) (hP_cl hq) (Nat.le_of_ble_eq_true rfl) rfl rfl rfl rfl rfl (by omega) (by omega) (by omega) (Nat.le_of_ble_eq_true rfl) rfl (⟨rfl, rfl⟩)
