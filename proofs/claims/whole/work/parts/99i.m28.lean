/-! parts of a network, as the reference tells them -/
def ptC (A : Nat → Int64) (s : Int64) : Nat → Nat
  | 0 => 0
  | k + 1 => if A k &&& (s ^^^ (-1)) = lN 0 then ptC A s k + 1 else ptC A s k
theorem ptC_le (A : Nat → Int64) (s : Int64) : ∀ k, ptC A s k ≤ k
  | 0 => Nat.le_refl _
  | k + 1 => by have := ptC_le A s k; unfold ptC; split <;> omega
/-- what stands once all is laid: the rows hold what is counted -/
def lyO (e : G4) : Prop := e.2.2.2.2.2.2.2.2 ≤ e.1 ∧ e.1 ≤ 60000 ∧ ∀ l, l < 57 → e.2.2.2.2.1 l ≤ e.2.2.2.2.2.2.2.2
set_option maxRecDepth 100000 in
theorem m_partsOf (adK : Nat → Nat) (d : Nat) (Y : MN) (P : Nat → MN) (a : G0) (b : G1) (c : G3) (e : G4) (f : G5) (g : G6) (h : G7) (x : Int64) (hp : lyP Y c e) (hO : lyO (lyG Y c e)) : pnCt mX7_partsOf adK (d + 21) (lyM Y c e) (lyN Y c e) [.ref 0, .long x] (hM Y P a b c e f g h) (pnIs (.inl (some (.int (nI (ptC (lyG Y c e).2.1 x (lyG Y c e).2.2.2.2.2.2.2.2))))) (hM Y P a b (lyC Y c e) (lyG Y c e) f g h)) := by
  refine pnCt_of (by decide) kX7_partsOf (Nat.le_of_ble_eq_true rfl) rfl hM_cl (pnCS_b rfl) ?_
  have CL := m_lays adK d Y P a b c e f g h hp
  generalize (lyG Y c e) = e1 at *
  generalize (lyC Y c e) = c1 at *
  obtain ⟨o1, o2, o3⟩ := hO
  have loop : ∀ (z k : Nat), k + z = e1.2.2.2.2.2.2.2.2 → pnWP mX7_partsOf adK (d + 21) (pnIs (.inl (some (.int (nI (ptC e1.2.1 x e1.2.2.2.2.2.2.2.2))))) (hM Y P a b c1 e1 f g h)) 0 0 (hM Y P a b c1 e1 f g h) [some (.ref 0), some (.long x), none, some (.int (nI (ptC e1.2.1 x k))), some (.int (nI k))] [] 9 := by
    intro z
    induction z with
    | zero =>
      intro k hk
      refine pn_iload (q := 11) dX7_partsOf_9 rfl rfl ?_
      refine pn_aload_n (q := 12) dX7_partsOf_11 rfl rfl rfl ?_
      refine pn_get (q := 15) fX7_241 dX7_partsOf_12 rfl rfl rfl ?_
      first | refine pn_nge (q := 18) (tgt := 50) dX7_partsOf_15 (by decide) rfl (by omega) (by omega) (fun hc15 => ?_) (fun hc15 => ?_) | refine pn_icmp_ge (q := 18) (tgt := 50) dX7_partsOf_15 (by decide) rfl (fun hc15 => ?_) (fun hc15 => ?_)
      · refine pn_iload_n (q := 51) dX7_partsOf_50 rfl rfl ?_
        refine pn_iret dX7_partsOf_51 rfl ?_
        exact ⟨by rw [show k = e1.2.2.2.2.2.2.2.2 by omega], rfl⟩
      · omega
    | succ z ih =>
      intro k hk
      have k9 := ih (k + 1) (by omega)
      have e2 : ptC e1.2.1 x (k + 1) = if e1.2.1 k &&& (x ^^^ (-1)) = lN 0 then ptC e1.2.1 x k + 1 else ptC e1.2.1 x k := rfl
      rw [e2] at k9
      have := ptC_le e1.2.1 x k
      refine pn_iload (q := 11) dX7_partsOf_9 rfl rfl ?_
      refine pn_aload_n (q := 12) dX7_partsOf_11 rfl rfl rfl ?_
      refine pn_get (q := 15) fX7_241 dX7_partsOf_12 rfl rfl rfl ?_
      first | refine pn_nge (q := 18) (tgt := 50) dX7_partsOf_15 (by decide) rfl (by omega) (by omega) (fun hc15 => ?_) (fun hc15 => ?_) | refine pn_icmp_ge (q := 18) (tgt := 50) dX7_partsOf_15 (by decide) rfl (fun hc15 => ?_) (fun hc15 => ?_)
      · omega
      · refine pn_iload_n (q := 19) dX7_partsOf_18 rfl rfl ?_
        refine pn_aload_n (q := 20) dX7_partsOf_19 rfl rfl rfl ?_
        refine pn_get (q := 23) fX7_41 dX7_partsOf_20 rfl rfl rfl ?_
        refine pn_iload (q := 25) dX7_partsOf_23 rfl rfl ?_
        refine pn_lald5 (q := 26) dX7_partsOf_25 rfl rfl rfl (by omega) (by omega) ?_
        refine pn_lload_n (q := 27) dX7_partsOf_26 rfl rfl ?_
        refine pn_ldc2 (q := 30) pw_1283 dX7_partsOf_27 rfl ?_
        refine pn_lxor (q := 31) dX7_partsOf_30 rfl ?_
        refine pn_land (q := 32) dX7_partsOf_31 rfl ?_
        refine pn_lconst (q := 33) (v := lN 0) dX7_partsOf_32 rfl (by decide) ?_
        refine pn_lne (q1 := 34) (q := 37) (tgt := 41) dX7_partsOf_33 rfl dX7_partsOf_34 (by decide) rfl (fun hc33 => ?_) (fun hc33 => ?_)
        · refine pn_iconst (q := 42) (v := nI 0) dX7_partsOf_41 rfl (by decide) ?_
          first | with_reducible refine pn_iaddN (q := 43) dX7_partsOf_42 rfl ?_ | refine pn_iadd (q := 43) dX7_partsOf_42 rfl ?_
          refine pn_istore_n (q := 44) dX7_partsOf_43 rfl (by decide) ?_
          first | refine pn_iinc1 (q := 47) dX7_partsOf_44 rfl rfl (by decide) ?_ | refine pn_iinc (q := 47) (mm := 1) dX7_partsOf_44 rfl rfl (by decide) (by decide) ?_
          refine pn_goto (q := 9) dX7_partsOf_47 (by decide) ?_
          (first | (rw [if_pos hc33] at k9; exact k9) | (rw [if_neg hc33] at k9; exact k9))
        · refine pn_iconst (q := 38) (v := nI 1) dX7_partsOf_37 rfl (by decide) ?_
          refine pn_goto (q := 42) dX7_partsOf_38 (by decide) ?_
          first | with_reducible refine pn_iaddN (q := 43) dX7_partsOf_42 rfl ?_ | refine pn_iadd (q := 43) dX7_partsOf_42 rfl ?_
          refine pn_istore_n (q := 44) dX7_partsOf_43 rfl (by decide) ?_
          first | refine pn_iinc1 (q := 47) dX7_partsOf_44 rfl rfl (by decide) ?_ | refine pn_iinc (q := 47) (mm := 1) dX7_partsOf_44 rfl rfl (by decide) (by decide) ?_
          refine pn_goto (q := 9) dX7_partsOf_47 (by decide) ?_
          (first | (rw [if_pos hc33] at k9; exact k9) | (rw [if_neg hc33] at k9; exact k9))
  refine pn_aload_n (q := 1) dX7_partsOf_0 rfl rfl rfl ?_
  refine pn_idV (q := 4) (bc9 := 0) (bs9 := 0) (CL) lkX7_265 dX7_partsOf_1 rfl rfl (hM_cl) (hM_cl) (Nat.le_of_ble_eq_true rfl) rfl rfl rfl rfl rfl rfl (by omega) (by omega) (by omega) (Nat.le_of_ble_eq_true rfl) ?_
  refine pn_iconst (q := 5) (v := nI 0) dX7_partsOf_4 rfl (by decide) ?_
  refine pn_istore_n (q := 6) dX7_partsOf_5 rfl (by decide) ?_
  refine pn_iconst (q := 7) (v := nI 0) dX7_partsOf_6 rfl (by decide) ?_
  refine pn_istore (q := 9) dX7_partsOf_7 rfl (by decide) ?_
  exact loop e1.2.2.2.2.2.2.2.2 0 (by omega)
