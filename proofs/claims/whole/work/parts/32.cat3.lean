set_option maxRecDepth 100000 in
theorem c_copyOf (adK : Nat → Nat) (d : Nat) (c R : Nat) (f : Nat → Int64) (stt : Nat → Int32) (fd : Int64) (n sh k : Nat) (g : Int64) (pl : Nat) (ch : Nat → Int32) (N : Nat) (hR : R < N) (hN : N ≤ 60000) : pnCt mJ7_copyOf_c38d5 adK (d + 1) 1 N [.ref 1, .int (nI N)] (hCat c R f stt fd n sh k g pl ch) (pnIs (.inl (some (.ref 4))) ((hCat c R f stt fd n sh k g pl ch) ++ [.inl (6, N, .inr (.inl (va_cpy f (fun _ => 0) 0 0 R)))])) := by
  refine pnCt_of (by decide) kJ7_copyOf_c38d5 (Nat.le_of_ble_eq_true rfl) rfl (hCat_cl _ _ _ _ _ _ _ _ _ _ _) (pnCS_b rfl) ?_
  have hmin : min R N = R := Nat.min_eq_left (by omega)
  refine pn_room (bc' := 0 + 1) (bs' := 0 + N) (by omega) (by omega) ?_
  refine pn_iload_n (q := 1) dJ7_copyOf_c38d5_0 rfl rfl ?_
  refine pn_aload_n (q := 2) dJ7_copyOf_c38d5_1 rfl rfl rfl ?_
  refine pn_alen (q := 3) dJ7_copyOf_c38d5_2 rfl rfl (by decide) ?_
  first | refine pn_nne (q := 6) (tgt := 14) dJ7_copyOf_c38d5_3 (by decide) rfl (by omega) (by omega) (fun hc3 => ?_) (fun hc3 => ?_) | refine pn_icmp_ne (q := 6) (tgt := 14) dJ7_copyOf_c38d5_3 (by decide) rfl (fun hc3 => ?_) (fun hc3 => ?_)
  · refine pn_iload_n (q := 15) dJ7_copyOf_c38d5_14 rfl rfl ?_
    refine pn_newl6 (q := 17) pw_163 dJ7_copyOf_c38d5_15 rfl rfl (by omega) ?_
    refine pn_astore_n (q := 18) dJ7_copyOf_c38d5_17 rfl (by decide) rfl ?_
    refine pn_aload_n (q := 19) dJ7_copyOf_c38d5_18 rfl rfl rfl ?_
    refine pn_iconst (q := 20) (v := nI 0) dJ7_copyOf_c38d5_19 rfl (by decide) ?_
    refine pn_aload_n (q := 21) dJ7_copyOf_c38d5_20 rfl rfl rfl ?_
    refine pn_iconst (q := 22) (v := nI 0) dJ7_copyOf_c38d5_21 rfl (by decide) ?_
    refine pn_aload_n (q := 23) dJ7_copyOf_c38d5_22 rfl rfl rfl ?_
    refine pn_alen (q := 24) dJ7_copyOf_c38d5_23 rfl rfl (by decide) ?_
    refine pn_iload_n (q := 25) dJ7_copyOf_c38d5_24 rfl rfl ?_
    refine pn_roS1 (q := 28) (c_min adK d R N (by omega) (by omega)) lkJ7_304 dJ7_copyOf_c38d5_25 rfl rfl (pnSel_of (I := []) rfl rfl) (pnFree_none rfl) rfl (by omega) (Nat.le_of_ble_eq_true rfl) rfl ?_
    rw [hmin]; refine pn_copyG (q := 31) (t0 := 5) (t1 := 6) (Or.inr (Or.inl rfl)) (Or.inr (Or.inr rfl)) pw_435 pw_437 pw_436 pw_95 dJ7_copyOf_c38d5_28 rfl (by omega) (Nat.le_of_ble_eq_true rfl) rfl rfl (Nat.le_refl _) (by omega) (by omega) ?_
    refine pn_aload_n (q := 32) dJ7_copyOf_c38d5_31 rfl rfl rfl ?_
    refine pn_aret dJ7_copyOf_c38d5_32 rfl (by first | exact Or.inl ⟨_, rfl⟩ | exact Or.inr ⟨_, rfl⟩) rfl ?_
    exact ⟨rfl, rfl⟩
  · omega
def g1N (R c : Nat) : Nat := if c = R then min 27720 (max 32 (2 * c)) else R
def f1N (R c : Nat) (f : Nat → Int64) (x : Int64) : Nat → Int64 := if c = R then vp_updL (va_cpy f (fun _ => 0) 0 0 R) c x else vp_updL f c x
def rOk (R : Nat) : Prop := R = 0 ∨ R = 32 ∨ R = 64 ∨ R = 128 ∨ R = 256 ∨ R = 512 ∨ R = 1024 ∨ R = 2048 ∨ R = 4096 ∨ R = 8192 ∨ R = 16384 ∨ R = 27720
def cC (R : Nat) : Nat := (92000 - 3 * R) / 32
def cS (R : Nat) : Nat := 92000 - 3 * R
theorem g1N_ok {R c : Nat} (h : rOk R) (hc : c < 27720) (hcR : c ≤ R) : rOk (g1N R c) ∧ R ≤ g1N R c ∧ c < g1N R c ∧ g1N R c ≤ 27720 ∧ (c = R → cC (g1N R c) + 1 ≤ cC R ∧ cS (g1N R c) + g1N R c ≤ cS R) := by
  unfold g1N cC cS
  by_cases e : c = R
  · rw [if_pos e]
    subst e
    unfold rOk at *
    rcases h with h | h | h | h | h | h | h | h | h | h | h | h <;> subst h <;> first | omega | (refine ⟨by decide, by decide, by decide, by decide, fun _ => by decide⟩)
  · rw [if_neg e]
    refine ⟨h, Nat.le_refl _, by omega, ?_, fun q => absurd q e⟩
    unfold rOk at h
    omega
theorem rOk_le {R : Nat} (h : rOk R) : R ≤ 27720 := by unfold rOk at h; omega
set_option maxRecDepth 100000 in
theorem c_add (adK : Nat → Nat) (d : Nat) (c R : Nat) (f : Nat → Int64) (stt : Nat → Int32) (fd : Int64) (n sh k : Nat) (g : Int64) (pl : Nat) (ch : Nat → Int32) (x : Int64) (hr : rOk R) (hc : c < 27720) (hcR : c ≤ R) : pnCt mX1_add adK (d + 2) (cC R - cC (g1N R c)) (cS R - cS (g1N R c)) [.ref 0, .long x] (hCat c R f stt fd n sh k g pl ch) (pnIs (.inl none) (hCat (c + 1) (g1N R c) (f1N R c f x) stt fd n sh k g pl ch)) := by
  refine pnCt_of (by decide) kX1_add (Nat.le_of_ble_eq_true rfl) rfl (hCat_cl _ _ _ _ _ _ _ _ _ _ _) (pnCS_b rfl) ?_
  have hRl := rOk_le hr
  obtain ⟨g1, g2, g3, g4, g5⟩ := g1N_ok hr hc hcR
  have fin : ∀ (bc bs R' : Nat) (f' : Nat → Int64), c < R' → R' ≤ 27720 → R' = g1N R c → vp_updL f' c x = f1N R c f x → pnWP mX1_add adK (d + 2) (pnIs (.inl none) (hCat (c + 1) (g1N R c) (f1N R c f x) stt fd n sh k g pl ch)) bc bs (hCat c R' f' stt fd n sh k g pl ch) [some (.ref 0), some (.long x), none] [] 40 := by
    intro bc bs R' f' h1 h2 h3 h4
    refine pn_aload_n (q := 41) dX1_add_40 rfl rfl rfl ?_
    refine pn_get (q := 44) fX1_9 dX1_add_41 rfl rfl rfl ?_
    first | refine pn_zlt (q := 47) (tgt := 79) dX1_add_44 (by decide) rfl (by omega) (fun hc44 => ?_) (fun hc44 => ?_) | refine pn_if_lt (q := 47) (tgt := 79) dX1_add_44 (by decide) rfl (fun hc44 => ?_) (fun hc44 => ?_)
    · exact hc44.elim
    · refine pn_aload_n (q := 48) dX1_add_47 rfl rfl rfl ?_
      refine pn_get (q := 51) fX1_9 dX1_add_48 rfl rfl rfl ?_
      refine pn_aload_n (q := 52) dX1_add_51 rfl rfl rfl ?_
      refine pn_get (q := 55) fX1_15 dX1_add_52 rfl rfl rfl ?_
      refine pn_alen (q := 56) dX1_add_55 rfl rfl (by decide) ?_
      first | refine pn_nge (q := 59) (tgt := 79) dX1_add_56 (by decide) rfl (by omega) (by omega) (fun hc56 => ?_) (fun hc56 => ?_) | refine pn_icmp_ge (q := 59) (tgt := 79) dX1_add_56 (by decide) rfl (fun hc56 => ?_) (fun hc56 => ?_)
      · omega
      · refine pn_aload_n (q := 60) dX1_add_59 rfl rfl rfl ?_
        refine pn_get (q := 63) fX1_15 dX1_add_60 rfl rfl rfl ?_
        refine pn_aload_n (q := 64) dX1_add_63 rfl rfl rfl ?_
        refine pn_get (q := 67) fX1_9 dX1_add_64 rfl rfl rfl ?_
        refine pn_lload_n (q := 68) dX1_add_67 rfl rfl ?_
        first | refine pn_last5 (q := 69) dX1_add_68 rfl rfl rfl (by omega) (by first | decide | omega) ?_ | refine pn_last1 (q := 69) dX1_add_68 rfl rfl rfl (by omega) (by first | decide | omega) ?_
        refine pn_aload_n (q := 70) dX1_add_69 rfl rfl rfl ?_
        refine pn_dup (q := 71) dX1_add_70 rfl rfl ?_
        refine pn_get (q := 74) fX1_9 dX1_add_71 rfl rfl rfl ?_
        refine pn_iconst (q := 75) (v := nI 1) dX1_add_74 rfl (by decide) ?_
        first | with_reducible refine pn_iaddN (q := 76) dX1_add_75 rfl ?_ | refine pn_iadd (q := 76) dX1_add_75 rfl ?_
        refine pn_put (q := 79) fX1_9 dX1_add_76 rfl rfl (Nat.le_of_ble_eq_true rfl) (pnF_int _) ?_
        refine pn_vret dX1_add_79 rfl ?_
        exact ⟨rfl, by rw [← h3, ← h4]; rfl⟩
  by_cases e : c = R
  · have e1 : g1N R c = min 27720 (max 32 (2 * c)) := if_pos e
    have g6 := g5 e
    have hb1 : cC R - cC (g1N R c) = (cC R - cC (g1N R c) - 1) + 1 := by omega
    refine pn_aload_n (q := 1) dX1_add_0 rfl rfl rfl ?_
    refine pn_get (q := 4) fX1_9 dX1_add_1 rfl rfl rfl ?_
    refine pn_aload_n (q := 5) dX1_add_4 rfl rfl rfl ?_
    refine pn_get (q := 8) fX1_15 dX1_add_5 rfl rfl rfl ?_
    refine pn_alen (q := 9) dX1_add_8 rfl rfl (by decide) ?_
    first | refine pn_nne (q := 12) (tgt := 40) dX1_add_9 (by decide) rfl (by omega) (by omega) (fun hc9 => ?_) (fun hc9 => ?_) | refine pn_icmp_ne (q := 12) (tgt := 40) dX1_add_9 (by decide) rfl (fun hc9 => ?_) (fun hc9 => ?_)
    · omega
    · refine pn_aload_n (q := 13) dX1_add_12 rfl rfl rfl ?_
      refine pn_aload_n (q := 14) dX1_add_13 rfl rfl rfl ?_
      refine pn_get (q := 17) fX1_15 dX1_add_14 rfl rfl rfl ?_
      refine pn_sipush (q := 20) (v := nI 27720) dX1_add_17 rfl (by decide) ?_
      refine pn_bipush (q := 22) (v := nI 32) dX1_add_20 rfl (by decide) ?_
      refine pn_iconst (q := 23) (v := nI 2) dX1_add_22 rfl (by decide) ?_
      refine pn_aload_n (q := 24) dX1_add_23 rfl rfl rfl ?_
      refine pn_get (q := 27) fX1_9 dX1_add_24 rfl rfl rfl ?_
      first | with_reducible refine pn_imulN (q := 28) dX1_add_27 rfl ?_ | refine pn_imul (q := 28) dX1_add_27 rfl ?_
      refine pn_roS1 (q := 31) (c_max adK d 32 (2 * c) (by omega) (by omega)) lkX1_86 dX1_add_28 rfl rfl (pnSel_of (I := []) rfl rfl) (pnFree_none rfl) rfl (by omega) (Nat.le_of_ble_eq_true rfl) rfl ?_
      refine pn_roS1 (q := 34) (c_min adK d 27720 (max 32 (2 * c)) (by omega) (by omega)) lkX1_91 dX1_add_31 rfl rfl (pnSel_of (I := []) rfl rfl) (pnFree_none rfl) rfl (by omega) (Nat.le_of_ble_eq_true rfl) rfl ?_
      refine pn_rrS (q := 37) (bc9 := 0) (bs9 := 0) ((by have := c_copyOf adK d c R f stt fd n sh k g pl ch (min 27720 (max 32 (2 * c))) (by rw [← e1]; omega) (by omega); exact this)) lkX1_94 dX1_add_34 rfl rfl (pnSel_of (I := [0, 1, 2, 3]) rfl rfl) (pnFree_b rfl rfl) rfl (by omega) (by omega) (by omega) (Nat.le_of_ble_eq_true rfl) ?_
      refine pn_eq (h' := (hCat c R f stt fd n sh k g pl ch ++ [.inl (6, min 27720 (max 32 (2 * c)), .inr (.inl (va_cpy f (fun _ => 0) 0 0 R)))])) (st' := (.ref 4 :: [.ref 0])) rfl rfl ?_
      refine pn_put (q := 40) fX1_15 dX1_add_37 rfl rfl (Nat.le_of_ble_eq_true rfl) (pnF_arr rfl) ?_
      refine pn_move (a := 1) (h1 := [.inr (1, [.int (nI c), .ref 4, .ref 2, .long fd, .int (nI n), .int (nI sh), .int (nI k), .long g, .int (nI pl), .ref 3]), .inl (5, R, .inr (.inl f)), .inl (0, 56, .inl stt), .inl (0, 5, .inl ch)]) rfl rfl rfl rfl rfl (fin _ _ (min 27720 (max 32 (2 * c))) (va_cpy f (fun _ => 0) 0 0 R) (by rw [← e1]; omega) (by omega) e1.symm (by unfold f1N; rw [if_pos e]))
  · refine pn_aload_n (q := 1) dX1_add_0 rfl rfl rfl ?_
    refine pn_get (q := 4) fX1_9 dX1_add_1 rfl rfl rfl ?_
    refine pn_aload_n (q := 5) dX1_add_4 rfl rfl rfl ?_
    refine pn_get (q := 8) fX1_15 dX1_add_5 rfl rfl rfl ?_
    refine pn_alen (q := 9) dX1_add_8 rfl rfl (by decide) ?_
    first | refine pn_nne (q := 12) (tgt := 40) dX1_add_9 (by decide) rfl (by omega) (by omega) (fun hc9 => ?_) (fun hc9 => ?_) | refine pn_icmp_ne (q := 12) (tgt := 40) dX1_add_9 (by decide) rfl (fun hc9 => ?_) (fun hc9 => ?_)
    · exact fin _ _ R f (by omega) (by omega) (by unfold g1N; rw [if_neg e]) (by unfold f1N; rw [if_neg e])
    · omega
