/-- all parts of a network, in the order in which they are found -/
def paL (n sh k : Nat) (g : Int64) : List Int64 := chL n sh k (plN sh k) g (plN sh k) 0 (fun _ => 0) 0
/-- what holds of a catalog -/
def catOk (c R : Nat) (f : Nat → Int64) (sN : Nat → Nat) (n sh k : Nat) (g : Int64) (pl : Nat) (cN : Nat → Nat) : Prop := rOk R ∧ c ≤ R ∧ (∀ j, cN j ≤ 10) ∧ (∀ j, sN j ≤ c) ∧ ((n = 0 ∧ sh = 0 ∧ k = 0 ∧ pl = 0 ∧ c = 0) ∨ (n ≠ 0 ∧ shOk sh k ∧ n ≤ 11 ∧ pl = plN sh k ∧ c = (paL n sh k g).length ∧ (∃ f0 : Nat → Int64, f = hsF c (hpF c (c / 2) f0) ∧ ∀ j, j < c → f0 j = (paL n sh k g).getD j 0) ∧ sN = mkN f c))
set_option maxRecDepth 100000 in
theorem c_fit (adK : Nat → Nat) (d : Nat) (c R : Nat) (f : Nat → Int64) (sN : Nat → Nat) (fd : Int64) (n0 sh0 k0 : Nat) (g0 : Int64) (pl0 : Nat) (cN : Nat → Nat) (n sh k : Nat) (g : Int64) (pc bc : Nat) (ps : Nat → Int64) (bs sf : Nat → Int32) (hS : shOk sh k) (hn : n ≤ 11) (hn1 : 1 ≤ n) (hok : catOk c R f sN n0 sh0 k0 g0 pl0 cN) (hlen : (paL n sh k g).length ≤ 27720) : pnCt mX1_fit adK (d + 9) (cC R - cC (rT R (paL n sh k g).length)) (cS R - cS (rT R (paL n sh k g).length)) [.ref 0, .ref 4] (hCat c R f (fun j => nI (sN j)) fd n0 sh0 k0 g0 pl0 (fun j => nI (cN j)) ++ (hNetO 4 n g sh k pc bc ps bs sf)) (pnExP (fun s : ((Nat → Int64) × (Nat → Nat) × (Nat → Nat)) => catOk (paL n sh k g).length (rT R (paL n sh k g).length) s.1 s.2.1 n sh k g (plN sh k) s.2.2) (fun _ => none) (fun s => hCat (paL n sh k g).length (rT R (paL n sh k g).length) s.1 (fun j => nI (s.2.1 j)) fd n sh k g (plN sh k) (fun j => nI (s.2.2 j)) ++ (hNetO 4 n g sh k pc bc ps bs sf))) := by
  obtain ⟨o1, o2, o3, o4, o5⟩ := hok
  have hb0 : n0 ≤ 11 ∧ sh0 ≤ 3 ∧ k0 ≤ 5 := by
    rcases o5 with ⟨a1, a2, a3, -⟩ | ⟨-, a1, a2, -⟩
    · omega
    · have := shOk_b a1; omega
  obtain ⟨b1, b2, b3, b4, b5, -⟩ := shOk_b hS
  have same : n = n0 → sh = sh0 → k = k0 → g = g0 → (c = (paL n sh k g).length ∧ rT R (paL n sh k g).length = R ∧ pl0 = plN sh k ∧ catOk c R f sN n0 sh0 k0 g0 pl0 cN) := by
    intro e1 e2 e3 e4
    subst e1; subst e2; subst e3; subst e4
    rcases o5 with ⟨a1, -⟩ | ⟨a0, a1, a2, a3, a4, a5, a6⟩
    · omega
    · exact ⟨a4, if_pos (by omega), a3, o1, o2, o3, o4, Or.inr ⟨a0, a1, a2, a3, a4, a5, a6⟩⟩
  have r1 := rT_ok (m := (paL n sh k g).length) o1 hlen
  have C9 := c_choose adK d (fun j => nI (sN j)) fd n sh k g (plN sh k) pc bc ps bs sf hS rfl hn (plN sh k) 0 0 R f cN 0 (by omega) o1 (by omega) o3 (fun i hi => absurd hi (Nat.not_lt_zero _))
  have e9 : chL n sh k (plN sh k) g (plN sh k) 0 cN 0 = paL n sh k g := chL_congr (by
    unfold shOk at hS
    unfold plN clN
    rcases hS with ⟨h1, h2⟩ | ⟨h1, h2, h3⟩ | ⟨h1, h2, h3⟩ | ⟨h1, h2, h3⟩
    · subst h1; right; right; simp; omega
    · left; exact h1
    · right; left; exact h1
    · subst h1; right; right; simp; omega) _ _ _ _ _ (fun i hi => absurd hi (Nat.not_lt_zero _))
  rw [e9, Nat.zero_add] at C9
  have C9 := C9 hlen
  obtain ⟨LL, hLL⟩ : ∃ LL, LL = (paL n sh k g).length := ⟨_, rfl⟩
  refine pnCt_of (by decide) kX1_fit (Nat.le_of_ble_eq_true rfl) rfl (pnCH_b rfl) (pnCS_b rfl) ?_
  have k46 : pnWP mX1_fit adK (d + 9) (pnExP (fun s : ((Nat → Int64) × (Nat → Nat) × (Nat → Nat)) => catOk (paL n sh k g).length (rT R (paL n sh k g).length) s.1 s.2.1 n sh k g (plN sh k) s.2.2) (fun _ => none) (fun s => hCat (paL n sh k g).length (rT R (paL n sh k g).length) s.1 (fun j => nI (s.2.1 j)) fd n sh k g (plN sh k) (fun j => nI (s.2.2 j)) ++ (hNetO 4 n g sh k pc bc ps bs sf))) (cC R - cC (rT R (paL n sh k g).length)) (cS R - cS (rT R (paL n sh k g).length)) (hCat c R f (fun j => nI (sN j)) fd n0 sh0 k0 g0 pl0 (fun j => nI (cN j)) ++ (hNetO 4 n g sh k pc bc ps bs sf)) [some (.ref 0), some (.ref 4)] [] 46 := by
    refine pn_aload_n (q := 47) dX1_fit_46 rfl rfl rfl ?_
    refine pn_aload_n (q := 48) dX1_fit_47 rfl rfl rfl ?_
    refine pn_get (q := 51) fX1_45 dX1_fit_48 rfl rfl rfl ?_
    refine pn_put (q := 54) fX1_27 dX1_fit_51 rfl rfl (Nat.le_of_ble_eq_true rfl) (pnF_int _) ?_
    refine pn_aload_n (q := 55) dX1_fit_54 rfl rfl rfl ?_
    refine pn_aload_n (q := 56) dX1_fit_55 rfl rfl rfl ?_
    refine pn_get (q := 59) fX1_48 dX1_fit_56 rfl rfl rfl ?_
    refine pn_put (q := 62) fX1_30 dX1_fit_59 rfl rfl (Nat.le_of_ble_eq_true rfl) (pnF_int _) ?_
    refine pn_aload_n (q := 63) dX1_fit_62 rfl rfl rfl ?_
    refine pn_aload_n (q := 64) dX1_fit_63 rfl rfl rfl ?_
    refine pn_get (q := 67) fX1_49 dX1_fit_64 rfl rfl rfl ?_
    refine pn_put (q := 70) fX1_33 dX1_fit_67 rfl rfl (Nat.le_of_ble_eq_true rfl) (pnF_int _) ?_
    refine pn_aload_n (q := 71) dX1_fit_70 rfl rfl rfl ?_
    refine pn_aload_n (q := 72) dX1_fit_71 rfl rfl rfl ?_
    refine pn_get (q := 75) fX1_50 dX1_fit_72 rfl rfl rfl ?_
    refine pn_put (q := 78) fX1_36 dX1_fit_75 rfl rfl (Nat.le_of_ble_eq_true rfl) (pnF_long _) ?_
    refine pn_aload_n (q := 79) dX1_fit_78 rfl rfl rfl ?_
    refine pn_aload_n (q := 80) dX1_fit_79 rfl rfl rfl ?_
    refine pn_roV1 (q := 83) (c_places adK d n g sh k pc bc ps bs sf b1) lkX1_51 dX1_fit_80 rfl rfl (pnSel_of (I := [4, 5, 6, 7]) rfl rfl) (pnFree_none rfl) rfl rfl rfl (by omega) (Nat.le_of_ble_eq_true rfl) rfl ?_
    refine pn_put (q := 86) fX1_39 dX1_fit_83 rfl rfl (Nat.le_of_ble_eq_true rfl) (pnF_int _) ?_
    refine pn_aload_n (q := 87) dX1_fit_86 rfl rfl rfl ?_
    refine pn_iconst (q := 88) (v := nI 0) dX1_fit_87 rfl (by decide) ?_
    refine pn_put (q := 91) fX1_9 dX1_fit_88 rfl rfl (Nat.le_of_ble_eq_true rfl) (pnF_int _) ?_
    refine pn_aload_n (q := 92) dX1_fit_91 rfl rfl rfl ?_
    refine pn_aload_n (q := 93) dX1_fit_92 rfl rfl rfl ?_
    refine pn_iconst (q := 94) (v := nI 0) dX1_fit_93 rfl (by decide) ?_
    refine pn_lconst (q := 95) (v := 0) dX1_fit_94 rfl (by decide) ?_
    refine pn_ePV0 (q := 98) (bc9 := 0) (bs9 := 0) (C9) lkX1_54 dX1_fit_95 rfl rfl (pnSel_of (I := [0, 1, 2, 3, 4, 5, 6, 7]) rfl rfl) (pnFree_b rfl rfl) rfl rfl rfl (by omega) (by omega) (by omega) (Nat.le_of_ble_eq_true rfl) (fun s hs => ?_)
    refine pn_eq (h' := (hCat (paL n sh k g).length (rT R (paL n sh k g).length) s.1 (fun j => nI (sN j)) fd n sh k g (plN sh k) (fun j => nI (s.2 j)) ++ (hNetO 4 n g sh k pc bc ps bs sf))) (st' := _) rfl rfl ?_
    refine pn_aload_n (q := 99) dX1_fit_98 rfl rfl rfl ?_
    refine pn_upV0 (q := 102) (bc9 := 0) (bs9 := 0) (c_sort adK d (paL n sh k g).length (rT R (paL n sh k g).length) s.1 (fun j => nI (sN j)) fd n sh k g (plN sh k) (fun j => nI (s.2 j)) r1.2.2.1 (by omega)) lkX1_58 dX1_fit_99 rfl rfl (pnSel_of (I := [0, 1, 2, 3]) rfl rfl) (pnFree_b rfl rfl) rfl rfl rfl (by omega) (by omega) (by omega) (Nat.le_of_ble_eq_true rfl) ?_
    refine pn_eq (h' := (hCat (paL n sh k g).length (rT R (paL n sh k g).length) (hsF (paL n sh k g).length (hpF (paL n sh k g).length ((paL n sh k g).length / 2) s.1)) (fun j => nI (sN j)) fd n sh k g (plN sh k) (fun j => nI (s.2 j)) ++ (hNetO 4 n g sh k pc bc ps bs sf))) (st' := _) rfl rfl ?_
    refine pn_aload_n (q := 103) dX1_fit_102 rfl rfl rfl ?_
    refine pn_upV0 (q := 106) (bc9 := 0) (bs9 := 0) (c_markStarts adK d (paL n sh k g).length (rT R (paL n sh k g).length) (hsF (paL n sh k g).length (hpF (paL n sh k g).length ((paL n sh k g).length / 2) s.1)) (fun j => nI (sN j)) fd n sh k g (plN sh k) (fun j => nI (s.2 j)) r1.2.2.1 (by omega)) lkX1_61 dX1_fit_103 rfl rfl (pnSel_of (I := [0, 1, 2, 3]) rfl rfl) (pnFree_b rfl rfl) rfl rfl rfl (by omega) (by omega) (by omega) (Nat.le_of_ble_eq_true rfl) ?_
    refine pn_eq (h' := (hCat (paL n sh k g).length (rT R (paL n sh k g).length) (hsF (paL n sh k g).length (hpF (paL n sh k g).length ((paL n sh k g).length / 2) s.1)) (fun j => nI (mkN (hsF (paL n sh k g).length (hpF (paL n sh k g).length ((paL n sh k g).length / 2) s.1)) (paL n sh k g).length j)) fd n sh k g (plN sh k) (fun j => nI (s.2 j)) ++ (hNetO 4 n g sh k pc bc ps bs sf))) (st' := _) rfl rfl ?_
    refine pn_vret dX1_fit_106 rfl ?_
    exact ⟨(hsF (paL n sh k g).length (hpF (paL n sh k g).length ((paL n sh k g).length / 2) s.1), mkN (hsF (paL n sh k g).length (hpF (paL n sh k g).length ((paL n sh k g).length / 2) s.1)) (paL n sh k g).length, s.2), ⟨r1.1, r1.2.2.1, hs.2.2.2, mkN_le _ _, Or.inr ⟨by omega, hS, hn, rfl, rfl, ⟨s.1, rfl, fun j hj => by have := hs.2.1 j hj; rw [Nat.zero_add] at this; exact this⟩, rfl⟩⟩, rfl, rfl⟩
  refine pn_aload_n (q := 1) dX1_fit_0 rfl rfl rfl ?_
  refine pn_get (q := 4) fX1_45 dX1_fit_1 rfl rfl rfl ?_
  refine pn_aload_n (q := 5) dX1_fit_4 rfl rfl rfl ?_
  refine pn_get (q := 8) fX1_27 dX1_fit_5 rfl rfl rfl ?_
  first | refine pn_nne (q := 11) (tgt := 46) dX1_fit_8 (by decide) rfl (by omega) (by omega) (fun hc8 => ?_) (fun hc8 => ?_) | refine pn_icmp_ne (q := 11) (tgt := 46) dX1_fit_8 (by decide) rfl (fun hc8 => ?_) (fun hc8 => ?_)
  · refine pn_eq (h' := hCat c R f (fun j => nI (sN j)) fd n0 sh0 k0 g0 pl0 (fun j => nI (cN j)) ++ (hNetO 4 n g sh k pc bc ps bs sf)) (st' := []) rfl rfl ?_; exact k46
  · refine pn_aload_n (q := 12) dX1_fit_11 rfl rfl rfl ?_
    refine pn_get (q := 15) fX1_48 dX1_fit_12 rfl rfl rfl ?_
    refine pn_aload_n (q := 16) dX1_fit_15 rfl rfl rfl ?_
    refine pn_get (q := 19) fX1_30 dX1_fit_16 rfl rfl rfl ?_
    first | refine pn_nne (q := 22) (tgt := 46) dX1_fit_19 (by decide) rfl (by omega) (by omega) (fun hc19 => ?_) (fun hc19 => ?_) | refine pn_icmp_ne (q := 22) (tgt := 46) dX1_fit_19 (by decide) rfl (fun hc19 => ?_) (fun hc19 => ?_)
    · refine pn_eq (h' := hCat c R f (fun j => nI (sN j)) fd n0 sh0 k0 g0 pl0 (fun j => nI (cN j)) ++ (hNetO 4 n g sh k pc bc ps bs sf)) (st' := []) rfl rfl ?_; exact k46
    · refine pn_aload_n (q := 23) dX1_fit_22 rfl rfl rfl ?_
      refine pn_get (q := 26) fX1_49 dX1_fit_23 rfl rfl rfl ?_
      refine pn_aload_n (q := 27) dX1_fit_26 rfl rfl rfl ?_
      refine pn_get (q := 30) fX1_33 dX1_fit_27 rfl rfl rfl ?_
      first | refine pn_nne (q := 33) (tgt := 46) dX1_fit_30 (by decide) rfl (by omega) (by omega) (fun hc30 => ?_) (fun hc30 => ?_) | refine pn_icmp_ne (q := 33) (tgt := 46) dX1_fit_30 (by decide) rfl (fun hc30 => ?_) (fun hc30 => ?_)
      · refine pn_eq (h' := hCat c R f (fun j => nI (sN j)) fd n0 sh0 k0 g0 pl0 (fun j => nI (cN j)) ++ (hNetO 4 n g sh k pc bc ps bs sf)) (st' := []) rfl rfl ?_; exact k46
      · refine pn_aload_n (q := 34) dX1_fit_33 rfl rfl rfl ?_
        refine pn_get (q := 37) fX1_50 dX1_fit_34 rfl rfl rfl ?_
        refine pn_aload_n (q := 38) dX1_fit_37 rfl rfl rfl ?_
        refine pn_get (q := 41) fX1_36 dX1_fit_38 rfl rfl rfl ?_
        refine pn_lne (q1 := 42) (q := 45) (tgt := 46) dX1_fit_41 rfl dX1_fit_42 (by decide) rfl (fun hc41 => ?_) (fun hc41 => ?_)
        · refine pn_eq (h' := hCat c R f (fun j => nI (sN j)) fd n0 sh0 k0 g0 pl0 (fun j => nI (cN j)) ++ (hNetO 4 n g sh k pc bc ps bs sf)) (st' := []) rfl rfl ?_; exact k46
        · refine pn_vret dX1_fit_45 rfl ?_
          obtain ⟨q1, q2, q3, q4⟩ := same hc8 hc19 hc30 hc41; subst hc8; subst hc19; subst hc30; subst hc41; subst q3; exact ⟨(f, sN, cN), by rw [q2, ← q1]; exact q4, rfl, by rw [q2, ← q1]⟩
