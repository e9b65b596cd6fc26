theorem hM_like (Y : MN) (P : Nat → MN) (a : G0) (b : G1) (c : G3) (e : G4) (f : G5) (g : G6) (h : G7) : pnLike (hM1 Y P a b c e f g h) (hM Y P a b c e f g h) := by
  refine ⟨rfl, fun k x hk => ?_⟩
  match k, hk with
  | 17, hk => exact Or.inr ⟨_, _, (Option.some.inj hk).symm, rfl⟩
  | 18, hk => exact Or.inr ⟨_, _, (Option.some.inj hk).symm, rfl⟩
  | 0, hk | 1, hk | 2, hk | 3, hk | 4, hk | 5, hk | 6, hk | 7, hk | 8, hk | 9, hk | 10, hk | 11, hk | 12, hk | 13, hk | 14, hk | 15, hk | 16, hk | 19, hk | 20, hk | 21, hk | 22, hk => exact Or.inl hk
  | k + 23, hk => cases hk
theorem hM_at5 (Y : MN) (P : Nat → MN) (a : G0) (b : G1) (c : G3) (e : G4) (f : G5) (g : G6) (h : G7) (k : Nat) : pnAt5 (hM Y P a b c e f g h) k = decide (k = 17 ∨ k = 18) := by
  match k with
  | 17 => rfl
  | 18 => rfl
  | 0 | 1 | 2 | 3 | 4 | 5 | 6 | 7 | 8 | 9 | 10 | 11 | 12 | 13 | 14 | 15 | 16 | 19 | 20 | 21 | 22 => rfl
  | k + 23 => rw [decide_eq_false (by omega)]; rfl
theorem m_seeks (adK : Nat → Nat) (d : Nat) (r : Nat) (Y : MN) (P : Nat → MN) (a : G0) (b : G1) (c : G3) (e : G4) (f : G5) (g : G6) (h : G7) (u : Nat) (kp : Bool) (hS : shOk Y.2.2.1 Y.2.2.2.1) (hr : c.2 + r = plN Y.2.2.1 Y.2.2.2.1) (hn : Y.1 ≤ 11) (hn1 : 1 ≤ Y.1) (hu : u < 2048) (hA : e.2.2.2.2.2.2.2.2 + (skG Y.1 Y.2.2.1 Y.2.2.2.1 r c.2 u c.1).1.length ≤ 1000000) (hK : kp = true → e.2.2.2.2.2.2.2.2 + (skG Y.1 Y.2.2.1 Y.2.2.2.1 r c.2 u c.1).1.length ≤ e.1) (he : e.1 ≤ 1000000) : pnCt mX7_seeks adK (d + 3 + r) 0 0 [.ref 0, .int (nI u), .int (nB kp)] (hM Y P a b c e f g h) (pnIs (.inl none) (hM Y P a b ((skG Y.1 Y.2.2.1 Y.2.2.2.1 r c.2 u c.1).2, c.2) (eAl e (wrK kp e.2.1 e.2.2.2.2.2.2.2.2 (skG Y.1 Y.2.2.1 Y.2.2.2.1 r c.2 u c.1).1) (e.2.2.2.2.2.2.2.2 + (skG Y.1 Y.2.2.1 Y.2.2.2.1 r c.2 u c.1).1.length)) f g h)) :=
  pnCt_15 (m_seeks1 adK d r Y P a b c e f g h u kp hS hr hn hn1 hu hA hK he) (hM_like Y P a b c e f g h) (fun r9 h9 hq => by
    obtain ⟨q1, q2⟩ := hq
    subst q2
    exact ⟨_, ⟨q1, rfl⟩, hM_like _ _ _ _ _ _ _ _ _, fun k hk => by rw [hM_at5] at hk ⊢; exact hk⟩)
/-! two halves, each in order, become one -/
def mgB (A : Nat → Int64) (mid hi : Nat) : Nat → Nat → Nat → Nat → (Nat → Int64) → Nat → Int64
  | 0, _, _, _, B => B
  | z + 1, k, x, y, B => if y = hi ∨ (x < mid ∧ cfN (A x) (A y) = true) then mgB A mid hi z (k + 1) (x + 1) y (vp_updL B k (A x)) else mgB A mid hi z (k + 1) x (y + 1) (vp_updL B k (A y))
def cpR (A B : Nat → Int64) (lo : Nat) : Nat → Nat → Int64
  | 0 => A
  | i + 1 => vp_updL (cpR A B lo i) (lo + i) (B (lo + i))
def srF : Nat → Nat → Nat → (Nat → Int64) × (Nat → Int64) → (Nat → Int64) × (Nat → Int64)
  | 0, _, _, w => w
  | t + 1, lo, hi, w =>
    if hi - lo < 2 then w else
    (cpR (srF t ((lo + hi) / 2) hi (srF t lo ((lo + hi) / 2) w)).1 (mgB (srF t ((lo + hi) / 2) hi (srF t lo ((lo + hi) / 2) w)).1 ((lo + hi) / 2) hi (hi - lo) lo lo ((lo + hi) / 2) (srF t ((lo + hi) / 2) hi (srF t lo ((lo + hi) / 2) w)).2) lo (hi - lo),
     mgB (srF t ((lo + hi) / 2) hi (srF t lo ((lo + hi) / 2) w)).1 ((lo + hi) / 2) hi (hi - lo) lo lo ((lo + hi) / 2) (srF t ((lo + hi) / 2) hi (srF t lo ((lo + hi) / 2) w)).2)
abbrev eSo (e : G4) (w : (Nat → Int64) × (Nat → Int64)) : G4 := (e.1, w.1, e.2.2.1, w.2, e.2.2.2.2)
set_option maxRecDepth 100000 in
theorem m_sorts (adK : Nat → Nat) (d : Nat) : ∀ (t : Nat) (Y : MN) (P : Nat → MN) (a : G0) (b : G1) (c : G3) (e : G4) (f : G5) (g : G6) (h : G7) (lo hi : Nat), lo ≤ hi → hi ≤ e.1 → hi ≤ e.2.2.1 → e.1 ≤ 1000000 → e.2.2.1 ≤ 1000000 → hi - lo ≤ 2 ^ t → pnCt mX7_sorts adK (d + 2 + t) 0 0 [.ref 0, .int (nI lo), .int (nI hi)] (hM Y P a b c e f g h) (pnIs (.inl none) (hM Y P a b c (eSo e (srF t lo hi (e.2.1, e.2.2.2.1))) f g h)) := by
  intro t
  induction t with
  | zero =>
    intro Y P a b c e f g h lo hi h1 h2 h3 h4 h5 h6
    refine pnCt_of (by decide) kX7_sorts (Nat.le_of_ble_eq_true rfl) rfl hM_cl (pnCS_b rfl) ?_
    have h6 : hi - lo ≤ 1 := h6
    refine pn_iload_n (q := 1) dX7_sorts_0 rfl rfl ?_
    refine pn_iload_n (q := 2) dX7_sorts_1 rfl rfl ?_
    first | with_reducible refine pn_isubN (q := 3) dX7_sorts_2 rfl (by omega) ?_ | refine pn_isub (q := 3) dX7_sorts_2 rfl ?_
    refine pn_iconst (q := 4) (v := nI 2) dX7_sorts_3 rfl (by decide) ?_
    first | refine pn_nge (q := 7) (tgt := 8) dX7_sorts_4 (by decide) rfl (by omega) (by omega) (fun hc4 => ?_) (fun hc4 => ?_) | refine pn_icmp_ge (q := 7) (tgt := 8) dX7_sorts_4 (by decide) rfl (fun hc4 => ?_) (fun hc4 => ?_)
    · omega
    · refine pn_vret dX7_sorts_7 rfl ?_
      exact ⟨rfl, rfl⟩
  | succ t ih =>
    intro Y P a b c e f g h lo hi h1 h2 h3 h4 h5 h6
    refine pnCt_of (by decide) kX7_sorts (Nat.le_of_ble_eq_true rfl) rfl hM_cl (pnCS_b rfl) ?_
    have e0 : srF (t + 1) lo hi (e.2.1, e.2.2.2.1) = if hi - lo < 2 then (e.2.1, e.2.2.2.1) else (cpR (srF t ((lo + hi) / 2) hi (srF t lo ((lo + hi) / 2) (e.2.1, e.2.2.2.1))).1 (mgB (srF t ((lo + hi) / 2) hi (srF t lo ((lo + hi) / 2) (e.2.1, e.2.2.2.1))).1 ((lo + hi) / 2) hi (hi - lo) lo lo ((lo + hi) / 2) (srF t ((lo + hi) / 2) hi (srF t lo ((lo + hi) / 2) (e.2.1, e.2.2.2.1))).2) lo (hi - lo), mgB (srF t ((lo + hi) / 2) hi (srF t lo ((lo + hi) / 2) (e.2.1, e.2.2.2.1))).1 ((lo + hi) / 2) hi (hi - lo) lo lo ((lo + hi) / 2) (srF t ((lo + hi) / 2) hi (srF t lo ((lo + hi) / 2) (e.2.1, e.2.2.2.1))).2) := rfl
    rw [e0]
    by_cases hs : hi - lo < 2
    · rw [if_pos hs]
      refine pn_iload_n (q := 1) dX7_sorts_0 rfl rfl ?_
      refine pn_iload_n (q := 2) dX7_sorts_1 rfl rfl ?_
      first | with_reducible refine pn_isubN (q := 3) dX7_sorts_2 rfl (by omega) ?_ | refine pn_isub (q := 3) dX7_sorts_2 rfl ?_
      refine pn_iconst (q := 4) (v := nI 2) dX7_sorts_3 rfl (by decide) ?_
      first | refine pn_nge (q := 7) (tgt := 8) dX7_sorts_4 (by decide) rfl (by omega) (by omega) (fun hc4 => ?_) (fun hc4 => ?_) | refine pn_icmp_ge (q := 7) (tgt := 8) dX7_sorts_4 (by decide) rfl (fun hc4 => ?_) (fun hc4 => ?_)
      · omega
      · refine pn_vret dX7_sorts_7 rfl ?_
        exact ⟨rfl, rfl⟩
    · rw [if_neg hs]
      have hp : 2 ^ (t + 1) = 2 * 2 ^ t := by rw [Nat.pow_succ]; omega
      obtain ⟨mid, hmid⟩ : ∃ mid, mid = (lo + hi) / 2 := ⟨_, rfl⟩
      rw [← hmid]
      have CA := ih Y P a b c e f g h lo mid (by omega) (by omega) (by omega) h4 h5 (by omega)
      generalize srF t lo mid (e.2.1, e.2.2.2.1) = w1 at *
      have CB := ih Y P a b c (eSo e w1) f g h mid hi (by omega) h2 h3 h4 h5 (by omega)
      have CB2 : pnCt mX7_sorts adK (d + 2 + t) 0 0 [.ref 0, .int (nI mid), .int (nI hi)] (hM Y P a b c (eSo e w1) f g h) (pnIs (.inl none) (hM Y P a b c (eSo e (srF t mid hi w1)) f g h)) := CB
      generalize srF t mid hi w1 = w2 at *
      have copy : ∀ (B : Nat → Int64) (z i : Nat), i + z = hi - lo → ∀ m4 m5 : Nat, pnWP mX7_sorts adK (d + 2 + (t + 1)) (pnIs (.inl none) (hM Y P a b c (eSo e (cpR w2.1 B lo (hi - lo), B)) f g h)) 0 0 (hM Y P a b c (eSo e (cpR w2.1 B lo i, B)) f g h) [some (.ref 0), some (.int (nI lo)), some (.int (nI hi)), some (.int (nI mid)), some (.int (nI m4)), some (.int (nI m5)), some (.int (nI (lo + i)))] [] 132 := by
        intro B z
        induction z with
        | zero =>
          intro i hi0 m4 m5
          have hii : i = hi - lo := by omega
          subst hii
          refine pn_iload (q := 134) dX7_sorts_132 rfl rfl ?_
          refine pn_iload_n (q := 135) dX7_sorts_134 rfl rfl ?_
          first | refine pn_nge (q := 138) (tgt := 158) dX7_sorts_135 (by decide) rfl (by omega) (by omega) (fun hc135 => ?_) (fun hc135 => ?_) | refine pn_icmp_ge (q := 138) (tgt := 158) dX7_sorts_135 (by decide) rfl (fun hc135 => ?_) (fun hc135 => ?_)
          · refine pn_vret dX7_sorts_158 rfl ?_
            exact ⟨rfl, rfl⟩
          · omega
        | succ z ih2 =>
          intro i hi0 m4 m5
          refine pn_iload (q := 134) dX7_sorts_132 rfl rfl ?_
          refine pn_iload_n (q := 135) dX7_sorts_134 rfl rfl ?_
          first | refine pn_nge (q := 138) (tgt := 158) dX7_sorts_135 (by decide) rfl (by omega) (by omega) (fun hc135 => ?_) (fun hc135 => ?_) | refine pn_icmp_ge (q := 138) (tgt := 158) dX7_sorts_135 (by decide) rfl (fun hc135 => ?_) (fun hc135 => ?_)
          · omega
          · refine pn_aload_n (q := 139) dX7_sorts_138 rfl rfl rfl ?_
            refine pn_get (q := 142) fX7_41 dX7_sorts_139 rfl rfl rfl ?_
            refine pn_iload (q := 144) dX7_sorts_142 rfl rfl ?_
            refine pn_aload_n (q := 145) dX7_sorts_144 rfl rfl rfl ?_
            refine pn_get (q := 148) fX7_44 dX7_sorts_145 rfl rfl rfl ?_
            refine pn_iload (q := 150) dX7_sorts_148 rfl rfl ?_
            refine pn_lald5 (q := 151) dX7_sorts_150 rfl rfl rfl (by show lo + i < e.2.2.1; omega) (by show e.2.2.1 < _; omega) ?_
            refine pn_last5 (q := 152) dX7_sorts_151 rfl rfl rfl (by show lo + i < e.1; omega) (by show e.1 < _; omega) ?_
            first | refine pn_iinc1 (q := 155) dX7_sorts_152 rfl rfl (by decide) ?_ | refine pn_iinc (q := 155) (mm := 1) dX7_sorts_152 rfl rfl (by decide) (by decide) ?_
            refine pn_goto (q := 132) dX7_sorts_155 (by decide) ?_
            exact pn_take 7 (ih2 (i + 1) (by omega) m4 m5)
      have merge : ∀ (z k x y : Nat) (B : Nat → Int64), k + z = hi → lo ≤ x → x ≤ mid → mid ≤ y → y ≤ hi → x + y = k + mid → mgB w2.1 mid hi z k x y B = mgB w2.1 mid hi (hi - lo) lo lo mid w2.2 → pnWP mX7_sorts adK (d + 2 + (t + 1)) (pnIs (.inl none) (hM Y P a b c (eSo e (cpR w2.1 (mgB w2.1 mid hi (hi - lo) lo lo mid w2.2) lo (hi - lo), mgB w2.1 mid hi (hi - lo) lo lo mid w2.2)) f g h)) 0 0 (hM Y P a b c (eSo e (w2.1, B)) f g h) [some (.ref 0), some (.int (nI lo)), some (.int (nI hi)), some (.int (nI mid)), some (.int (nI x)), some (.int (nI y)), some (.int (nI k))] [] 35 := by
        intro z
        induction z with
        | zero =>
          intro k x y B hk q1 q2 q3 q4 q5 e9
          have e8 : B = mgB w2.1 mid hi (hi - lo) lo lo mid w2.2 := e9
          rw [← e8]
          have k9 := copy B (hi - lo) 0 (by omega) x y
          refine pn_iload (q := 37) dX7_sorts_35 rfl rfl ?_
          refine pn_iload_n (q := 38) dX7_sorts_37 rfl rfl ?_
          first | refine pn_nge (q := 41) (tgt := 129) dX7_sorts_38 (by decide) rfl (by omega) (by omega) (fun hc38 => ?_) (fun hc38 => ?_) | refine pn_icmp_ge (q := 41) (tgt := 129) dX7_sorts_38 (by decide) rfl (fun hc38 => ?_) (fun hc38 => ?_)
          · refine pn_iload_n (q := 130) dX7_sorts_129 rfl rfl ?_
            refine pn_istore (q := 132) dX7_sorts_130 rfl (by decide) ?_
            exact pn_take 7 k9
          · omega
        | succ z ih2 =>
          intro k x y B hk q1 q2 q3 q4 q5 e9
          have e7 : mgB w2.1 mid hi (z + 1) k x y B = if y = hi ∨ (x < mid ∧ cfN (w2.1 x) (w2.1 y) = true) then mgB w2.1 mid hi z (k + 1) (x + 1) y (vp_updL B k (w2.1 x)) else mgB w2.1 mid hi z (k + 1) x (y + 1) (vp_updL B k (w2.1 y)) := rfl
          have one : (y = hi ∨ (x < mid ∧ cfN (w2.1 x) (w2.1 y) = true)) → pnWP mX7_sorts adK (d + 2 + (t + 1)) (pnIs (.inl none) (hM Y P a b c (eSo e (cpR w2.1 (mgB w2.1 mid hi (hi - lo) lo lo mid w2.2) lo (hi - lo), mgB w2.1 mid hi (hi - lo) lo lo mid w2.2)) f g h)) 0 0 (hM Y P a b c (eSo e (w2.1, B)) f g h) [some (.ref 0), some (.int (nI lo)), some (.int (nI hi)), some (.int (nI mid)), some (.int (nI x)), some (.int (nI y)), some (.int (nI k))] [.int (nB true)] 78 := by
            intro hc
            have hx : x < mid := by rcases hc with q | q; omega; exact q.1
            rw [e7, if_pos hc] at e9
            have k9 := ih2 (k + 1) (x + 1) y (vp_updL B k (w2.1 x)) (by omega) (by omega) (by omega) (by omega) (by omega) (by omega) e9
            refine pn_istore (q := 80) dX7_sorts_78 rfl (by decide) ?_
            refine pn_aload_n (q := 81) dX7_sorts_80 rfl rfl rfl ?_
            refine pn_get (q := 84) fX7_44 dX7_sorts_81 rfl rfl rfl ?_
            refine pn_iload (q := 86) dX7_sorts_84 rfl rfl ?_
            refine pn_iload (q := 88) dX7_sorts_86 rfl rfl ?_
            refine pn_beq (q := 91) (tgt := 101) dX7_sorts_88 (by decide) rfl (fun hc88 => ?_) (fun hc88 => ?_)
            · cases hc88
            · refine pn_aload_n (q := 92) dX7_sorts_91 rfl rfl rfl ?_
              refine pn_get (q := 95) fX7_41 dX7_sorts_92 rfl rfl rfl ?_
              refine pn_iload (q := 97) dX7_sorts_95 rfl rfl ?_
              refine pn_lald5 (q := 98) dX7_sorts_97 rfl rfl rfl (by show x < e.1; omega) (by show e.1 < _; omega) ?_
              refine pn_goto (q := 108) dX7_sorts_98 (by decide) ?_
              refine pn_last5 (q := 109) dX7_sorts_108 rfl rfl rfl (by show k < e.2.2.1; omega) (by show e.2.2.1 < _; omega) ?_
              refine pn_iload (q := 111) dX7_sorts_109 rfl rfl ?_
              refine pn_beq (q := 114) (tgt := 120) dX7_sorts_111 (by decide) rfl (fun hc111 => ?_) (fun hc111 => ?_)
              · cases hc111
              · first | refine pn_iinc1 (q := 117) dX7_sorts_114 rfl rfl (by decide) ?_ | refine pn_iinc (q := 117) (mm := 1) dX7_sorts_114 rfl rfl (by decide) (by decide) ?_
                refine pn_goto (q := 123) dX7_sorts_117 (by decide) ?_
                first | refine pn_iinc1 (q := 126) dX7_sorts_123 rfl rfl (by decide) ?_ | refine pn_iinc (q := 126) (mm := 1) dX7_sorts_123 rfl rfl (by decide) (by decide) ?_
                refine pn_goto (q := 35) dX7_sorts_126 (by decide) ?_
                exact pn_take 7 k9
          have two : ¬ (y = hi ∨ (x < mid ∧ cfN (w2.1 x) (w2.1 y) = true)) → pnWP mX7_sorts adK (d + 2 + (t + 1)) (pnIs (.inl none) (hM Y P a b c (eSo e (cpR w2.1 (mgB w2.1 mid hi (hi - lo) lo lo mid w2.2) lo (hi - lo), mgB w2.1 mid hi (hi - lo) lo lo mid w2.2)) f g h)) 0 0 (hM Y P a b c (eSo e (w2.1, B)) f g h) [some (.ref 0), some (.int (nI lo)), some (.int (nI hi)), some (.int (nI mid)), some (.int (nI x)), some (.int (nI y)), some (.int (nI k))] [.int (nB false)] 78 := by
            intro hc
            have hy : y < hi := by rcases Nat.lt_or_ge y hi with q | q; exact q; exact absurd (Or.inl (by omega)) hc
            rw [e7, if_neg hc] at e9
            have k9 := ih2 (k + 1) x (y + 1) (vp_updL B k (w2.1 y)) (by omega) (by omega) (by omega) (by omega) (by omega) (by omega) e9
            refine pn_istore (q := 80) dX7_sorts_78 rfl (by decide) ?_
            refine pn_aload_n (q := 81) dX7_sorts_80 rfl rfl rfl ?_
            refine pn_get (q := 84) fX7_44 dX7_sorts_81 rfl rfl rfl ?_
            refine pn_iload (q := 86) dX7_sorts_84 rfl rfl ?_
            refine pn_iload (q := 88) dX7_sorts_86 rfl rfl ?_
            refine pn_beq (q := 91) (tgt := 101) dX7_sorts_88 (by decide) rfl (fun hc88 => ?_) (fun hc88 => ?_)
            · refine pn_aload_n (q := 102) dX7_sorts_101 rfl rfl rfl ?_
              refine pn_get (q := 105) fX7_41 dX7_sorts_102 rfl rfl rfl ?_
              refine pn_iload (q := 107) dX7_sorts_105 rfl rfl ?_
              refine pn_lald5 (q := 108) dX7_sorts_107 rfl rfl rfl (by show y < e.1; omega) (by show e.1 < _; omega) ?_
              refine pn_last5 (q := 109) dX7_sorts_108 rfl rfl rfl (by show k < e.2.2.1; omega) (by show e.2.2.1 < _; omega) ?_
              refine pn_iload (q := 111) dX7_sorts_109 rfl rfl ?_
              refine pn_beq (q := 114) (tgt := 120) dX7_sorts_111 (by decide) rfl (fun hc111 => ?_) (fun hc111 => ?_)
              · first | refine pn_iinc1 (q := 123) dX7_sorts_120 rfl rfl (by decide) ?_ | refine pn_iinc (q := 123) (mm := 1) dX7_sorts_120 rfl rfl (by decide) (by decide) ?_
                first | refine pn_iinc1 (q := 126) dX7_sorts_123 rfl rfl (by decide) ?_ | refine pn_iinc (q := 126) (mm := 1) dX7_sorts_123 rfl rfl (by decide) (by decide) ?_
                refine pn_goto (q := 35) dX7_sorts_126 (by decide) ?_
                exact pn_take 7 k9
              · cases hc111
            · cases hc88
          by_cases hy : y = hi
          · refine pn_iload (q := 37) dX7_sorts_35 rfl rfl ?_
            refine pn_iload_n (q := 38) dX7_sorts_37 rfl rfl ?_
            first | refine pn_nge (q := 41) (tgt := 129) dX7_sorts_38 (by decide) rfl (by omega) (by omega) (fun hc38 => ?_) (fun hc38 => ?_) | refine pn_icmp_ge (q := 41) (tgt := 129) dX7_sorts_38 (by decide) rfl (fun hc38 => ?_) (fun hc38 => ?_)
            · omega
            · refine pn_iload (q := 43) dX7_sorts_41 rfl rfl ?_
              refine pn_iload_n (q := 44) dX7_sorts_43 rfl rfl ?_
              first | refine pn_neq (q := 47) (tgt := 73) dX7_sorts_44 (by decide) rfl (by omega) (by omega) (fun hc44 => ?_) (fun hc44 => ?_) | refine pn_icmp_eq (q := 47) (tgt := 73) dX7_sorts_44 (by decide) rfl (fun hc44 => ?_) (fun hc44 => ?_)
              · refine pn_iconst (q := 74) (v := nB true) dX7_sorts_73 rfl (by decide) ?_
                refine pn_goto (q := 78) dX7_sorts_74 (by decide) ?_
                exact one (Or.inl hy)
              · omega
          · by_cases hx : x < mid
            · have CH := m_ahead adK (d + t) (w2.1 x) (w2.1 y)
              cases hcf : cfN (w2.1 x) (w2.1 y) with
              | true =>
                rw [hcf] at CH
                refine pn_iload (q := 37) dX7_sorts_35 rfl rfl ?_
                refine pn_iload_n (q := 38) dX7_sorts_37 rfl rfl ?_
                first | refine pn_nge (q := 41) (tgt := 129) dX7_sorts_38 (by decide) rfl (by omega) (by omega) (fun hc38 => ?_) (fun hc38 => ?_) | refine pn_icmp_ge (q := 41) (tgt := 129) dX7_sorts_38 (by decide) rfl (fun hc38 => ?_) (fun hc38 => ?_)
                · omega
                · refine pn_iload (q := 43) dX7_sorts_41 rfl rfl ?_
                  refine pn_iload_n (q := 44) dX7_sorts_43 rfl rfl ?_
                  first | refine pn_neq (q := 47) (tgt := 73) dX7_sorts_44 (by decide) rfl (by omega) (by omega) (fun hc44 => ?_) (fun hc44 => ?_) | refine pn_icmp_eq (q := 47) (tgt := 73) dX7_sorts_44 (by decide) rfl (fun hc44 => ?_) (fun hc44 => ?_)
                  · omega
                  · refine pn_iload (q := 49) dX7_sorts_47 rfl rfl ?_
                    refine pn_iload_n (q := 50) dX7_sorts_49 rfl rfl ?_
                    first | refine pn_nge (q := 53) (tgt := 77) dX7_sorts_50 (by decide) rfl (by omega) (by omega) (fun hc50 => ?_) (fun hc50 => ?_) | refine pn_icmp_ge (q := 53) (tgt := 77) dX7_sorts_50 (by decide) rfl (fun hc50 => ?_) (fun hc50 => ?_)
                    · omega
                    · refine pn_aload_n (q := 54) dX7_sorts_53 rfl rfl rfl ?_
                      refine pn_get (q := 57) fX7_41 dX7_sorts_54 rfl rfl rfl ?_
                      refine pn_iload (q := 59) dX7_sorts_57 rfl rfl ?_
                      refine pn_lald5 (q := 60) dX7_sorts_59 rfl rfl rfl (by show x < e.1; omega) (by show e.1 < _; omega) ?_
                      refine pn_aload_n (q := 61) dX7_sorts_60 rfl rfl rfl ?_
                      refine pn_get (q := 64) fX7_41 dX7_sorts_61 rfl rfl rfl ?_
                      refine pn_iload (q := 66) dX7_sorts_64 rfl rfl ?_
                      refine pn_lald5 (q := 67) dX7_sorts_66 rfl rfl rfl (by show y < e.1; omega) (by show e.1 < _; omega) ?_
                      refine pn_roS1 (q := 70) (CH) lkX7_251 dX7_sorts_67 rfl rfl (pnSel_of (I := []) rfl rfl) (pnFree_none rfl) rfl (by omega) (Nat.le_of_ble_eq_true rfl) rfl ?_
                      refine pn_beq (q := 73) (tgt := 77) dX7_sorts_70 (by decide) rfl (fun hc70 => ?_) (fun hc70 => ?_)
                      · cases hc70
                      · refine pn_iconst (q := 74) (v := nB true) dX7_sorts_73 rfl (by decide) ?_
                        refine pn_goto (q := 78) dX7_sorts_74 (by decide) ?_
                        exact one (Or.inr ⟨hx, hcf⟩)
              | false =>
                rw [hcf] at CH
                refine pn_iload (q := 37) dX7_sorts_35 rfl rfl ?_
                refine pn_iload_n (q := 38) dX7_sorts_37 rfl rfl ?_
                first | refine pn_nge (q := 41) (tgt := 129) dX7_sorts_38 (by decide) rfl (by omega) (by omega) (fun hc38 => ?_) (fun hc38 => ?_) | refine pn_icmp_ge (q := 41) (tgt := 129) dX7_sorts_38 (by decide) rfl (fun hc38 => ?_) (fun hc38 => ?_)
                · omega
                · refine pn_iload (q := 43) dX7_sorts_41 rfl rfl ?_
                  refine pn_iload_n (q := 44) dX7_sorts_43 rfl rfl ?_
                  first | refine pn_neq (q := 47) (tgt := 73) dX7_sorts_44 (by decide) rfl (by omega) (by omega) (fun hc44 => ?_) (fun hc44 => ?_) | refine pn_icmp_eq (q := 47) (tgt := 73) dX7_sorts_44 (by decide) rfl (fun hc44 => ?_) (fun hc44 => ?_)
                  · omega
                  · refine pn_iload (q := 49) dX7_sorts_47 rfl rfl ?_
                    refine pn_iload_n (q := 50) dX7_sorts_49 rfl rfl ?_
                    first | refine pn_nge (q := 53) (tgt := 77) dX7_sorts_50 (by decide) rfl (by omega) (by omega) (fun hc50 => ?_) (fun hc50 => ?_) | refine pn_icmp_ge (q := 53) (tgt := 77) dX7_sorts_50 (by decide) rfl (fun hc50 => ?_) (fun hc50 => ?_)
                    · omega
                    · refine pn_aload_n (q := 54) dX7_sorts_53 rfl rfl rfl ?_
                      refine pn_get (q := 57) fX7_41 dX7_sorts_54 rfl rfl rfl ?_
                      refine pn_iload (q := 59) dX7_sorts_57 rfl rfl ?_
                      refine pn_lald5 (q := 60) dX7_sorts_59 rfl rfl rfl (by show x < e.1; omega) (by show e.1 < _; omega) ?_
                      refine pn_aload_n (q := 61) dX7_sorts_60 rfl rfl rfl ?_
                      refine pn_get (q := 64) fX7_41 dX7_sorts_61 rfl rfl rfl ?_
                      refine pn_iload (q := 66) dX7_sorts_64 rfl rfl ?_
                      refine pn_lald5 (q := 67) dX7_sorts_66 rfl rfl rfl (by show y < e.1; omega) (by show e.1 < _; omega) ?_
                      refine pn_roS1 (q := 70) (CH) lkX7_251 dX7_sorts_67 rfl rfl (pnSel_of (I := []) rfl rfl) (pnFree_none rfl) rfl (by omega) (Nat.le_of_ble_eq_true rfl) rfl ?_
                      refine pn_beq (q := 73) (tgt := 77) dX7_sorts_70 (by decide) rfl (fun hc70 => ?_) (fun hc70 => ?_)
                      · refine pn_iconst (q := 78) (v := nB false) dX7_sorts_77 rfl (by decide) ?_
                        exact two (fun q => by rcases q with q | q; exact hy q; rw [hcf] at q; exact Bool.false_ne_true q.2)
                      · cases hc70
            · refine pn_iload (q := 37) dX7_sorts_35 rfl rfl ?_
              refine pn_iload_n (q := 38) dX7_sorts_37 rfl rfl ?_
              first | refine pn_nge (q := 41) (tgt := 129) dX7_sorts_38 (by decide) rfl (by omega) (by omega) (fun hc38 => ?_) (fun hc38 => ?_) | refine pn_icmp_ge (q := 41) (tgt := 129) dX7_sorts_38 (by decide) rfl (fun hc38 => ?_) (fun hc38 => ?_)
              · omega
              · refine pn_iload (q := 43) dX7_sorts_41 rfl rfl ?_
                refine pn_iload_n (q := 44) dX7_sorts_43 rfl rfl ?_
                first | refine pn_neq (q := 47) (tgt := 73) dX7_sorts_44 (by decide) rfl (by omega) (by omega) (fun hc44 => ?_) (fun hc44 => ?_) | refine pn_icmp_eq (q := 47) (tgt := 73) dX7_sorts_44 (by decide) rfl (fun hc44 => ?_) (fun hc44 => ?_)
                · omega
                · refine pn_iload (q := 49) dX7_sorts_47 rfl rfl ?_
                  refine pn_iload_n (q := 50) dX7_sorts_49 rfl rfl ?_
                  first | refine pn_nge (q := 53) (tgt := 77) dX7_sorts_50 (by decide) rfl (by omega) (by omega) (fun hc50 => ?_) (fun hc50 => ?_) | refine pn_icmp_ge (q := 53) (tgt := 77) dX7_sorts_50 (by decide) rfl (fun hc50 => ?_) (fun hc50 => ?_)
                  · refine pn_iconst (q := 78) (v := nB false) dX7_sorts_77 rfl (by decide) ?_
                    exact two (fun q => by rcases q with q | q; exact hy q; exact hx q.1)
                  · omega
      refine pn_iload_n (q := 1) dX7_sorts_0 rfl rfl ?_
      refine pn_iload_n (q := 2) dX7_sorts_1 rfl rfl ?_
      first | with_reducible refine pn_isubN (q := 3) dX7_sorts_2 rfl (by omega) ?_ | refine pn_isub (q := 3) dX7_sorts_2 rfl ?_
      refine pn_iconst (q := 4) (v := nI 2) dX7_sorts_3 rfl (by decide) ?_
      first | refine pn_nge (q := 7) (tgt := 8) dX7_sorts_4 (by decide) rfl (by omega) (by omega) (fun hc4 => ?_) (fun hc4 => ?_) | refine pn_icmp_ge (q := 7) (tgt := 8) dX7_sorts_4 (by decide) rfl (fun hc4 => ?_) (fun hc4 => ?_)
      · refine pn_iload_n (q := 9) dX7_sorts_8 rfl rfl ?_
        refine pn_iload_n (q := 10) dX7_sorts_9 rfl rfl ?_
        first | with_reducible refine pn_iaddN (q := 11) dX7_sorts_10 rfl ?_ | refine pn_iadd (q := 11) dX7_sorts_10 rfl ?_
        refine pn_iconst (q := 12) (v := nI 2) dX7_sorts_11 rfl (by decide) ?_
        refine pn_idivN (q := 13) dX7_sorts_12 rfl ⟨by omega, by omega, by omega⟩ ?_; rw [← hmid]
        refine pn_istore_n (q := 14) dX7_sorts_13 rfl (by decide) ?_
        refine pn_iload_n (q := 15) dX7_sorts_14 rfl rfl ?_
        refine pn_istore (q := 17) dX7_sorts_15 rfl (by decide) ?_
        refine pn_iload_n (q := 18) dX7_sorts_17 rfl rfl ?_
        refine pn_istore (q := 20) dX7_sorts_18 rfl (by decide) ?_
        refine pn_aload_n (q := 21) dX7_sorts_20 rfl rfl rfl ?_
        refine pn_iload_n (q := 22) dX7_sorts_21 rfl rfl ?_
        refine pn_iload_n (q := 23) dX7_sorts_22 rfl rfl ?_
        refine pn_idV (q := 26) (bc9 := 0) (bs9 := 0) (CA) lkX7_248 dX7_sorts_23 rfl rfl (hM_cl) (hM_cl) (Nat.le_of_ble_eq_true rfl) rfl rfl rfl rfl rfl rfl (by omega) (by omega) (by omega) (Nat.le_of_ble_eq_true rfl) ?_
        refine pn_aload_n (q := 27) dX7_sorts_26 rfl rfl rfl ?_
        refine pn_iload_n (q := 28) dX7_sorts_27 rfl rfl ?_
        refine pn_iload_n (q := 29) dX7_sorts_28 rfl rfl ?_
        refine pn_idV (q := 32) (bc9 := 0) (bs9 := 0) (CB2) lkX7_248 dX7_sorts_29 rfl rfl (hM_cl) (hM_cl) (Nat.le_of_ble_eq_true rfl) rfl rfl rfl rfl rfl rfl (by omega) (by omega) (by omega) (Nat.le_of_ble_eq_true rfl) ?_
        refine pn_iload_n (q := 33) dX7_sorts_32 rfl rfl ?_
        refine pn_istore (q := 35) dX7_sorts_33 rfl (by decide) ?_
        exact merge (hi - lo) lo lo mid w2.2 (by omega) (by omega) (by omega) (by omega) (by omega) (by omega) rfl
      · omega
