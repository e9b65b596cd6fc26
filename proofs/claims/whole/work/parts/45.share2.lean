def bI (a : Nat) : Int32 := 1 <<< (nI a &&& 31)
/-- the nodes below a that part i meets -/
def pnF (n : Nat) (ps : Nat → Int64) : Nat → Nat → Int32
  | 0, _ => 0
  | a + 1, i => if ps i &&& lasN n a n = 0 then pnF n ps a i else pnF n ps a i ||| bI a
def crN (n : Nat) (ps : Nat → Int64) (pc : Nat) : Nat → Nat
  | 0 => 0
  | a + 1 => max (crN n ps pc a) (pmN ps (lasN n a n) pc)
theorem pmN_le2 (ps : Nat → Int64) (x : Int64) : ∀ i, pmN ps x i ≤ i
  | 0 => Nat.le_refl _
  | i + 1 => by have := pmN_le2 ps x i; unfold pmN; split <;> omega
theorem crN_le (n : Nat) (ps : Nat → Int64) (pc : Nat) : ∀ a, crN n ps pc a ≤ pc
  | 0 => Nat.zero_le _
  | a + 1 => by
    have := crN_le n ps pc a
    have := pmN_le2 ps (lasN n a n) pc
    unfold crN
    omega
def fwN (pN : Nat → Int32) (parts : Nat) : Nat → Nat → Nat
  | 0, _ => parts
  | z + 1, l => if plB pN l parts 0 0 (fun _ => 0) = true then l else fwN pN parts z (l + 1)
theorem plB_congr {pN pN' : Nat → Int32} {l parts : Nat} (h : ∀ j, j < parts → pN j = pN' j) : ∀ (z part used : Nat) (cl : Nat → Int32), part + z = parts → plB pN l z part used cl = plB pN' l z part used cl
  | 0, _, _, _, _ => rfl
  | z + 1, part, used, cl, hz => by
    rw [plB_s, plB_s]
    refine anyF_congr _ _ (fun j => ?_)
    unfold plG
    rw [h part (by omega), plB_congr h z (part + 1) _ _ (by omega)]
theorem fwN_congr {pN pN' : Nat → Int32} {parts : Nat} (h : ∀ j, j < parts → pN j = pN' j) : ∀ (z l : Nat), fwN pN parts z l = fwN pN' parts z l
  | 0, _ => rfl
  | z + 1, l => by
    unfold fwN
    rw [plB_congr h parts 0 0 _ (by omega), fwN_congr h z (l + 1)]
def fwR (n : Nat) (ps : Nat → Int64) (pc : Nat) : Nat := fwN (pnF n ps n) (min pc 14) (min pc 14 - crN n ps pc n) (crN n ps pc n)
def qA (n : Nat) (ps : Nat → Int64) (parts : Nat) (p0 : Nat → Int32) (a i : Nat) : Nat → Int32 := fun j => if j < parts then (if j < i then pnF n ps (a + 1) j else pnF n ps a j) else p0 j
theorem qA_at {n : Nat} {ps : Nat → Int64} {parts : Nat} {p0 : Nat → Int32} {a i : Nat} (h : i < parts) : qA n ps parts p0 a i i = pnF n ps a i := by
  unfold qA
  rw [if_pos h, if_neg (by omega)]
theorem qA_up {n : Nat} {ps : Nat → Int64} {parts : Nat} {p0 : Nat → Int32} {a i : Nat} (h : i < parts) : upd (qA n ps parts p0 a i) i (pnF n ps (a + 1) i) = qA n ps parts p0 a (i + 1) := by
  funext j
  unfold upd qA
  by_cases e : j = i
  · subst e; simp [h]
  · by_cases e1 : j < parts
    · by_cases e2 : j < i
      · simp [e, e1, e2, Nat.lt_succ_of_lt e2]
      · have : ¬ j < i + 1 := by omega
        simp [e, e1, e2, this]
    · simp [e, e1]
theorem qA_same {n : Nat} {ps : Nat → Int64} {parts : Nat} {p0 : Nat → Int32} {a i : Nat} (h : i < parts) (h2 : ps i &&& lasN n a n = 0) : qA n ps parts p0 a i = qA n ps parts p0 a (i + 1) := by
  rw [← qA_up h]
  have e : pnF n ps (a + 1) i = pnF n ps a i := if_pos h2
  rw [e, ← qA_at (p0 := p0) h]
  funext j
  unfold upd
  split
  · subst ‹_›; rfl
  · rfl
theorem qA_or {n : Nat} {ps : Nat → Int64} {parts : Nat} {p0 : Nat → Int32} {a i : Nat} (h : i < parts) (h2 : ¬ ps i &&& lasN n a n = 0) : upd (qA n ps parts p0 a i) i (qA n ps parts p0 a i i ||| bI a) = qA n ps parts p0 a (i + 1) := by
  rw [← qA_up h]
  have e : pnF n ps (a + 1) i = pnF n ps a i ||| bI a := if_neg h2
  rw [e, qA_at h]
theorem qA_end {n : Nat} {ps : Nat → Int64} {parts : Nat} {p0 : Nat → Int32} {a : Nat} : qA n ps parts p0 a parts = qA n ps parts p0 (a + 1) 0 := by
  funext j
  unfold qA
  by_cases e : j < parts <;> simp [e]
set_option maxRecDepth 100000 in
theorem c_fewest (adK : Nat → Nat) (d : Nat) (parts0 : Nat) (p0 cl0 : Nat → Int32) (n : Nat) (g : Int64) (sh k pc bc : Nat) (ps : Nat → Int64) (bs sf : Nat → Int32) (hn : n ≤ 11) (hpc : pc ≤ 55) : pnCt mX4_fewest adK (d + 16) 0 0 [.ref 0, .ref 3] (hSha parts0 p0 cl0 ++ (hNetO 3 n g sh k pc bc ps bs sf)) (pnEx (fun _ : (Nat → Int32) × (Nat → Int32) => some (.int (nI (fwR n ps pc)))) (fun s => hSha (min pc 14) s.1 s.2 ++ (hNetO 3 n g sh k pc bc ps bs sf))) := by
  refine pnCt_of (by decide) kX4_fewest (Nat.le_of_ble_eq_true rfl) rfl (pnCH_b rfl) (pnCS_b rfl) ?_
  obtain ⟨P, hP⟩ : ∃ P, P = min pc 14 := ⟨_, rfl⟩
  have hP14 : P ≤ 14 ∧ P ≤ pc := by omega
  have lim : ∀ (z l : Nat) (p1 cl : Nat → Int32), (∀ j, j < P → p1 j = pnF n ps n j) → z = P - l → l ≤ 60 → fwN (pnF n ps n) P z l = fwR n ps pc → pnWP mX4_fewest adK (d + 16) (pnEx (fun _ : (Nat → Int32) × (Nat → Int32) => some (.int (nI (fwR n ps pc)))) (fun s => hSha (min pc 14) s.1 s.2 ++ (hNetO 3 n g sh k pc bc ps bs sf))) 0 0 (hSha P p1 cl ++ (hNetO 3 n g sh k pc bc ps bs sf)) [some (.ref 0), some (.ref 3), none, some (.int (nI l))] [] 120 := by
    intro z
    induction z with
    | zero =>
      intro l p1 cl hp hz hl e
      have e : P = fwR n ps pc := e
      refine pn_iload_n (q := 121) dX4_fewest_120 rfl rfl ?_
      refine pn_aload_n (q := 122) dX4_fewest_121 rfl rfl rfl ?_
      refine pn_get (q := 125) fX4_18 dX4_fewest_122 rfl rfl rfl ?_
      first | refine pn_nge (q := 128) (tgt := 154) dX4_fewest_125 (by decide) rfl (by omega) (by omega) (fun hc125 => ?_) (fun hc125 => ?_) | refine pn_icmp_ge (q := 128) (tgt := 154) dX4_fewest_125 (by decide) rfl (fun hc125 => ?_) (fun hc125 => ?_)
      · refine pn_aload_n (q := 155) dX4_fewest_154 rfl rfl rfl ?_
        refine pn_get (q := 158) fX4_18 dX4_fewest_155 rfl rfl rfl ?_
        refine pn_iret dX4_fewest_158 rfl ?_
        rw [hP] at *; exact ⟨(p1, cl), by rw [← e], rfl⟩
      · omega
    | succ z ih =>
      intro l p1 cl hp hz hl e
      have e2 : fwN (pnF n ps n) P (z + 1) l = if plB (pnF n ps n) l P 0 0 (fun _ => 0) = true then l else fwN (pnF n ps n) P z (l + 1) := rfl
      have C9 := c_place adK d P p1 l (by omega) (by omega) P 0 0 (fun _ => 0) (by omega) (by omega)
      rw [plB_congr (pN := p1) (pN' := pnF n ps n) hp P 0 0 _ (by omega)] at C9
      refine pn_iload_n (q := 121) dX4_fewest_120 rfl rfl ?_
      refine pn_aload_n (q := 122) dX4_fewest_121 rfl rfl rfl ?_
      refine pn_get (q := 125) fX4_18 dX4_fewest_122 rfl rfl rfl ?_
      first | refine pn_nge (q := 128) (tgt := 154) dX4_fewest_125 (by decide) rfl (by omega) (by omega) (fun hc125 => ?_) (fun hc125 => ?_) | refine pn_icmp_ge (q := 128) (tgt := 154) dX4_fewest_125 (by decide) rfl (fun hc125 => ?_) (fun hc125 => ?_)
      · omega
      · refine pn_aload_n (q := 129) dX4_fewest_128 rfl rfl rfl ?_
        refine pn_get (q := 132) fX4_15 dX4_fewest_129 rfl rfl rfl ?_
        refine pn_iconst (q := 133) (v := nI 0) dX4_fewest_132 rfl (by decide) ?_
        refine pn_upS0 (q := 136) (bc9 := 0) (bs9 := 0) (c_fill adK d 14 cl 0 (by omega)) lkX4_50 dX4_fewest_133 rfl rfl (pnSel_of (I := [2]) rfl rfl) (pnFree_none rfl) rfl (by omega) (by omega) (by omega) (Nat.le_of_ble_eq_true rfl) ?_
        refine pn_eq (h' := (hSha P p1 (fun _ => 0) ++ (hNetO 3 n g sh k pc bc ps bs sf))) (st' := _) rfl rfl ?_
        refine pn_aload_n (q := 137) dX4_fewest_136 rfl rfl rfl ?_
        refine pn_iconst (q := 138) (v := nI 0) dX4_fewest_137 rfl (by decide) ?_
        refine pn_iconst (q := 139) (v := nI 0) dX4_fewest_138 rfl (by decide) ?_
        refine pn_iload_n (q := 140) dX4_fewest_139 rfl rfl ?_
        refine pn_ePV1 (q := 143) (bc9 := 0) (bs9 := 0) (C9) lkX4_56 dX4_fewest_140 rfl rfl (pnSel_of (I := [0, 1, 2]) rfl rfl) (pnFree_none rfl) rfl rfl rfl (by omega) (by omega) (by omega) (Nat.le_of_ble_eq_true rfl) (fun _ => rfl) (fun s hs => ?_)
        refine pn_eq (h' := (hSha P p1 s ++ (hNetO 3 n g sh k pc bc ps bs sf))) (st' := _) rfl rfl ?_
        refine pn_beq (q := 146) (tgt := 148) dX4_fewest_143 (by decide) rfl (fun hc143 => ?_) (fun hc143 => ?_)
        · first | refine pn_iinc1 (q := 151) dX4_fewest_148 rfl rfl (by decide) ?_ | refine pn_iinc (q := 151) (mm := 1) dX4_fewest_148 rfl rfl (by decide) (by decide) ?_
          refine pn_goto (q := 120) dX4_fewest_151 (by decide) ?_
          exact ih (l + 1) p1 s hp (by omega) (by omega) (by rw [← e, e2, if_neg (by rw [hc143]; exact Bool.false_ne_true)])
        · refine pn_iload_n (q := 147) dX4_fewest_146 rfl rfl ?_
          refine pn_iret dX4_fewest_147 rfl ?_
          rw [hP] at *; exact ⟨(p1, s), by rw [← e, e2, if_pos hc143], rfl⟩
  have nodes : ∀ (z a : Nat), a + z = n → pnWP mX4_fewest adK (d + 16) (pnEx (fun _ : (Nat → Int32) × (Nat → Int32) => some (.int (nI (fwR n ps pc)))) (fun s => hSha (min pc 14) s.1 s.2 ++ (hNetO 3 n g sh k pc bc ps bs sf))) 0 0 (hSha P (qA n ps P p0 a 0) cl0 ++ (hNetO 3 n g sh k pc bc ps bs sf)) [some (.ref 0), some (.ref 3), some (.int (nI (crN n ps pc a))), some (.int (nI a))] [] 40 := by
    intro z
    induction z with
    | zero =>
      intro a ha
      have hc1 := crN_le n ps pc a
      have hj : ∀ j, j < P → qA n ps P p0 a 0 j = pnF n ps a j := fun j hj => by unfold qA; rw [if_pos hj, if_neg (by omega)]
      have han : a = n := by omega
      subst han
      refine pn_iload_n (q := 41) dX4_fewest_40 rfl rfl ?_
      refine pn_aload_n (q := 42) dX4_fewest_41 rfl rfl rfl ?_
      refine pn_get (q := 45) fX4_33 dX4_fewest_42 rfl rfl rfl ?_
      first | refine pn_nge (q := 48) (tgt := 118) dX4_fewest_45 (by decide) rfl (by omega) (by omega) (fun hc45 => ?_) (fun hc45 => ?_) | refine pn_icmp_ge (q := 48) (tgt := 118) dX4_fewest_45 (by decide) rfl (fun hc45 => ?_) (fun hc45 => ?_)
      · refine pn_iload_n (q := 119) dX4_fewest_118 rfl rfl ?_
        refine pn_istore_n (q := 120) dX4_fewest_119 rfl (by decide) ?_
        refine pn_locs (L' := [some (.ref 0), some (.ref 3), none, some (.int (nI (crN a ps pc a)))]) (And.intro rfl (And.intro rfl (And.intro rfl trivial))) ?_; exact lim (P - crN a ps pc a) (crN a ps pc a) _ cl0 hj rfl (by omega) (by rw [hP]; rfl)
      · omega
    | succ z ih =>
      intro a ha
      have hc1 := crN_le n ps pc a
      have hpm := pmN_le2 ps (lasN n a n) pc
      have inner : ∀ (w i : Nat), i + w = P → pnWP mX4_fewest adK (d + 16) (pnEx (fun _ : (Nat → Int32) × (Nat → Int32) => some (.int (nI (fwR n ps pc)))) (fun s => hSha (min pc 14) s.1 s.2 ++ (hNetO 3 n g sh k pc bc ps bs sf))) 0 0 (hSha P (qA n ps P p0 a i) cl0 ++ (hNetO 3 n g sh k pc bc ps bs sf)) [some (.ref 0), some (.ref 3), some (.int (nI (crN n ps pc (a + 1)))), some (.int (nI a)), some (.long (lasN n a n)), none, some (.int (nI i))] [] 69 := by
        intro w
        induction w with
        | zero =>
          intro i hw
          have hi : i = P := by omega
          subst hi
          rw [qA_end]
          refine pn_iload (q := 71) dX4_fewest_69 rfl rfl ?_
          refine pn_aload_n (q := 72) dX4_fewest_71 rfl rfl rfl ?_
          refine pn_get (q := 75) fX4_18 dX4_fewest_72 rfl rfl rfl ?_
          first | refine pn_nge (q := 78) (tgt := 112) dX4_fewest_75 (by decide) rfl (by omega) (by omega) (fun hc75 => ?_) (fun hc75 => ?_) | refine pn_icmp_ge (q := 78) (tgt := 112) dX4_fewest_75 (by decide) rfl (fun hc75 => ?_) (fun hc75 => ?_)
          · first | refine pn_iinc1 (q := 115) dX4_fewest_112 rfl rfl (by decide) ?_ | refine pn_iinc (q := 115) (mm := 1) dX4_fewest_112 rfl rfl (by decide) (by decide) ?_
            refine pn_goto (q := 40) dX4_fewest_115 (by decide) ?_
            exact pn_take 4 (ih (a + 1) (by omega))
          · omega
        | succ w iw =>
          intro i hw
          have k9 := iw (i + 1) (by omega)
          refine pn_iload (q := 71) dX4_fewest_69 rfl rfl ?_
          refine pn_aload_n (q := 72) dX4_fewest_71 rfl rfl rfl ?_
          refine pn_get (q := 75) fX4_18 dX4_fewest_72 rfl rfl rfl ?_
          first | refine pn_nge (q := 78) (tgt := 112) dX4_fewest_75 (by decide) rfl (by omega) (by omega) (fun hc75 => ?_) (fun hc75 => ?_) | refine pn_icmp_ge (q := 78) (tgt := 112) dX4_fewest_75 (by decide) rfl (fun hc75 => ?_) (fun hc75 => ?_)
          · omega
          · refine pn_aload_n (q := 79) dX4_fewest_78 rfl rfl rfl ?_
            refine pn_get (q := 82) fX4_47 dX4_fewest_79 rfl rfl rfl ?_
            refine pn_iload (q := 84) dX4_fewest_82 rfl rfl ?_
            first | refine pn_lald1 (q := 85) dX4_fewest_84 rfl rfl rfl (by omega) (by first | decide | omega) ?_ | refine pn_lald5 (q := 85) dX4_fewest_84 rfl rfl rfl (by omega) (by first | decide | omega) ?_
            refine pn_lload (q := 87) dX4_fewest_85 rfl rfl ?_
            refine pn_land (q := 88) dX4_fewest_87 rfl ?_
            refine pn_lconst (q := 89) (v := 0) dX4_fewest_88 rfl (by decide) ?_
            refine pn_leq (q1 := 90) (q := 93) (tgt := 106) dX4_fewest_89 rfl dX4_fewest_90 (by decide) rfl (fun hc89 => ?_) (fun hc89 => ?_)
            · first | refine pn_iinc1 (q := 109) dX4_fewest_106 rfl rfl (by decide) ?_ | refine pn_iinc (q := 109) (mm := 1) dX4_fewest_106 rfl rfl (by decide) (by decide) ?_
              refine pn_goto (q := 69) dX4_fewest_109 (by decide) ?_
              first | exact k9 | (rw [← qA_same (by omega) hc89] at k9; exact k9)
            · refine pn_aload_n (q := 94) dX4_fewest_93 rfl rfl rfl ?_
              refine pn_get (q := 97) fX4_9 dX4_fewest_94 rfl rfl rfl ?_
              refine pn_iload (q := 99) dX4_fewest_97 rfl rfl ?_
              first | refine pn_dup2 (q := 100) dX4_fewest_99 rfl rfl rfl ?_ | refine pn_dup2l (q := 100) dX4_fewest_99 rfl ?_
              refine pn_iald (q := 101) dX4_fewest_100 rfl rfl rfl (by omega) (by first | decide | omega) ?_
              refine pn_iconst (q := 102) (v := nI 1) dX4_fewest_101 rfl (by decide) ?_
              refine pn_iload_n (q := 103) dX4_fewest_102 rfl rfl ?_
              refine pn_ishl (q := 104) dX4_fewest_103 rfl ?_
              refine pn_ior (q := 105) dX4_fewest_104 rfl ?_
              refine pn_iast (q := 106) dX4_fewest_105 rfl rfl rfl (by omega) (by decide) ?_; refine pn_eq (h' := hSha P (qA n ps P p0 a (i + 1)) cl0 ++ (hNetO 3 n g sh k pc bc ps bs sf)) (st' := _) (by rw [← qA_or (by omega) hc89]; rfl) rfl ?_
              first | refine pn_iinc1 (q := 109) dX4_fewest_106 rfl rfl (by decide) ?_ | refine pn_iinc (q := 109) (mm := 1) dX4_fewest_106 rfl rfl (by decide) (by decide) ?_
              refine pn_goto (q := 69) dX4_fewest_109 (by decide) ?_
              first | exact k9 | (rw [← qA_same (by omega) hc89] at k9; exact k9)
      refine pn_iload_n (q := 41) dX4_fewest_40 rfl rfl ?_
      refine pn_aload_n (q := 42) dX4_fewest_41 rfl rfl rfl ?_
      refine pn_get (q := 45) fX4_33 dX4_fewest_42 rfl rfl rfl ?_
      first | refine pn_nge (q := 48) (tgt := 118) dX4_fewest_45 (by decide) rfl (by omega) (by omega) (fun hc45 => ?_) (fun hc45 => ?_) | refine pn_icmp_ge (q := 48) (tgt := 118) dX4_fewest_45 (by decide) rfl (fun hc45 => ?_) (fun hc45 => ?_)
      · omega
      · refine pn_aload_n (q := 49) dX4_fewest_48 rfl rfl rfl ?_
        refine pn_iload_n (q := 50) dX4_fewest_49 rfl rfl ?_
        refine pn_roV1 (q := 53) (c_linesAt adK d n g sh k pc bc ps bs sf a hn (by omega)) lkX4_36 dX4_fewest_50 rfl rfl (pnSel_of (I := [3, 4, 5, 6]) rfl rfl) (pnFree_none rfl) rfl rfl rfl (by omega) (Nat.le_of_ble_eq_true rfl) rfl ?_
        refine pn_lstore (q := 55) dX4_fewest_53 rfl (by decide) ?_
        refine pn_iload_n (q := 56) dX4_fewest_55 rfl rfl ?_
        refine pn_aload_n (q := 57) dX4_fewest_56 rfl rfl rfl ?_
        refine pn_lload (q := 59) dX4_fewest_57 rfl rfl ?_
        refine pn_roV1 (q := 62) (c_partsMeeting adK d n g sh k pc bc ps bs sf (lasN n a n) hpc) lkX4_40 dX4_fewest_59 rfl rfl (pnSel_of (I := [3, 4, 5, 6]) rfl rfl) (pnFree_none rfl) rfl rfl rfl (by omega) (Nat.le_of_ble_eq_true rfl) rfl ?_
        refine pn_roS1 (q := 65) (c_max adK d (crN n ps pc a) (pmN ps (lasN n a n) pc) (by omega) (by omega)) lkX4_44 dX4_fewest_62 rfl rfl (pnSel_of (I := []) rfl rfl) (pnFree_none rfl) rfl (by omega) (Nat.le_of_ble_eq_true rfl) rfl ?_
        refine pn_istore_n (q := 66) dX4_fewest_65 rfl (by decide) ?_
        refine pn_iconst (q := 67) (v := nI 0) dX4_fewest_66 rfl (by decide) ?_
        refine pn_istore (q := 69) dX4_fewest_67 rfl (by decide) ?_
        exact inner P 0 (by omega)
  have zero : ∀ (w i : Nat), i + w = P → pnWP mX4_fewest adK (d + 16) (pnEx (fun _ : (Nat → Int32) × (Nat → Int32) => some (.int (nI (fwR n ps pc)))) (fun s => hSha (min pc 14) s.1 s.2 ++ (hNetO 3 n g sh k pc bc ps bs sf))) 0 0 (hSha P (fun j => if j < i then 0 else p0 j) cl0 ++ (hNetO 3 n g sh k pc bc ps bs sf)) [some (.ref 0), some (.ref 3), some (.int (nI 0)), some (.int (nI i))] [] 17 := by
    intro w
    induction w with
    | zero =>
      intro i hw
      have hi : i = P := by omega
      subst hi
      have e9 : (fun j => if j < i then 0 else p0 j) = qA n ps i p0 0 0 := by
        funext j
        unfold qA
        by_cases e : j < i <;> simp [e, pnF]
      rw [e9]
      refine pn_iload_n (q := 18) dX4_fewest_17 rfl rfl ?_
      refine pn_aload_n (q := 19) dX4_fewest_18 rfl rfl rfl ?_
      refine pn_get (q := 22) fX4_18 dX4_fewest_19 rfl rfl rfl ?_
      first | refine pn_nge (q := 25) (tgt := 38) dX4_fewest_22 (by decide) rfl (by omega) (by omega) (fun hc22 => ?_) (fun hc22 => ?_) | refine pn_icmp_ge (q := 25) (tgt := 38) dX4_fewest_22 (by decide) rfl (fun hc22 => ?_) (fun hc22 => ?_)
      · refine pn_iconst (q := 39) (v := nI 0) dX4_fewest_38 rfl (by decide) ?_
        refine pn_istore_n (q := 40) dX4_fewest_39 rfl (by decide) ?_
        exact nodes n 0 (by omega)
      · omega
    | succ w iw =>
      intro i hw
      have e9 : upd (fun j => if j < i then 0 else p0 j) i 0 = fun j => if j < i + 1 then 0 else p0 j := by
        funext j
        unfold upd
        by_cases e : j = i
        · subst e; simp
        · by_cases e2 : j < i
          · simp [e, e2, Nat.lt_succ_of_lt e2]
          · have : ¬ j < i + 1 := by omega
            simp [e, e2, this]
      refine pn_iload_n (q := 18) dX4_fewest_17 rfl rfl ?_
      refine pn_aload_n (q := 19) dX4_fewest_18 rfl rfl rfl ?_
      refine pn_get (q := 22) fX4_18 dX4_fewest_19 rfl rfl rfl ?_
      first | refine pn_nge (q := 25) (tgt := 38) dX4_fewest_22 (by decide) rfl (by omega) (by omega) (fun hc22 => ?_) (fun hc22 => ?_) | refine pn_icmp_ge (q := 25) (tgt := 38) dX4_fewest_22 (by decide) rfl (fun hc22 => ?_) (fun hc22 => ?_)
      · omega
      · refine pn_aload_n (q := 26) dX4_fewest_25 rfl rfl rfl ?_
        refine pn_get (q := 29) fX4_9 dX4_fewest_26 rfl rfl rfl ?_
        refine pn_iload_n (q := 30) dX4_fewest_29 rfl rfl ?_
        refine pn_iconst (q := 31) (v := nI 0) dX4_fewest_30 rfl (by decide) ?_
        refine pn_iast (q := 32) dX4_fewest_31 rfl rfl rfl (by omega) (by decide) ?_; refine pn_eq (h' := hSha P (fun j => if j < i + 1 then 0 else p0 j) cl0 ++ (hNetO 3 n g sh k pc bc ps bs sf)) (st' := _) (by rw [← e9]; rfl) rfl ?_
        first | refine pn_iinc1 (q := 35) dX4_fewest_32 rfl rfl (by decide) ?_ | refine pn_iinc (q := 35) (mm := 1) dX4_fewest_32 rfl rfl (by decide) (by decide) ?_
        refine pn_goto (q := 17) dX4_fewest_35 (by decide) ?_
        exact iw (i + 1) (by omega)
  refine pn_aload_n (q := 1) dX4_fewest_0 rfl rfl rfl ?_
  refine pn_aload_n (q := 2) dX4_fewest_1 rfl rfl rfl ?_
  refine pn_get (q := 5) fX4_22 dX4_fewest_2 rfl rfl rfl ?_
  refine pn_bipush (q := 7) (v := nI 14) dX4_fewest_5 rfl (by decide) ?_
  refine pn_roS1 (q := 10) (c_min adK d pc 14 (by omega) (by omega)) lkX4_27 dX4_fewest_7 rfl rfl (pnSel_of (I := []) rfl rfl) (pnFree_none rfl) rfl (by omega) (Nat.le_of_ble_eq_true rfl) rfl ?_
  refine pn_put (q := 13) fX4_18 dX4_fewest_10 rfl rfl (Nat.le_of_ble_eq_true rfl) (pnF_int _) ?_
  refine pn_iconst (q := 14) (v := nI 0) dX4_fewest_13 rfl (by decide) ?_
  refine pn_istore_n (q := 15) dX4_fewest_14 rfl (by decide) ?_
  refine pn_iconst (q := 16) (v := nI 0) dX4_fewest_15 rfl (by decide) ?_
  refine pn_istore_n (q := 17) dX4_fewest_16 rfl (by decide) ?_
  have k9 := zero P 0 (by omega); subst hP; exact k9
