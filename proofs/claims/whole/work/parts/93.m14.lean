/-! develop -/
theorem m_baseLongE (adK : Nat → Nat) (d : Nat) (Y : MN) (P : Nat → MN) (a : G0) (b : G1) (c : G3) (e : G4) (f : G5) (g : G6) (h : G7) (i : Nat) (hi : i < 4) (v : Nat) (hv : Y.2.2.2.2.2.2.2 (6 * i) = v) : pnCt mX7_baseLong adK d 0 0 [.ref 0, .int (nI i)] (hM Y P a b c e f g h) (pnIs (.inl (some (.int (nI v)))) (hM Y P a b c e f g h)) := by subst hv; exact m_baseLong adK d Y P a b c e f g h i hi
theorem m_baseNodeE (adK : Nat → Nat) (d : Nat) (Y : MN) (P : Nat → MN) (a : G0) (b : G1) (c : G3) (e : G4) (f : G5) (g : G6) (h : G7) (i j : Nat) (hi : i < 4) (hj : j < 5) (v : Nat) (hv : Y.2.2.2.2.2.2.2 (6 * i + 1 + j) = v) : pnCt mX7_baseNode adK d 0 0 [.ref 0, .int (nI i), .int (nI j)] (hM Y P a b c e f g h) (pnIs (.inl (some (.int (nI v)))) (hM Y P a b c e f g h)) := by subst hv; exact m_baseNode adK d Y P a b c e f g h i j hi hj
abbrev yD (Y : MN) (g : Int64) (pc : Nat) (ps : Nat → Int64) : MN := (Y.1, g, Y.2.2.1, Y.2.2.2.1, pc, Y.2.2.2.2.2.1, ps, Y.2.2.2.2.2.2.2)
theorem nowF_net (Y : MN) (x : Int64) : vp_updL (nowF Y) 29 x = nowF (yD Y x Y.2.2.2.2.1 Y.2.2.2.2.2.2.1) := by
  funext j
  unfold vp_updL
  by_cases e : j = 29
  · subst e; rfl
  · rw [if_neg e]
    unfold nowF
    dsimp only
    repeat' split
    all_goals first | rfl | omega
def clP (ps : Nat → Int64) (i : Nat) : Nat → Int64 := fun j => if j < i then lN 0 else ps j
theorem clP_up (ps : Nat → Int64) (i : Nat) : vp_updL (clP ps i) i (lN 0) = clP ps (i + 1) := by
  funext j
  unfold vp_updL clP
  by_cases e : j = i
  · subst e; simp
  · have : (j < i + 1) = (j < i) := by simp; omega
    simp [e, this]
set_option maxRecDepth 100000 in
theorem m_developX (adK : Nat → Nat) (d : Nat) (Y : MN) (P : Nat → MN) (a : G0) (b : G1) (c : G3) (e : G4) (f : G5) (g : G6) (h : G7) (bN : Nat → Nat) (hS : shOk Y.2.2.1 Y.2.2.2.1) (hB : bsOk Y bN) (hn : Y.1 ≤ 11) (hn1 : 1 ≤ Y.1) (hx : Y.1 < 3 ∨ Y.2.2.2.2.2.1 = 0 ∨ bdN Y.2.2.1 Y.2.2.2.1 bN Y.1 Y.2.2.2.2.2.1 0 (Y.1 / 2 + 1) ≠ -1 ∨ ¬ unP (plN Y.2.2.1 Y.2.2.2.1) Y.2.2.2.2.2.1 bN Y.1) : pnCt mX7_develop adK (d + 4) 0 0 [.ref 0] (hM Y P a b c e f g h) (pnIs (.inl (some (.int (nI 0)))) (hM Y P (bdA (0, a.2) 1 2) b c e f g h)) := by
  refine pnCt_of (by decide) kX7_develop (Nat.le_of_ble_eq_true rfl) rfl hM_cl (pnCS_b rfl) ?_
  have hbc := hB.1
  have k51 : pnWP mX7_develop adK (d + 4) (pnIs (.inl (some (.int (nI 0)))) (hM Y P (bdA (0, a.2) 1 2) b c e f g h)) 0 0 (hM Y P (0, a.2) b c e f g h) [some (.ref 0), some (.int (nI Y.1))] [.int (nB true), .ref 0] 52 := by
    refine pn_iconst (q := 53) (v := nI 1) dX7_develop_52 rfl (by decide) ?_
    refine pn_iconst (q := 54) (v := nI 2) dX7_develop_53 rfl (by decide) ?_
    refine pn_idV (q := 57) (bc9 := 0) (bs9 := 0) (m_badT adK d Y P (0, a.2) b c e f g h 1 2 rfl (by omega) (by omega) (by omega)) lkX7_206 dX7_develop_54 rfl rfl (hM_cl) (hM_cl) (Nat.le_of_ble_eq_true rfl) rfl rfl rfl rfl rfl rfl (by omega) (by omega) (by omega) (Nat.le_of_ble_eq_true rfl) ?_
    refine pn_beq (q := 60) (tgt := 62) dX7_develop_57 (by decide) rfl (fun hc57 => ?_) (fun hc57 => ?_)
    · cases hc57
    · refine pn_iconst (q := 61) (v := nI 0) dX7_develop_60 rfl (by decide) ?_
      refine pn_iret dX7_develop_61 rfl ?_
      exact ⟨rfl, rfl⟩
  refine pn_aload_n (q := 1) dX7_develop_0 rfl rfl rfl ?_
  refine pn_iconst (q := 2) (v := nI 0) dX7_develop_1 rfl (by decide) ?_
  (refine pn_put (q := 5) fX7_63 dX7_develop_2 rfl rfl (Nat.le_of_ble_eq_true rfl) (pnF_int _) ?_)
  refine pn_eq (h' := (hM Y P (0, a.2) b c e f g h)) (st' := _) rfl rfl ?_
  refine pn_aload_n (q := 6) dX7_develop_5 rfl rfl rfl ?_
  refine pn_get (q := 9) fX7_20 dX7_develop_6 rfl rfl rfl ?_
  refine pn_iconst (q := 10) (v := nI 0) dX7_develop_9 rfl (by decide) ?_
  (first | refine pn_lald1 (q := 11) dX7_develop_10 rfl rfl rfl (by omega) (by first | decide | omega) ?_ | refine pn_lald5 (q := 11) dX7_develop_10 rfl rfl rfl (by omega) (by first | decide | omega) ?_); refine pn_eq (h' := _) (st' := .long (lN Y.1) :: _) rfl rfl ?_
  first | with_reducible refine pn_l2iN (q := 12) dX7_develop_11 rfl ?_ | refine pn_l2i (q := 12) dX7_develop_11 rfl ?_
  refine pn_istore_n (q := 13) dX7_develop_12 rfl (by decide) ?_
  refine pn_aload_n (q := 14) dX7_develop_13 rfl rfl rfl ?_
  refine pn_iload_n (q := 15) dX7_develop_14 rfl rfl ?_
  refine pn_iconst (q := 16) (v := nI 3) dX7_develop_15 rfl (by decide) ?_
  first | refine pn_nlt (q := 19) (tgt := 47) dX7_develop_16 (by decide) rfl (by omega) (by omega) (fun hc16 => ?_) (fun hc16 => ?_) | refine pn_icmp_lt (q := 19) (tgt := 47) dX7_develop_16 (by decide) rfl (fun hc16 => ?_) (fun hc16 => ?_)
  · refine pn_iconst (q := 48) (v := nB true) dX7_develop_47 rfl (by decide) ?_
    refine pn_goto (q := 52) dX7_develop_48 (by decide) ?_
    exact k51
  · refine pn_aload_n (q := 20) dX7_develop_19 rfl rfl rfl ?_
    refine pn_get (q := 23) fX7_20 dX7_develop_20 rfl rfl rfl ?_
    refine pn_iconst (q := 24) (v := nI 4) dX7_develop_23 rfl (by decide) ?_
    (first | refine pn_lald1 (q := 25) dX7_develop_24 rfl rfl rfl (by omega) (by first | decide | omega) ?_ | refine pn_lald5 (q := 25) dX7_develop_24 rfl rfl rfl (by omega) (by first | decide | omega) ?_); refine pn_eq (h' := _) (st' := .long (lN Y.2.2.2.2.2.1) :: _) rfl rfl ?_
    refine pn_lconst (q := 26) (v := lN 0) dX7_develop_25 rfl (by decide) ?_
    refine pn_leq (q1 := 27) (q := 30) (tgt := 47) dX7_develop_26 rfl dX7_develop_27 (by decide) rfl (fun hc26 => ?_) (fun hc26 => ?_)
    · refine pn_iconst (q := 48) (v := nB true) dX7_develop_47 rfl (by decide) ?_
      refine pn_goto (q := 52) dX7_develop_48 (by decide) ?_
      exact k51
    · refine pn_aload_n (q := 31) dX7_develop_30 rfl rfl rfl ?_
      refine pn_iload_n (q := 32) dX7_develop_31 rfl rfl ?_
      refine pn_idV (q := 35) (bc9 := 0) (bs9 := 0) (m_wrongIn adK d Y P (0, a.2) b c e f g h bN Y.1 hS hB (by omega) (by omega)) lkX7_325 dX7_develop_32 rfl rfl (hM_cl) (hM_cl) (Nat.le_of_ble_eq_true rfl) rfl rfl rfl rfl rfl rfl (by omega) (by omega) (by omega) (Nat.le_of_ble_eq_true rfl) ?_
      refine pn_iconst (q := 36) (v := (-1)) dX7_develop_35 rfl (by decide) ?_
      refine pn_icmp_ne (q := 39) (tgt := 47) dX7_develop_36 (by decide) rfl (fun hc36 => ?_) (fun hc36 => ?_)
      · refine pn_iconst (q := 48) (v := nB true) dX7_develop_47 rfl (by decide) ?_
        refine pn_goto (q := 52) dX7_develop_48 (by decide) ?_
        exact k51
      · refine pn_aload_n (q := 40) dX7_develop_39 rfl rfl rfl ?_
        refine pn_iload_n (q := 41) dX7_develop_40 rfl rfl ?_
        refine pn_idV (q := 44) (bc9 := 0) (bs9 := 0) (m_areUnlike adK d Y P (0, a.2) b c e f g h bN Y.1 hS hB (by omega) (by omega)) lkX7_328 dX7_develop_41 rfl rfl (hM_cl) (hM_cl) (Nat.le_of_ble_eq_true rfl) rfl rfl rfl rfl rfl rfl (by omega) (by omega) (by omega) (Nat.le_of_ble_eq_true rfl) ?_
        refine pn_bne (q := 47) (tgt := 51) dX7_develop_44 (by decide) rfl (fun hc44 => ?_) (fun hc44 => ?_)
        · (rcases hx with q | q | q | q; omega; (rw [lN_eqI (by omega) (by omega)] at hc26; omega); exact (q hc36).elim; exact (q (of_decide_eq_true hc44)).elim)
        · refine pn_iconst (q := 48) (v := nB true) dX7_develop_47 rfl (by decide) ?_
          refine pn_goto (q := 52) dX7_develop_48 (by decide) ?_
          exact k51
theorem spN_ofM {n sh k : Nat} {bN : Nat → Nat} {b s : Nat} {sf : Nat → Int32} (hS : shOk sh k) : lpN n sh k (sfN n bN b s sf (plN sh k)) 0 (plN sh k) = spN n sh k bN b s :=
  lpN_congr hS (fun j hj => by rw [Nat.zero_add]; exact sfN_at n bN b s sf _ j hj)
set_option maxRecDepth 100000 in
theorem m_develop (adK : Nat → Nat) (d : Nat) (Y : MN) (P : Nat → MN) (a : G0) (b : G1) (c : G3) (e : G4) (f : G5) (g : G6) (h : G7) (bN : Nat → Nat) (hS : shOk Y.2.2.1 Y.2.2.2.1) (hB : bsOk Y bN) (hn : Y.1 ≤ 11) (hn1 : 3 ≤ Y.1) (hb0 : Y.2.2.2.2.2.1 ≠ 0) (hbd : bdN Y.2.2.1 Y.2.2.2.1 bN Y.1 Y.2.2.2.2.2.1 0 (Y.1 / 2 + 1) = -1) (hun : unP (plN Y.2.2.1 Y.2.2.2.1) Y.2.2.2.2.2.1 bN Y.1) (ha : a.2.2.2.2 ≤ 8) (hc5 : c.2 ≤ 5) : pnCt mX7_develop adK (d + 4) 0 0 [.ref 0] (hM Y P a b c e f g h) (pnExP (fun c' : G3 => c'.2 ≤ 5) (fun _ : G3 => some (.int (nI (Y.2.2.2.2.2.1 * Y.1)))) (fun c' : G3 => hM (yD Y (dvGs Y.1 Y.2.2.1 Y.2.2.2.1 bN Y.2.2.2.2.2.1) (Y.2.2.2.2.2.1 * Y.1) (dvPs Y.1 Y.2.2.1 Y.2.2.2.1 bN (clP Y.2.2.2.2.2.2.1 60) Y.2.2.2.2.2.1)) (keP P Y a.2.2.2.2) (keB ((0, a.2) : G0)) b c' e f g h)) := by
  refine pnCt_of (by decide) kX7_develop (Nat.le_of_ble_eq_true rfl) rfl hM_cl (pnCS_b rfl) ?_
  obtain ⟨b1, b2, b3, b4, b5, b6⟩ := shOk_b hS
  have hbc := hB.1
  have hbn : ∀ u, u ≤ 4 → u * Y.1 ≤ 44 := fun u hu => by
    have := Nat.mul_le_mul hu hn
    omega
  have shift : ∀ u s, u < Y.2.2.2.2.2.1 → s < Y.1 → (∀ c : G3, c.2 ≤ 5 → pnWP mX7_develop adK (d + 4) (pnExP (fun c' : G3 => c'.2 ≤ 5) (fun _ : G3 => some (.int (nI (Y.2.2.2.2.2.1 * Y.1)))) (fun c' : G3 => hM (yD Y (dvGs Y.1 Y.2.2.1 Y.2.2.2.1 bN Y.2.2.2.2.2.1) (Y.2.2.2.2.2.1 * Y.1) (dvPs Y.1 Y.2.2.1 Y.2.2.2.1 bN (clP Y.2.2.2.2.2.2.1 60) Y.2.2.2.2.2.1)) (keP P Y a.2.2.2.2) (keB ((0, a.2) : G0)) b c' e f g h)) 0 0 (hM (yD Y (dvG Y.1 Y.2.2.1 Y.2.2.2.1 bN (dvGs Y.1 Y.2.2.1 Y.2.2.2.1 bN u) u (s + 1)) (u * Y.1 + (s + 1)) (dvP Y.1 Y.2.2.1 Y.2.2.2.1 bN (dvPs Y.1 Y.2.2.1 Y.2.2.2.1 bN (clP Y.2.2.2.2.2.2.1 60) u) u (s + 1))) (keP P Y a.2.2.2.2) (keB ((0, a.2) : G0)) b c e f g h) [some (.ref 0), some (.int (nI Y.1)), some (.int (nI u)), some (.int (nI s))] [] 199) →
      ∀ (z i : Nat) (sf : Nat → Int32), i + z = plN Y.2.2.1 Y.2.2.2.1 → pnWP mX7_develop adK (d + 4) (pnExP (fun c' : G3 => c'.2 ≤ 5) (fun _ : G3 => some (.int (nI (Y.2.2.2.2.2.1 * Y.1)))) (fun c' : G3 => hM (yD Y (dvGs Y.1 Y.2.2.1 Y.2.2.2.1 bN Y.2.2.2.2.2.1) (Y.2.2.2.2.2.1 * Y.1) (dvPs Y.1 Y.2.2.1 Y.2.2.2.1 bN (clP Y.2.2.2.2.2.2.1 60) Y.2.2.2.2.2.1)) (keP P Y a.2.2.2.2) (keB ((0, a.2) : G0)) b c' e f g h)) 0 0 (hM (yD Y (dvG Y.1 Y.2.2.1 Y.2.2.2.1 bN (dvGs Y.1 Y.2.2.1 Y.2.2.2.1 bN u) u s) (u * Y.1 + s) (dvP Y.1 Y.2.2.1 Y.2.2.2.1 bN (dvPs Y.1 Y.2.2.1 Y.2.2.2.1 bN (clP Y.2.2.2.2.2.2.1 60) u) u s)) (keP P Y a.2.2.2.2) (keB ((0, a.2) : G0)) b (sfN Y.1 bN u s sf i, plN Y.2.2.1 Y.2.2.2.1) e f g h) [some (.ref 0), some (.int (nI Y.1)), some (.int (nI u)), some (.int (nI s)), some (.int (nI i))] [] 138 := by
    intro u s hu hs kk z
    have hu4 := hbn u (by omega)
    obtain ⟨l1, l2⟩ := hB.2.2 u hu
    induction z with
    | zero =>
      intro i sf hi
      have hii : i = plN Y.2.2.1 Y.2.2.2.1 := by omega
      subst hii
      have CP := m_partOfN adK d (yD Y (dvG Y.1 Y.2.2.1 Y.2.2.2.1 bN (dvGs Y.1 Y.2.2.1 Y.2.2.2.1 bN u) u s) (u * Y.1 + s) (dvP Y.1 Y.2.2.1 Y.2.2.2.1 bN (dvPs Y.1 Y.2.2.1 Y.2.2.2.1 bN (clP Y.2.2.2.2.2.2.1 60) u) u s)) (keP P Y a.2.2.2.2) (keB ((0, a.2) : G0)) b (sfN Y.1 bN u s sf (plN Y.2.2.1 Y.2.2.2.1), plN Y.2.2.1 Y.2.2.2.1) e f g h Y.1 Y.2.2.1 Y.2.2.2.1 rfl rfl rfl hS hn (by omega) b4
      have e9 : lpN Y.1 Y.2.2.1 Y.2.2.2.1 (sfN Y.1 bN u s sf (plN Y.2.2.1 Y.2.2.2.1), plN Y.2.2.1 Y.2.2.2.1).1 0 (sfN Y.1 bN u s sf (plN Y.2.2.1 Y.2.2.2.1), plN Y.2.2.1 Y.2.2.2.1).2 = spN Y.1 Y.2.2.1 Y.2.2.2.1 bN u s := spN_ofM hS
      rw [e9] at CP
      have CC := m_comes adK d (yD Y (dvG Y.1 Y.2.2.1 Y.2.2.2.1 bN (dvGs Y.1 Y.2.2.1 Y.2.2.2.1 bN u) u (s + 1)) (u * Y.1 + s) (dvP Y.1 Y.2.2.1 Y.2.2.2.1 bN (dvPs Y.1 Y.2.2.1 Y.2.2.2.1 bN (clP Y.2.2.2.2.2.2.1 60) u) u s)) (keP P Y a.2.2.2.2) (keB ((0, a.2) : G0)) b (sfN Y.1 bN u s sf (plN Y.2.2.1 Y.2.2.2.1), plN Y.2.2.1 Y.2.2.2.1) e f g h (spN Y.1 Y.2.2.1 Y.2.2.2.1 bN u s) (by show u * Y.1 + s < 60; omega)
      refine pn_iload (q := 140) dX7_develop_138 rfl rfl ?_
      refine pn_aload_n (q := 141) dX7_develop_140 rfl rfl rfl ?_
      (refine pn_get (q := 144) fX7_85 dX7_develop_141 rfl rfl rfl ?_)
      refine pn_eq (h' := _) (st' := .int (nI (plN Y.2.2.1 Y.2.2.2.1)) :: _) rfl rfl ?_
      first | refine pn_nge (q := 147) (tgt := 171) dX7_develop_144 (by decide) rfl (by omega) (by omega) (fun hc144 => ?_) (fun hc144 => ?_) | refine pn_icmp_ge (q := 147) (tgt := 171) dX7_develop_144 (by decide) rfl (fun hc144 => ?_) (fun hc144 => ?_)
      · refine pn_aload_n (q := 172) dX7_develop_171 rfl rfl rfl ?_
        refine pn_aload_n (q := 173) dX7_develop_172 rfl rfl rfl ?_
        refine pn_get (q := 176) fX7_20 dX7_develop_173 rfl rfl rfl ?_
        refine pn_idV (q := 179) (bc9 := 0) (bs9 := 0) (CP) lkX7_202 dX7_develop_176 rfl rfl (hM_cl) (hM_cl) (Nat.le_of_ble_eq_true rfl) rfl rfl rfl rfl rfl rfl (by omega) (by omega) (by omega) (Nat.le_of_ble_eq_true rfl) ?_
        refine pn_lstore (q := 181) dX7_develop_179 rfl (by decide) ?_
        refine pn_aload_n (q := 182) dX7_develop_181 rfl rfl rfl ?_
        refine pn_get (q := 185) fX7_20 dX7_develop_182 rfl rfl rfl ?_
        refine pn_bipush (q := 187) (v := nI 29) dX7_develop_185 rfl (by decide) ?_
        first | refine pn_dup2 (q := 188) dX7_develop_187 rfl rfl rfl ?_ | refine pn_dup2l (q := 188) dX7_develop_187 rfl ?_
        refine pn_lald1 (q := 189) dX7_develop_188 rfl rfl rfl (by omega) (by decide) ?_; refine pn_eq (h' := _) (st' := .long (dvG Y.1 Y.2.2.1 Y.2.2.2.1 bN (dvGs Y.1 Y.2.2.1 Y.2.2.2.1 bN u) u s) :: _) rfl rfl ?_
        refine pn_lload (q := 191) dX7_develop_189 rfl rfl ?_
        refine pn_lor (q := 192) dX7_develop_191 rfl ?_
        refine pn_last1 (q := 193) dX7_develop_192 rfl rfl rfl (by omega) (by decide) ?_; refine pn_eq (h' := hM (yD Y (dvG Y.1 Y.2.2.1 Y.2.2.2.1 bN (dvGs Y.1 Y.2.2.1 Y.2.2.2.1 bN u) u (s + 1)) (u * Y.1 + s) (dvP Y.1 Y.2.2.1 Y.2.2.2.1 bN (dvPs Y.1 Y.2.2.1 Y.2.2.2.1 bN (clP Y.2.2.2.2.2.2.1 60) u) u s)) (keP P Y a.2.2.2.2) (keB ((0, a.2) : G0)) b (sfN Y.1 bN u s sf (plN Y.2.2.1 Y.2.2.2.1), plN Y.2.2.1 Y.2.2.2.1) e f g h) (st' := _) (by rw [nowF_net]; rfl) rfl ?_
        refine pn_aload_n (q := 194) dX7_develop_193 rfl rfl rfl ?_
        refine pn_lload (q := 196) dX7_develop_194 rfl rfl ?_
        refine pn_idV (q := 199) (bc9 := 0) (bs9 := 0) (CC) lkX7_271 dX7_develop_196 rfl rfl (hM_cl) (hM_cl) (Nat.le_of_ble_eq_true rfl) rfl rfl rfl rfl rfl rfl (by omega) (by omega) (by omega) (Nat.le_of_ble_eq_true rfl) ?_
        exact pn_take 4 (kk _ b4)
      · omega
    | succ z ih =>
      intro i sf hi
      have n1 := hB.2.1 (u * 5 + i)
      have CN := m_baseNodeE adK d (yD Y (dvG Y.1 Y.2.2.1 Y.2.2.2.1 bN (dvGs Y.1 Y.2.2.1 Y.2.2.2.1 bN u) u s) (u * Y.1 + s) (dvP Y.1 Y.2.2.1 Y.2.2.2.1 bN (dvPs Y.1 Y.2.2.1 Y.2.2.2.1 bN (clP Y.2.2.2.2.2.2.1 60) u) u s)) (keP P Y a.2.2.2.2) (keB ((0, a.2) : G0)) b (sfN Y.1 bN u s sf i, plN Y.2.2.1 Y.2.2.2.1) e f g h u i (by omega) (by omega) (bN (u * 5 + i)) (l2 i (by omega))
      refine pn_iload (q := 140) dX7_develop_138 rfl rfl ?_
      refine pn_aload_n (q := 141) dX7_develop_140 rfl rfl rfl ?_
      (refine pn_get (q := 144) fX7_85 dX7_develop_141 rfl rfl rfl ?_)
      refine pn_eq (h' := _) (st' := .int (nI (plN Y.2.2.1 Y.2.2.2.1)) :: _) rfl rfl ?_
      first | refine pn_nge (q := 147) (tgt := 171) dX7_develop_144 (by decide) rfl (by omega) (by omega) (fun hc144 => ?_) (fun hc144 => ?_) | refine pn_icmp_ge (q := 147) (tgt := 171) dX7_develop_144 (by decide) rfl (fun hc144 => ?_) (fun hc144 => ?_)
      · omega
      · refine pn_aload_n (q := 148) dX7_develop_147 rfl rfl rfl ?_
        refine pn_get (q := 151) fX7_32 dX7_develop_148 rfl rfl rfl ?_
        refine pn_iload (q := 153) dX7_develop_151 rfl rfl ?_
        refine pn_aload_n (q := 154) dX7_develop_153 rfl rfl rfl ?_
        refine pn_iload_n (q := 155) dX7_develop_154 rfl rfl ?_
        refine pn_iload (q := 157) dX7_develop_155 rfl rfl ?_
        refine pn_idV (q := 160) (bc9 := 0) (bs9 := 0) (CN) lkX7_314 dX7_develop_157 rfl rfl (hM_cl) (hM_cl) (Nat.le_of_ble_eq_true rfl) rfl rfl rfl rfl rfl rfl (by omega) (by omega) (by omega) (Nat.le_of_ble_eq_true rfl) ?_
        refine pn_iload_n (q := 161) dX7_develop_160 rfl rfl ?_
        refine pn_iaddN (q := 162) dX7_develop_161 rfl ?_
        refine pn_iload_n (q := 163) dX7_develop_162 rfl rfl ?_
        refine pn_iremN (q := 164) dX7_develop_163 rfl (by omega) ?_
        refine pn_iast (q := 165) dX7_develop_164 rfl rfl rfl (by omega) (by first | decide | omega) ?_
        first | refine pn_iinc1 (q := 168) dX7_develop_165 rfl rfl (by decide) ?_ | refine pn_iinc (q := 168) (mm := 1) dX7_develop_165 rfl rfl (by decide) (by decide) ?_
        refine pn_goto (q := 138) dX7_develop_168 (by decide) ?_
        exact ih (i + 1) sf (by omega)
  have base : ∀ u, u < Y.2.2.2.2.2.1 → (∀ c : G3, c.2 ≤ 5 → pnWP mX7_develop adK (d + 4) (pnExP (fun c' : G3 => c'.2 ≤ 5) (fun _ : G3 => some (.int (nI (Y.2.2.2.2.2.1 * Y.1)))) (fun c' : G3 => hM (yD Y (dvGs Y.1 Y.2.2.1 Y.2.2.2.1 bN Y.2.2.2.2.2.1) (Y.2.2.2.2.2.1 * Y.1) (dvPs Y.1 Y.2.2.1 Y.2.2.2.1 bN (clP Y.2.2.2.2.2.2.1 60) Y.2.2.2.2.2.1)) (keP P Y a.2.2.2.2) (keB ((0, a.2) : G0)) b c' e f g h)) 0 0 (hM (yD Y (dvGs Y.1 Y.2.2.1 Y.2.2.2.1 bN (u + 1)) ((u + 1) * Y.1) (dvPs Y.1 Y.2.2.1 Y.2.2.2.1 bN (clP Y.2.2.2.2.2.2.1 60) (u + 1))) (keP P Y a.2.2.2.2) (keB ((0, a.2) : G0)) b c e f g h) [some (.ref 0), some (.int (nI Y.1)), some (.int (nI u))] [] 205) →
      ∀ (z s : Nat) (c : G3), s + z = Y.1 → c.2 ≤ 5 → pnWP mX7_develop adK (d + 4) (pnExP (fun c' : G3 => c'.2 ≤ 5) (fun _ : G3 => some (.int (nI (Y.2.2.2.2.2.1 * Y.1)))) (fun c' : G3 => hM (yD Y (dvGs Y.1 Y.2.2.1 Y.2.2.2.1 bN Y.2.2.2.2.2.1) (Y.2.2.2.2.2.1 * Y.1) (dvPs Y.1 Y.2.2.1 Y.2.2.2.1 bN (clP Y.2.2.2.2.2.2.1 60) Y.2.2.2.2.2.1)) (keP P Y a.2.2.2.2) (keB ((0, a.2) : G0)) b c' e f g h)) 0 0 (hM (yD Y (dvG Y.1 Y.2.2.1 Y.2.2.2.1 bN (dvGs Y.1 Y.2.2.1 Y.2.2.2.1 bN u) u s) (u * Y.1 + s) (dvP Y.1 Y.2.2.1 Y.2.2.2.1 bN (dvPs Y.1 Y.2.2.1 Y.2.2.2.1 bN (clP Y.2.2.2.2.2.2.1 60) u) u s)) (keP P Y a.2.2.2.2) (keB ((0, a.2) : G0)) b c e f g h) [some (.ref 0), some (.int (nI Y.1)), some (.int (nI u)), some (.int (nI s))] [] 121 := by
    intro u hu kk z
    induction z with
    | zero =>
      intro s c hs hc5
      have hss : s = Y.1 := by omega
      subst hss
      have k9 := kk c hc5
      rw [show (u + 1) * Y.1 = u * Y.1 + Y.1 from Nat.succ_mul u Y.1] at k9
      refine pn_iload_n (q := 122) dX7_develop_121 rfl rfl ?_
      refine pn_iload_n (q := 123) dX7_develop_122 rfl rfl ?_
      first | refine pn_nge (q := 126) (tgt := 205) dX7_develop_123 (by decide) rfl (by omega) (by omega) (fun hc123 => ?_) (fun hc123 => ?_) | refine pn_icmp_ge (q := 126) (tgt := 205) dX7_develop_123 (by decide) rfl (fun hc123 => ?_) (fun hc123 => ?_)
      · exact pn_take 3 k9
      · omega
    | succ z ih =>
      intro s c hs hc5
      have CL := m_baseLongE adK d (yD Y (dvG Y.1 Y.2.2.1 Y.2.2.2.1 bN (dvGs Y.1 Y.2.2.1 Y.2.2.2.1 bN u) u s) (u * Y.1 + s) (dvP Y.1 Y.2.2.1 Y.2.2.2.1 bN (dvPs Y.1 Y.2.2.1 Y.2.2.2.1 bN (clP Y.2.2.2.2.2.2.1 60) u) u s)) (keP P Y a.2.2.2.2) (keB ((0, a.2) : G0)) b c e f g h u (by omega) (plN Y.2.2.1 Y.2.2.2.1) (hB.2.2 u hu).1
      have k199 : ∀ c : G3, c.2 ≤ 5 → pnWP mX7_develop adK (d + 4) (pnExP (fun c' : G3 => c'.2 ≤ 5) (fun _ : G3 => some (.int (nI (Y.2.2.2.2.2.1 * Y.1)))) (fun c' : G3 => hM (yD Y (dvGs Y.1 Y.2.2.1 Y.2.2.2.1 bN Y.2.2.2.2.2.1) (Y.2.2.2.2.2.1 * Y.1) (dvPs Y.1 Y.2.2.1 Y.2.2.2.1 bN (clP Y.2.2.2.2.2.2.1 60) Y.2.2.2.2.2.1)) (keP P Y a.2.2.2.2) (keB ((0, a.2) : G0)) b c' e f g h)) 0 0 (hM (yD Y (dvG Y.1 Y.2.2.1 Y.2.2.2.1 bN (dvGs Y.1 Y.2.2.1 Y.2.2.2.1 bN u) u (s + 1)) (u * Y.1 + (s + 1)) (dvP Y.1 Y.2.2.1 Y.2.2.2.1 bN (dvPs Y.1 Y.2.2.1 Y.2.2.2.1 bN (clP Y.2.2.2.2.2.2.1 60) u) u (s + 1))) (keP P Y a.2.2.2.2) (keB ((0, a.2) : G0)) b c e f g h) [some (.ref 0), some (.int (nI Y.1)), some (.int (nI u)), some (.int (nI s))] [] 199 := by
        intro c hc5
        first | refine pn_iinc1 (q := 202) dX7_develop_199 rfl rfl (by decide) ?_ | refine pn_iinc (q := 202) (mm := 1) dX7_develop_199 rfl rfl (by decide) (by decide) ?_
        refine pn_goto (q := 121) dX7_develop_202 (by decide) ?_
        exact ih (s + 1) c (by omega) hc5
      refine pn_iload_n (q := 122) dX7_develop_121 rfl rfl ?_
      refine pn_iload_n (q := 123) dX7_develop_122 rfl rfl ?_
      first | refine pn_nge (q := 126) (tgt := 205) dX7_develop_123 (by decide) rfl (by omega) (by omega) (fun hc123 => ?_) (fun hc123 => ?_) | refine pn_icmp_ge (q := 126) (tgt := 205) dX7_develop_123 (by decide) rfl (fun hc123 => ?_) (fun hc123 => ?_)
      · omega
      · refine pn_aload_n (q := 127) dX7_develop_126 rfl rfl rfl ?_
        refine pn_aload_n (q := 128) dX7_develop_127 rfl rfl rfl ?_
        refine pn_iload_n (q := 129) dX7_develop_128 rfl rfl ?_
        refine pn_idV (q := 132) (bc9 := 0) (bs9 := 0) (CL) lkX7_311 dX7_develop_129 rfl rfl (hM_cl) (hM_cl) (Nat.le_of_ble_eq_true rfl) rfl rfl rfl rfl rfl rfl (by omega) (by omega) (by omega) (Nat.le_of_ble_eq_true rfl) ?_
        refine pn_put (q := 135) fX7_85 dX7_develop_132 rfl rfl (Nat.le_of_ble_eq_true rfl) (pnF_int _) ?_
        refine pn_iconst (q := 136) (v := nI 0) dX7_develop_135 rfl (by decide) ?_
        refine pn_istore (q := 138) dX7_develop_136 rfl (by decide) ?_
        exact shift u s hu (by omega) k199 (plN Y.2.2.1 Y.2.2.2.1) 0 c.1 (by omega)
  have bases : ∀ (z u : Nat) (c : G3), u + z = Y.2.2.2.2.2.1 → c.2 ≤ 5 → pnWP mX7_develop adK (d + 4) (pnExP (fun c' : G3 => c'.2 ≤ 5) (fun _ : G3 => some (.int (nI (Y.2.2.2.2.2.1 * Y.1)))) (fun c' : G3 => hM (yD Y (dvGs Y.1 Y.2.2.1 Y.2.2.2.1 bN Y.2.2.2.2.2.1) (Y.2.2.2.2.2.1 * Y.1) (dvPs Y.1 Y.2.2.1 Y.2.2.2.1 bN (clP Y.2.2.2.2.2.2.1 60) Y.2.2.2.2.2.1)) (keP P Y a.2.2.2.2) (keB ((0, a.2) : G0)) b c' e f g h)) 0 0 (hM (yD Y (dvGs Y.1 Y.2.2.1 Y.2.2.2.1 bN u) (u * Y.1) (dvPs Y.1 Y.2.2.1 Y.2.2.2.1 bN (clP Y.2.2.2.2.2.2.1 60) u)) (keP P Y a.2.2.2.2) (keB ((0, a.2) : G0)) b c e f g h) [some (.ref 0), some (.int (nI Y.1)), some (.int (nI u))] [] 107 := by
    intro z
    induction z with
    | zero =>
      intro u c hu hc5
      have huu : u = Y.2.2.2.2.2.1 := by omega
      subst huu
      have CM := m_manyE adK d (yD Y (dvGs Y.1 Y.2.2.1 Y.2.2.2.1 bN Y.2.2.2.2.2.1) (Y.2.2.2.2.2.1 * Y.1) (dvPs Y.1 Y.2.2.1 Y.2.2.2.1 bN (clP Y.2.2.2.2.2.2.1 60) Y.2.2.2.2.2.1)) (keP P Y a.2.2.2.2) (keB ((0, a.2) : G0)) b c e f g h (Y.2.2.2.2.2.1 * Y.1) rfl
      refine pn_iload_n (q := 108) dX7_develop_107 rfl rfl ?_
      first | with_reducible refine pn_i2lN (q := 109) dX7_develop_108 rfl (by omega) ?_ | refine pn_i2l (q := 109) dX7_develop_108 rfl ?_
      refine pn_aload_n (q := 110) dX7_develop_109 rfl rfl rfl ?_
      refine pn_get (q := 113) fX7_20 dX7_develop_110 rfl rfl rfl ?_
      refine pn_iconst (q := 114) (v := nI 4) dX7_develop_113 rfl (by decide) ?_
      (first | refine pn_lald1 (q := 115) dX7_develop_114 rfl rfl rfl (by omega) (by first | decide | omega) ?_ | refine pn_lald5 (q := 115) dX7_develop_114 rfl rfl rfl (by omega) (by first | decide | omega) ?_); refine pn_eq (h' := _) (st' := .long (lN Y.2.2.2.2.2.1) :: _) rfl rfl ?_
      refine pn_lge (q1 := 116) (q := 119) (tgt := 211) dX7_develop_115 rfl dX7_develop_116 (by decide) rfl (fun hc115 => ?_) (fun hc115 => ?_)
      · refine pn_aload_n (q := 212) dX7_develop_211 rfl rfl rfl ?_
        refine pn_idV (q := 215) (bc9 := 0) (bs9 := 0) (CM) lkX7_232 dX7_develop_212 rfl rfl (hM_cl) (hM_cl) (Nat.le_of_ble_eq_true rfl) rfl rfl rfl rfl rfl rfl (by omega) (by omega) (by omega) (Nat.le_of_ble_eq_true rfl) ?_
        refine pn_iret dX7_develop_215 rfl ?_
        exact ⟨c, hc5, rfl, rfl⟩
      · exact (hc115 ((lN_leI (by omega) (by omega)).mpr (by omega))).elim
    | succ z ih =>
      intro u c hu hc5
      have k205 : ∀ c : G3, c.2 ≤ 5 → pnWP mX7_develop adK (d + 4) (pnExP (fun c' : G3 => c'.2 ≤ 5) (fun _ : G3 => some (.int (nI (Y.2.2.2.2.2.1 * Y.1)))) (fun c' : G3 => hM (yD Y (dvGs Y.1 Y.2.2.1 Y.2.2.2.1 bN Y.2.2.2.2.2.1) (Y.2.2.2.2.2.1 * Y.1) (dvPs Y.1 Y.2.2.1 Y.2.2.2.1 bN (clP Y.2.2.2.2.2.2.1 60) Y.2.2.2.2.2.1)) (keP P Y a.2.2.2.2) (keB ((0, a.2) : G0)) b c' e f g h)) 0 0 (hM (yD Y (dvGs Y.1 Y.2.2.1 Y.2.2.2.1 bN (u + 1)) ((u + 1) * Y.1) (dvPs Y.1 Y.2.2.1 Y.2.2.2.1 bN (clP Y.2.2.2.2.2.2.1 60) (u + 1))) (keP P Y a.2.2.2.2) (keB ((0, a.2) : G0)) b c e f g h) [some (.ref 0), some (.int (nI Y.1)), some (.int (nI u))] [] 205 := by
        intro c hc5
        first | refine pn_iinc1 (q := 208) dX7_develop_205 rfl rfl (by decide) ?_ | refine pn_iinc (q := 208) (mm := 1) dX7_develop_205 rfl rfl (by decide) (by decide) ?_
        refine pn_goto (q := 107) dX7_develop_208 (by decide) ?_
        exact ih (u + 1) c (by omega) hc5
      refine pn_iload_n (q := 108) dX7_develop_107 rfl rfl ?_
      first | with_reducible refine pn_i2lN (q := 109) dX7_develop_108 rfl (by omega) ?_ | refine pn_i2l (q := 109) dX7_develop_108 rfl ?_
      refine pn_aload_n (q := 110) dX7_develop_109 rfl rfl rfl ?_
      refine pn_get (q := 113) fX7_20 dX7_develop_110 rfl rfl rfl ?_
      refine pn_iconst (q := 114) (v := nI 4) dX7_develop_113 rfl (by decide) ?_
      (first | refine pn_lald1 (q := 115) dX7_develop_114 rfl rfl rfl (by omega) (by first | decide | omega) ?_ | refine pn_lald5 (q := 115) dX7_develop_114 rfl rfl rfl (by omega) (by first | decide | omega) ?_); refine pn_eq (h' := _) (st' := .long (lN Y.2.2.2.2.2.1) :: _) rfl rfl ?_
      refine pn_lge (q1 := 116) (q := 119) (tgt := 211) dX7_develop_115 rfl dX7_develop_116 (by decide) rfl (fun hc115 => ?_) (fun hc115 => ?_)
      · (rw [lN_leI (by omega) (by omega)] at hc115; omega)
      · refine pn_iconst (q := 120) (v := nI 0) dX7_develop_119 rfl (by decide) ?_
        refine pn_istore_n (q := 121) dX7_develop_120 rfl (by decide) ?_
        exact base u (by omega) k205 Y.1 0 c (by omega) hc5
  have clear : ∀ (z i : Nat), i + z = 60 → pnWP mX7_develop adK (d + 4) (pnExP (fun c' : G3 => c'.2 ≤ 5) (fun _ : G3 => some (.int (nI (Y.2.2.2.2.2.1 * Y.1)))) (fun c' : G3 => hM (yD Y (dvGs Y.1 Y.2.2.1 Y.2.2.2.1 bN Y.2.2.2.2.2.1) (Y.2.2.2.2.2.1 * Y.1) (dvPs Y.1 Y.2.2.1 Y.2.2.2.1 bN (clP Y.2.2.2.2.2.2.1 60) Y.2.2.2.2.2.1)) (keP P Y a.2.2.2.2) (keB ((0, a.2) : G0)) b c' e f g h)) 0 0 (hM (yD Y 0 0 (clP Y.2.2.2.2.2.2.1 i)) (keP P Y a.2.2.2.2) (keB ((0, a.2) : G0)) b c e f g h) [some (.ref 0), some (.int (nI Y.1)), some (.int (nI i))] [] 83 := by
    intro z
    induction z with
    | zero =>
      intro i hi
      have hii : i = 60 := by omega
      subst hii
      have k9 := bases Y.2.2.2.2.2.1 0 c (by omega) hc5
      rw [Nat.zero_mul] at k9
      refine pn_iload_n (q := 84) dX7_develop_83 rfl rfl ?_
      refine pn_bipush (q := 86) (v := nI 60) dX7_develop_84 rfl (by decide) ?_
      first | refine pn_nge (q := 89) (tgt := 105) dX7_develop_86 (by decide) rfl (by omega) (by omega) (fun hc86 => ?_) (fun hc86 => ?_) | refine pn_icmp_ge (q := 89) (tgt := 105) dX7_develop_86 (by decide) rfl (fun hc86 => ?_) (fun hc86 => ?_)
      · refine pn_iconst (q := 106) (v := nI 0) dX7_develop_105 rfl (by decide) ?_
        refine pn_istore_n (q := 107) dX7_develop_106 rfl (by decide) ?_
        exact pn_take 3 k9
      · omega
    | succ z ih =>
      intro i hi
      refine pn_iload_n (q := 84) dX7_develop_83 rfl rfl ?_
      refine pn_bipush (q := 86) (v := nI 60) dX7_develop_84 rfl (by decide) ?_
      first | refine pn_nge (q := 89) (tgt := 105) dX7_develop_86 (by decide) rfl (by omega) (by omega) (fun hc86 => ?_) (fun hc86 => ?_) | refine pn_icmp_ge (q := 89) (tgt := 105) dX7_develop_86 (by decide) rfl (fun hc86 => ?_) (fun hc86 => ?_)
      · omega
      · refine pn_aload_n (q := 90) dX7_develop_89 rfl rfl rfl ?_
        refine pn_get (q := 93) fX7_20 dX7_develop_90 rfl rfl rfl ?_
        refine pn_bipush (q := 95) (v := nI 30) dX7_develop_93 rfl (by decide) ?_
        refine pn_iload_n (q := 96) dX7_develop_95 rfl rfl ?_
        first | with_reducible refine pn_iaddN (q := 97) dX7_develop_96 rfl ?_ | refine pn_iadd (q := 97) dX7_develop_96 rfl ?_
        refine pn_lconst (q := 98) (v := lN 0) dX7_develop_97 rfl (by decide) ?_
        refine pn_last1 (q := 99) dX7_develop_98 rfl rfl rfl (by omega) (by decide) ?_; refine pn_eq (h' := hM (yD Y 0 0 (clP Y.2.2.2.2.2.2.1 (i + 1))) (keP P Y a.2.2.2.2) (keB ((0, a.2) : G0)) b c e f g h) (st' := _) (by rw [nowF_ps, ← clP_up]; rfl) rfl ?_
        first | refine pn_iinc1 (q := 102) dX7_develop_99 rfl rfl (by decide) ?_ | refine pn_iinc (q := 102) (mm := 1) dX7_develop_99 rfl rfl (by decide) (by decide) ?_
        refine pn_goto (q := 83) dX7_develop_102 (by decide) ?_
        exact ih (i + 1) (by omega)
  refine pn_aload_n (q := 1) dX7_develop_0 rfl rfl rfl ?_
  refine pn_iconst (q := 2) (v := nI 0) dX7_develop_1 rfl (by decide) ?_
  (refine pn_put (q := 5) fX7_63 dX7_develop_2 rfl rfl (Nat.le_of_ble_eq_true rfl) (pnF_int _) ?_)
  refine pn_eq (h' := (hM Y P (0, a.2) b c e f g h)) (st' := _) rfl rfl ?_
  refine pn_aload_n (q := 6) dX7_develop_5 rfl rfl rfl ?_
  refine pn_get (q := 9) fX7_20 dX7_develop_6 rfl rfl rfl ?_
  refine pn_iconst (q := 10) (v := nI 0) dX7_develop_9 rfl (by decide) ?_
  (first | refine pn_lald1 (q := 11) dX7_develop_10 rfl rfl rfl (by omega) (by first | decide | omega) ?_ | refine pn_lald5 (q := 11) dX7_develop_10 rfl rfl rfl (by omega) (by first | decide | omega) ?_); refine pn_eq (h' := _) (st' := .long (lN Y.1) :: _) rfl rfl ?_
  first | with_reducible refine pn_l2iN (q := 12) dX7_develop_11 rfl ?_ | refine pn_l2i (q := 12) dX7_develop_11 rfl ?_
  refine pn_istore_n (q := 13) dX7_develop_12 rfl (by decide) ?_
  refine pn_aload_n (q := 14) dX7_develop_13 rfl rfl rfl ?_
  refine pn_iload_n (q := 15) dX7_develop_14 rfl rfl ?_
  refine pn_iconst (q := 16) (v := nI 3) dX7_develop_15 rfl (by decide) ?_
  first | refine pn_nlt (q := 19) (tgt := 47) dX7_develop_16 (by decide) rfl (by omega) (by omega) (fun hc16 => ?_) (fun hc16 => ?_) | refine pn_icmp_lt (q := 19) (tgt := 47) dX7_develop_16 (by decide) rfl (fun hc16 => ?_) (fun hc16 => ?_)
  · omega
  · refine pn_aload_n (q := 20) dX7_develop_19 rfl rfl rfl ?_
    refine pn_get (q := 23) fX7_20 dX7_develop_20 rfl rfl rfl ?_
    refine pn_iconst (q := 24) (v := nI 4) dX7_develop_23 rfl (by decide) ?_
    (first | refine pn_lald1 (q := 25) dX7_develop_24 rfl rfl rfl (by omega) (by first | decide | omega) ?_ | refine pn_lald5 (q := 25) dX7_develop_24 rfl rfl rfl (by omega) (by first | decide | omega) ?_); refine pn_eq (h' := _) (st' := .long (lN Y.2.2.2.2.2.1) :: _) rfl rfl ?_
    refine pn_lconst (q := 26) (v := lN 0) dX7_develop_25 rfl (by decide) ?_
    refine pn_leq (q1 := 27) (q := 30) (tgt := 47) dX7_develop_26 rfl dX7_develop_27 (by decide) rfl (fun hc26 => ?_) (fun hc26 => ?_)
    · (rw [lN_eqI (by omega) (by omega)] at hc26; omega)
    · refine pn_aload_n (q := 31) dX7_develop_30 rfl rfl rfl ?_
      refine pn_iload_n (q := 32) dX7_develop_31 rfl rfl ?_
      refine pn_idV (q := 35) (bc9 := 0) (bs9 := 0) (m_wrongIn adK d Y P (0, a.2) b c e f g h bN Y.1 hS hB (by omega) (by omega)) lkX7_325 dX7_develop_32 rfl rfl (hM_cl) (hM_cl) (Nat.le_of_ble_eq_true rfl) rfl rfl rfl rfl rfl rfl (by omega) (by omega) (by omega) (Nat.le_of_ble_eq_true rfl) ?_
      refine pn_iconst (q := 36) (v := (-1)) dX7_develop_35 rfl (by decide) ?_
      refine pn_icmp_ne (q := 39) (tgt := 47) dX7_develop_36 (by decide) rfl (fun hc36 => ?_) (fun hc36 => ?_)
      · exact (hc36 hbd).elim
      · refine pn_aload_n (q := 40) dX7_develop_39 rfl rfl rfl ?_
        refine pn_iload_n (q := 41) dX7_develop_40 rfl rfl ?_
        refine pn_idV (q := 44) (bc9 := 0) (bs9 := 0) (m_areUnlike adK d Y P (0, a.2) b c e f g h bN Y.1 hS hB (by omega) (by omega)) lkX7_328 dX7_develop_41 rfl rfl (hM_cl) (hM_cl) (Nat.le_of_ble_eq_true rfl) rfl rfl rfl rfl rfl rfl (by omega) (by omega) (by omega) (Nat.le_of_ble_eq_true rfl) ?_
        refine pn_bne (q := 47) (tgt := 51) dX7_develop_44 (by decide) rfl (fun hc44 => ?_) (fun hc44 => ?_)
        · refine pn_iconst (q := 52) (v := nB false) dX7_develop_51 rfl (by decide) ?_
          refine pn_iconst (q := 53) (v := nI 1) dX7_develop_52 rfl (by decide) ?_
          refine pn_iconst (q := 54) (v := nI 2) dX7_develop_53 rfl (by decide) ?_
          refine pn_idV (q := 57) (bc9 := 0) (bs9 := 0) (m_badF adK d Y P (0, a.2) b c e f g h 1 2 rfl) lkX7_206 dX7_develop_54 rfl rfl (hM_cl) (hM_cl) (Nat.le_of_ble_eq_true rfl) rfl rfl rfl rfl rfl rfl (by omega) (by omega) (by omega) (Nat.le_of_ble_eq_true rfl) ?_
          refine pn_beq (q := 60) (tgt := 62) dX7_develop_57 (by decide) rfl (fun hc57 => ?_) (fun hc57 => ?_)
          · refine pn_aload_n (q := 63) dX7_develop_62 rfl rfl rfl ?_
            refine pn_idV (q := 66) (bc9 := 0) (bs9 := 0) (m_remembers adK d Y P (0, a.2) b c e f g h ha) lkX7_218 dX7_develop_63 rfl rfl (hM_cl) (hM_cl) (Nat.le_of_ble_eq_true rfl) rfl rfl rfl rfl rfl rfl (by omega) (by omega) (by omega) (Nat.le_of_ble_eq_true rfl) ?_
            refine pn_aload_n (q := 67) dX7_develop_66 rfl rfl rfl ?_
            refine pn_get (q := 70) fX7_20 dX7_develop_67 rfl rfl rfl ?_
            refine pn_iconst (q := 71) (v := nI 3) dX7_develop_70 rfl (by decide) ?_
            refine pn_lconst (q := 72) (v := lN 0) dX7_develop_71 rfl (by decide) ?_
            refine pn_last1 (q := 73) dX7_develop_72 rfl rfl rfl (by omega) (by decide) ?_; refine pn_eq (h' := hM (yP Y 0 Y.2.2.2.2.2.2.1) (keP P Y a.2.2.2.2) (keB ((0, a.2) : G0)) b c e f g h) (st' := _) (by rw [show (lN 0 : Int64) = lN 0 from rfl, nowF_pc]; rfl) rfl ?_
            refine pn_aload_n (q := 74) dX7_develop_73 rfl rfl rfl ?_
            refine pn_get (q := 77) fX7_20 dX7_develop_74 rfl rfl rfl ?_
            refine pn_bipush (q := 79) (v := nI 29) dX7_develop_77 rfl (by decide) ?_
            refine pn_lconst (q := 80) (v := lN 0) dX7_develop_79 rfl (by decide) ?_
            refine pn_last1 (q := 81) dX7_develop_80 rfl rfl rfl (by omega) (by decide) ?_; refine pn_eq (h' := hM (yD Y 0 0 (clP Y.2.2.2.2.2.2.1 0)) (keP P Y a.2.2.2.2) (keB ((0, a.2) : G0)) b c e f g h) (st' := _) (by rw [nowF_net]; rfl) rfl ?_
            refine pn_iconst (q := 82) (v := nI 0) dX7_develop_81 rfl (by decide) ?_
            refine pn_istore_n (q := 83) dX7_develop_82 rfl (by decide) ?_
            exact clear 60 0 (by omega)
          · cases hc57
        · exact ((of_decide_eq_false hc44) hun).elim
