/-! ===== reading: an entry ===== -/
def datD (shd : Bool) (pct bct : Nat) (D : NS) (pn : Nat → Int32) (pl bl : Nat → Nat) (T : Nat → Int64) (pnR : Nat → Int32) (plR : Nat → Nat) (pm : Nat) (shR : Bool) : Prop :=
  (shR = shd ∧ pm = pct ∧ bct ≤ 4 ∧ (∀ j, plR j ≤ 5) ∧ (∀ j, pl j ≤ 5) ∧ ∀ j, bl j ≤ 5) ∧
  (∀ p, p < pct → plR p = pl p ∧ ∀ i, i < pl p → pnR (5 * p + i) = pn (p * 5 + i)) ∧
  (2 ≤ D.1 ∧ D.1 ≤ 11 ∧ shOk D.2.2.1 D.2.2.2.1 ∧ (shd = false → D.2.2.1 = 0 ∧ D.2.2.2.1 = 3) ∧ ok55 D.2.1 ∧ D.2.2.2.2.1 = 0) ∧
  (T 0 = lN D.1 ∧ T 1 = lN D.2.2.1 ∧ T 2 = lN D.2.2.2.1 ∧ T 3 = 0 ∧ T 4 = lN bct ∧ T 29 = D.2.1 ∧ ∀ j, 30 ≤ j → j < 90 → T j = 0) ∧
  (∀ j, 5 ≤ j → j < 29 → ∃ m, m ≤ 30 ∧ T j = lN m) ∧
  ∃ β : Nat → Nat, (∀ j, β j ≤ 30) ∧ D.2.2.2.2.2.2.2.1 = (fun j => nI (β j)) ∧ ∀ u, u < bct → T (5 + 6 * u) = lN (bl u) ∧ ∀ i, i < bl u → T (5 + 6 * u + 1 + i) = lN (β (u * 5 + i))
def datR (R : RT) (g : GT) : Prop := datD R.1 R.2.1 R.2.2.1 R.2.2.2.1 R.2.2.2.2.1 R.2.2.2.2.2.1 R.2.2.2.2.2.2 g.1 g.2.1 g.2.2.1 g.2.2.2.1 g.2.2.2.2
/-- what holds of the reader's state behind a fault too -/
def rsW (s : RS) : Prop := s.2.2.2.2.2.1 ≤ 1000 ∧ (∀ j, s.2.2.2.2.2.2.2.2.2.2.2.1 j ≤ 5) ∧ (∀ j, s.2.2.2.2.2.2.2.2.2.2.2.2 j ≤ 5) ∧ ∃ β : Nat → Nat, (∀ j, β j ≤ 30) ∧ s.2.2.2.2.2.2.2.2.2.1.2.2.2.2.2.2.2.1 = fun j => nI (β j)
def FL (s : RS) (b : G1) : Prop := b.2.2.1 = s.2.1 ∧ ¬ s.2.1 = 0 ∧ s.2.1 ≤ 4 ∧ b.2.2.2.1 = s.1 ∧ rsW s
theorem tkV_le {len : Nat} {B : Nat → Int32} {p v : Nat} (hp : p ≤ len) (hv : v ≤ 1000) : tkV len B p v ≤ 1000 := (tk_le (b := B) hp hv).2.2.2.2.2.1
theorem tkE_le {len : Nat} {B : Nat → Int32} {p : Nat} (hp : p ≤ len) : p ≤ tkS len B p ∧ tkS len B p ≤ tkE len B p ∧ tkE len B p ≤ len := by
  have := tk_le (b := B) (v := 0) hp (by omega)
  exact ⟨this.1, this.2.2.1, this.2.2.2.1⟩
theorem dat_W {R : RT} {g : GT} (h : datR R g) {fp : Int32} {flt st en kd vl : Nat} (hv : vl ≤ 1000) : rsW (fp, flt, st, en, kd, vl, R) := by
  obtain ⟨h1, h2, h3, h4, h5, β, h6, h7, h8⟩ := h
  exact ⟨hv, h1.2.2.2.2.1, h1.2.2.2.2.2, β, h6, h7⟩
def MR (len : Nat) (B : Nat → Int32) (p0 pc0 : Nat) (r : Bool × RS) (b : G1) : Prop :=
  (r.1 = false ∧ FL r.2 b) ∨ (r.1 = true ∧ ∃ (p v : Nat) (R : RT), r.2 = cst len B p v R ∧ v ≤ 1000 ∧ p ≤ len ∧ p0 < p ∧ 6 * R.2.1 + p0 ≤ 6 * pc0 + p + 1 ∧
    ((∃ g, datR R g ∧ (b = gst len p B g ∨ b = gst len (tkS len B p) B g)) ∨ (tkK len B p = 2 ∧ b.2.2.1 = 1 ∧ b.2.2.2.1 = nI (tkS len B p) ∧ ∃ g, datR R g)))
def ER (len : Nat) (B : Nat → Int32) (p0 pc0 : Nat) (r : Bool × RS) (b : G1) : Prop :=
  (r.1 = false ∧ FL r.2 b) ∨ (r.1 = true ∧ ∃ (p v : Nat) (R : RT) (g : GT), r.2 = cst len B p v R ∧ v ≤ 1000 ∧ p ≤ len ∧ p0 < p ∧ 6 * R.2.1 + p0 ≤ 6 * pc0 + p ∧ datR R g ∧ b = gst len p B g)
theorem mr_er {len : Nat} {B : Nat → Int32} {p0 pc0 : Nat} {r : Bool × RS} {b : G1} (hB : bKn B) (h : MR len B p0 pc0 r b) : ER len B p0 pc0 (if r.1 = true then pasR len B r.2 else (false, r.2)) (musM b (nI 59)) := by
  rcases h with ⟨h1, h2⟩ | ⟨h1, p, v, R, h2, hv, hp, hp0, hpos, h3⟩
  · rw [h1, if_neg (by intro z; cases z)]
    have hf : ¬ b.2.2.1 = 0 := by rw [h2.1]; exact h2.2.1
    rw [fz_mus hf]
    exact Or.inl ⟨rfl, h2⟩
  · rw [h1, if_pos rfl, h2]
    obtain ⟨t1, t2, t3⟩ := tkE_le (B := B) hp
    have ep : pasR len B (cst len B p v R) = if tkK len B p = 3 then (true, cst len B (tkE len B p) (tkV len B p v) R) else (false, (nI (tkS len B p), 1, tkS len B p, tkE len B p, tkK len B p, tkV len B p v, R)) := rfl
    rw [ep]
    rcases h3 with ⟨g, hd, hb⟩ | ⟨k2, f1, f2, g, hd⟩
    · have hm : (tkK len B p = 3 ∧ musM b (nI 59) = gst len (tkE len B p) B g) ∨ (¬ tkK len B p = 3 ∧ musM b (nI 59) = gfl len (tkS len B p) 1 (nI (tkS len B p)) B g) := by
        rcases hb with hb | hb
        · rw [hb]; exact mus_w hB g
        · have := mus_w (len := len) (p := tkS len B p) hB g
          rw [tkS_id hp, (tk_id (B := B) hp 0).1, (tk_id (B := B) hp 0).2.1] at this
          rw [hb]; exact this
      rcases hm with ⟨k3, hm⟩ | ⟨k3, hm⟩
      · rw [if_pos k3, hm]
        refine Or.inr ⟨rfl, _, _, R, g, rfl, tkV_le hp hv, t3, by omega, ?_, hd, rfl⟩
        rw [tkE_3 k3]
        omega
      · rw [if_neg k3, hm]
        exact Or.inl ⟨rfl, rfl, by show ¬ (1 : Nat) = 0; omega, by show 1 ≤ 4; omega, rfl, dat_W hd (tkV_le hp hv)⟩
    · rw [if_neg (by omega), fz_mus (by rw [f1]; omega)]
      exact Or.inl ⟨rfl, f1, by show ¬ (1 : Nat) = 0; omega, by show 1 ≤ 4; omega, f2, dat_W hd (tkV_le hp hv)⟩
theorem cst_id {len p v : Nat} {B : Nat → Int32} (hp : p ≤ len) (R : RT) : cst len B (tkS len B p) v R = cst len B p v R := by
  unfold cst
  rw [tkS_id hp, (tk_id (B := B) hp v).1, (tk_id (B := B) hp v).2.1, (tk_id (B := B) hp v).2.2]
/-- a number is asked for: both take it, or both find the same fault -/
theorem num_sim {len p : Nat} {B : Nat → Int32} (hp : p ≤ len) {lo hi : Nat} (hh : hi < 1000) (v : Nat) (hv : v ≤ 1000) (R : RT) (g : GT) (hd : datR R g) :
    (numB lo hi (cst len B p v R) = true ∧ tkK len B p = 2 ∧ lo ≤ tkV len B p v ∧ tkV len B p v ≤ hi ∧ numM lo hi (-1) (gst len p B g) = (tkV len B p v, gst len (tkE len B p) B g)) ∨
    (numB lo hi (cst len B p v R) = false ∧ ∃ x b, numM lo hi (-1) (gst len p B g) = (x, b) ∧ FL (numR lo hi (cst len B p v R)) b) := by
  have hV := tkV_le (B := B) hp hv
  have en : numB lo hi (cst len B p v R) = decide (tkK len B p = 2 ∧ lo ≤ tkV len B p v ∧ tkV len B p v ≤ hi) := rfl
  have er : numR lo hi (cst len B p v R) = (nuP (tkK len B p) (tkV len B p v) lo hi (tkS len B p) (-1), nuF (tkK len B p) (tkV len B p v) lo hi 0, tkS len B p, tkE len B p, tkK len B p, tkV len B p v, R) := rfl
  rw [en, er]
  rcases num_w (B := B) hp hh v (-1) g with ⟨k, a1, a2, a3, e⟩ | ⟨k, a, x, e⟩ | ⟨k, e⟩
  · exact Or.inl ⟨decide_eq_true ⟨k, a1, a2⟩, k, a1, a2, e⟩
  · right
    have a' : ¬ (lo ≤ tkV len B p v ∧ tkV len B p v ≤ hi) := fun z => a ⟨z.1, z.2, nI_m1 (by omega)⟩
    refine ⟨decide_eq_false (fun z => a' z.2), x, _, e, ?_⟩
    have e1 : nuP (tkK len B p) (tkV len B p v) lo hi (tkS len B p) (-1) = nI (tkS len B p) := if_neg (fun z => a' z.2)
    have e2 : nuF (tkK len B p) (tkV len B p v) lo hi 0 = 2 := by unfold nuF; rw [if_pos k, if_neg a']
    rw [e1, e2]
    exact ⟨rfl, by show ¬ (2 : Nat) = 0; omega, by show 2 ≤ 4; omega, rfl, dat_W hd hV⟩
  · right
    refine ⟨decide_eq_false (fun z => k z.1), 0, _, e, ?_⟩
    have e1 : nuP (tkK len B p) (tkV len B p v) lo hi (tkS len B p) (-1) = nI (tkS len B p) := if_neg (fun z => k z.1)
    have e2 : nuF (tkK len B p) (tkV len B p v) lo hi 0 = 1 := if_neg k
    rw [e1, e2]
    exact ⟨rfl, by show ¬ (1 : Nat) = 0; omega, by show 1 ≤ 4; omega, rfl, dat_W hd hV⟩
theorem gLn_55 {more : Bool} {n : Nat} {g : Int64} {a c : Nat} (hn : n ≤ 11) (ha : a < n) (hc : c < n) (hac : a ≠ c) (h : ok55 g) : ok55 (gLn more n g a c) := by
  have hl := ln_55 hn ha hc hac
  unfold gLn
  cases more with
  | true =>
    rw [if_pos rfl]
    intro k hk
    rw [btL_or, h k hk, btL_bL (by omega), decide_eq_false (by omega)]; rfl
  | false =>
    rw [if_neg (by intro z; cases z)]
    intro k hk
    rw [btL_mi, h k hk]; rfl
/-- the network is told anew -/
theorem dat_net {R : RT} {g : GT} (h : datR R g) {x : Int64} (hx : ok55 x) : datR (R.1, R.2.1, R.2.2.1, (R.2.2.2.1.1, x, R.2.2.2.1.2.2), R.2.2.2.2) (vp_updL g.1 29 x, g.2) := by
  obtain ⟨h1, h2, ⟨h3, h4, h5, h6, h7, h8⟩, ⟨t0, t1, t2, t3, t4, t5, t6⟩, h9, β, b1, b2, b3⟩ := h
  refine ⟨h1, h2, ⟨h3, h4, h5, h6, hx, h8⟩, ⟨?_, ?_, ?_, ?_, ?_, (show vp_updL g.1 29 x 29 = x from pk_uLs), fun j j1 j2 => ?_⟩, fun j j1 j2 => ?_, β, b1, b2, fun u hu => ?_⟩
  · show vp_updL g.1 29 x 0 = _; rw [pk_uLn (by omega)]; exact t0
  · show vp_updL g.1 29 x 1 = _; rw [pk_uLn (by omega)]; exact t1
  · show vp_updL g.1 29 x 2 = _; rw [pk_uLn (by omega)]; exact t2
  · show vp_updL g.1 29 x 3 = _; rw [pk_uLn (by omega)]; exact t3
  · show vp_updL g.1 29 x 4 = _; rw [pk_uLn (by omega)]; exact t4
  · show vp_updL g.1 29 x j = _; rw [pk_uLn (by omega)]; exact t6 j j1 j2
  · show ∃ m, m ≤ 30 ∧ vp_updL g.1 29 x j = _; rw [pk_uLn (by omega)]; exact h9 j j1 j2
  · have hb4 := h1.2.2.1
    have hu : u < R.2.2.1 := hu
    obtain ⟨c1, c2⟩ := b3 u hu
    have hbl : R.2.2.2.2.2.2 u ≤ 5 := h1.2.2.2.2.2 u
    refine ⟨?_, fun i hi => ?_⟩
    · show vp_updL g.1 29 x (5 + 6 * u) = _; rw [pk_uLn (by omega)]; exact c1
    · have hi : i < R.2.2.2.2.2.2 u := hi
      show vp_updL g.1 29 x (5 + 6 * u + 1 + i) = _; rw [pk_uLn (by omega)]; exact c2 i hi
theorem lin_sim {len p : Nat} {B : Nat → Int32} {p0 : Nat} (hB : bKn B) (hp : p ≤ len) (hp0 : p0 < p) (v : Nat) (hv : v ≤ 1000) (R : RT) (g : GT) (hd : datR R g) (more : Bool) (s : RS) (hs : advR len B s = cst len B p v R) : MR len B p0 R.2.1 (linR len B more s) (lnM R.2.2.2.1.1 more (gst len p B g)) := by
  have hD : rsD s = R.2.2.2.1 := by have := congrArg rsD hs; exact this
  obtain ⟨hn2, hn11⟩ : 2 ≤ R.2.2.2.1.1 ∧ R.2.2.2.1.1 ≤ 11 := ⟨hd.2.2.1.1, hd.2.2.1.2.1⟩
  obtain ⟨t1, t2, t3⟩ := tkE_le (B := B) hp
  have hV := tkV_le (B := B) hp hv
  unfold linR
  rw [hs, hD, cst_adv]
  generalize hN : R.2.2.2.1.1 = n at *
  have el : ∀ b : G1, lnM n more b = if (numM 0 (n - 1) (nI (numM 0 (n - 1) (-1) b).1) (numM 0 (n - 1) (-1) b).2).2.2.2.1 = 0 then bT (numM 0 (n - 1) (nI (numM 0 (n - 1) (-1) b).1) (numM 0 (n - 1) (-1) b).2).2 (vp_updL b.2.2.2.2.2.1 29 (gLn more n (b.2.2.2.2.2.1 29) (numM 0 (n - 1) (-1) b).1 (numM 0 (n - 1) (nI (numM 0 (n - 1) (-1) b).1) (numM 0 (n - 1) (-1) b).2).1)) else (numM 0 (n - 1) (nI (numM 0 (n - 1) (-1) b).1) (numM 0 (n - 1) (-1) b).2).2 := fun b => rfl
  rw [el]
  rcases num_sim (lo := 0) (hi := n - 1) hp (by omega) v hv R g hd with ⟨n1, k1, -, a2, e1⟩ | ⟨n1, x, b, e1, f1⟩
  · rw [if_pos n1, e1]
    obtain ⟨u1, u2, u3⟩ := tkE_le (B := B) t3
    have hV2 := tkV_le (B := B) t3 hV
    have en : numB 0 (n - 1) (cst len B (tkE len B p) (tkV len B p v) R) = decide (tkK len B (tkE len B p) = 2 ∧ 0 ≤ tkV len B (tkE len B p) (tkV len B p v) ∧ tkV len B (tkE len B p) (tkV len B p v) ≤ n - 1) := rfl
    have ev : rsVl (cst len B (tkE len B p) (tkV len B p v) R) = tkV len B (tkE len B p) (tkV len B p v) := rfl
    have ev1 : rsVl (cst len B p v R) = tkV len B p v := rfl
    rw [ev, ev1]
    rcases num_w (B := B) (lo := 0) (hi := n - 1) t3 (by omega) (tkV len B p v) (nI (tkV len B p v)) g with ⟨k, c1, c2, c3, e2⟩ | ⟨k, c, x, e2⟩ | ⟨k, e2⟩
    · have hne : ¬ tkV len B (tkE len B p) (tkV len B p v) = tkV len B p v := fun z => c3 (by rw [z])
      rw [if_pos (en.trans (decide_eq_true ⟨k, c1, c2⟩)), if_neg hne, e2]
      have e3 : (if (gst len (tkE len B (tkE len B p)) B g).2.2.1 = 0 then bT (gst len (tkE len B (tkE len B p)) B g) (vp_updL (gst len p B g).2.2.2.2.2.1 29 (gLn more n ((gst len p B g).2.2.2.2.2.1 29) (tkV len B p v) (tkV len B (tkE len B p) (tkV len B p v)))) else gst len (tkE len B (tkE len B p)) B g) = gst len (tkE len B (tkE len B p)) B (vp_updL g.1 29 (gLn more n (g.1 29) (tkV len B p v) (tkV len B (tkE len B p) (tkV len B p v))), g.2) := if_pos rfl
      refine Or.inr ⟨rfl, tkE len B (tkE len B p), tkV len B (tkE len B p) (tkV len B p v), (R.1, R.2.1, R.2.2.1, linD more R.2.2.2.1 (tkV len B p v) (tkV len B (tkE len B p) (tkV len B p v)), R.2.2.2.2), rfl, hV2, u3, by omega, ?_, Or.inl ⟨_, ?_, Or.inl e3⟩⟩
      · show 6 * R.2.1 + p0 ≤ 6 * R.2.1 + tkE len B (tkE len B p) + 1; omega
      · have t29 : g.1 29 = R.2.2.2.1.2.1 := hd.2.2.2.1.2.2.2.2.2.1
        have h55 : ok55 R.2.2.2.1.2.1 := hd.2.2.1.2.2.2.2.1
        unfold linD
        rw [t29, ← hN]
        exact dat_net hd (gLn_55 (by omega) (by omega) (by omega) (Ne.symm hne) h55)
    · rw [e2]
      have ef : (if (gfl len (tkE len B (tkE len B p)) 2 (nI (tkS len B (tkE len B p))) B g).2.2.1 = 0 then bT (gfl len (tkE len B (tkE len B p)) 2 (nI (tkS len B (tkE len B p))) B g) (vp_updL (gst len p B g).2.2.2.2.2.1 29 (gLn more n ((gst len p B g).2.2.2.2.2.1 29) (tkV len B p v) x)) else gfl len (tkE len B (tkE len B p)) 2 (nI (tkS len B (tkE len B p))) B g) = gfl len (tkE len B (tkE len B p)) 2 (nI (tkS len B (tkE len B p))) B g := if_neg (by show ¬ (2 : Nat) = 0; omega)
      by_cases y : 0 ≤ tkV len B (tkE len B p) (tkV len B p v) ∧ tkV len B (tkE len B p) (tkV len B p v) ≤ n - 1
      · have hne : tkV len B (tkE len B p) (tkV len B p v) = tkV len B p v := Decidable.byContradiction fun z => c ⟨y.1, y.2, fun w => z ((nI_eq (by omega) (by omega)).mp w)⟩
        rw [if_pos (en.trans (decide_eq_true ⟨k, y⟩)), if_pos hne]
        refine Or.inl ⟨rfl, ?_⟩
        rw [ef]
        exact ⟨rfl, by show ¬ (2 : Nat) = 0; omega, by show 2 ≤ 4; omega, rfl, dat_W hd hV2⟩
      · rw [if_neg (by rw [en, decide_eq_true_iff]; exact fun z => y z.2)]
        refine Or.inl ⟨rfl, ?_⟩
        rw [ef]
        have q1 : nuP (tkK len B (tkE len B p)) (tkV len B (tkE len B p) (tkV len B p v)) 0 (n - 1) (tkS len B (tkE len B p)) (-1) = nI (tkS len B (tkE len B p)) := if_neg (fun z => y z.2)
        have q2 : nuF (tkK len B (tkE len B p)) (tkV len B (tkE len B p) (tkV len B p v)) 0 (n - 1) 0 = 2 := by unfold nuF; rw [if_pos k, if_neg y]
        exact ⟨q2.symm, by show ¬ nuF (tkK len B (tkE len B p)) (tkV len B (tkE len B p) (tkV len B p v)) 0 (n - 1) 0 = 0; rw [q2]; omega, by show nuF (tkK len B (tkE len B p)) (tkV len B (tkE len B p) (tkV len B p v)) 0 (n - 1) 0 ≤ 4; rw [q2]; omega, q1.symm, dat_W hd hV2⟩
    · rw [e2, if_neg (by rw [en, decide_eq_true_iff]; exact fun z => k z.1)]
      have ef : (if (gfl len (tkS len B (tkE len B p)) 1 (nI (tkS len B (tkE len B p))) B g).2.2.1 = 0 then bT (gfl len (tkS len B (tkE len B p)) 1 (nI (tkS len B (tkE len B p))) B g) (vp_updL (gst len p B g).2.2.2.2.2.1 29 (gLn more n ((gst len p B g).2.2.2.2.2.1 29) (tkV len B p v) 0)) else gfl len (tkS len B (tkE len B p)) 1 (nI (tkS len B (tkE len B p))) B g) = gfl len (tkS len B (tkE len B p)) 1 (nI (tkS len B (tkE len B p))) B g := if_neg (by show ¬ (1 : Nat) = 0; omega)
      refine Or.inl ⟨rfl, ?_⟩
      rw [ef]
      have q1 : nuP (tkK len B (tkE len B p)) (tkV len B (tkE len B p) (tkV len B p v)) 0 (n - 1) (tkS len B (tkE len B p)) (-1) = nI (tkS len B (tkE len B p)) := if_neg (fun z => k z.1)
      have q2 : nuF (tkK len B (tkE len B p)) (tkV len B (tkE len B p) (tkV len B p v)) 0 (n - 1) 0 = 1 := if_neg k
      exact ⟨q2.symm, by show ¬ nuF (tkK len B (tkE len B p)) (tkV len B (tkE len B p) (tkV len B p v)) 0 (n - 1) 0 = 0; rw [q2]; omega, by show nuF (tkK len B (tkE len B p)) (tkV len B (tkE len B p) (tkV len B p v)) 0 (n - 1) 0 ≤ 4; rw [q2]; omega, q1.symm, dat_W hd hV2⟩
  · rw [if_neg (by rw [n1]; intro z; cases z), e1]
    have hf : ¬ b.2.2.1 = 0 := by rw [f1.1]; exact f1.2.1
    have e2 : numM 0 (n - 1) (nI x) b = (0, b) := fz_num hf _ _ _
    refine Or.inl ⟨rfl, ?_⟩
    show FL _ (if (numM 0 (n - 1) (nI x) b).2.2.2.1 = 0 then _ else (numM 0 (n - 1) (nI x) b).2)
    rw [e2, if_neg hf]
    exact f1
