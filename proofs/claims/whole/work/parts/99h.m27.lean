/-! the parts that are found do not hang on what lies behind the nodes in hand -/
theorem fsB_congr {sh m : Nat} {E E' : Nat → Int32} (hm : 2 ≤ m) (h : ∀ j, j < m → E j = E' j) : fsB sh E m = fsB sh E' m := by
  unfold fsB
  rw [h 0 (by omega), h 1 (by omega), h (m - 1) (by omega)]
  by_cases q : sh = 2
  · rw [if_pos q, if_pos q]
  · rw [if_neg q, if_neg q]
    by_cases q1 : sh = 1
    · rw [if_pos q1, if_pos q1]
    · rw [if_neg q1, if_neg q1]
      apply decide_eq_decide.mpr
      constructor
      · exact fun x => ⟨fun i hi => by rw [← h i hi]; exact x.1 i hi, x.2⟩
      · exact fun x => ⟨fun i hi => by rw [h i hi]; exact x.1 i hi, x.2⟩
theorem skV_congr {F : Nat → (Nat → Int32) → List Int64 × (Nat → Int32)} {sh m u : Nat} (hF : ∀ u E E', (∀ j, j < m + 1 → E j = E' j) → (F u E).1 = (F u E').1 ∧ ∀ j, j < m + 1 → (F u E).2 j = E j) : ∀ (z v : Nat) (E E' : Nat → Int32), (∀ j, j < m → E j = E' j) → (skV F sh m u z v E).1 = (skV F sh m u z v E').1 ∧ ∀ j, j < m → (skV F sh m u z v E).2 j = E j := by
  intro z
  induction z with
  | zero => exact fun v E E' h => ⟨rfl, fun j hj => rfl⟩
  | succ z ih =>
    intro v E E' h
    have es : skS9 sh m E u v = skS9 sh m E' u v := by
      unfold skS9
      by_cases q : 1 < m
      · rw [h (m - 1) (by omega)]
      · rw [decide_eq_false q, Bool.false_and, Bool.false_and]
    have e1 : ∀ E, skV F sh m u (z + 1) v E = if skS9 sh m E u v = true then skV F sh m u z (v + 1) E else ((F (u ||| 2 ^ v) (upd E m (nI v))).1 ++ (skV F sh m u z (v + 1) (F (u ||| 2 ^ v) (upd E m (nI v))).2).1, (skV F sh m u z (v + 1) (F (u ||| 2 ^ v) (upd E m (nI v))).2).2) := fun E => rfl
    rw [e1 E, e1 E', ← es]
    by_cases q : skS9 sh m E u v = true
    · rw [if_pos q, if_pos q]
      exact ih (v + 1) E E' h
    · rw [if_neg q, if_neg q]
      have hu : ∀ j, j < m + 1 → upd E m (nI v) j = upd E' m (nI v) j := fun j hj => by
        unfold upd
        by_cases q : j = m
        · rw [if_pos q, if_pos q]
        · rw [if_neg q, if_neg q]; exact h j (by omega)
      obtain ⟨a1, a2⟩ := hF (u ||| 2 ^ v) _ _ hu
      obtain ⟨a3, a4⟩ := hF (u ||| 2 ^ v) _ _ (fun j hj => (hu j hj).symm)
      have hh : ∀ j, j < m → (F (u ||| 2 ^ v) (upd E m (nI v))).2 j = E j := fun j hj => by
        rw [a2 j (by omega)]
        unfold upd
        rw [if_neg (by omega)]
      have hh' : ∀ j, j < m → (F (u ||| 2 ^ v) (upd E' m (nI v))).2 j = E' j := fun j hj => by
        rw [a4 j (by omega)]
        unfold upd
        rw [if_neg (by omega)]
      obtain ⟨b1, b2⟩ := ih (v + 1) (F (u ||| 2 ^ v) (upd E m (nI v))).2 (F (u ||| 2 ^ v) (upd E' m (nI v))).2 (fun j hj => by rw [hh j hj, hh' j hj]; exact h j hj)
      refine ⟨?_, fun j hj => ?_⟩
      · show _ ++ _ = _ ++ _
        rw [a1, b1]
      · show (skV F sh m u z (v + 1) (F (u ||| 2 ^ v) (upd E m (nI v))).2).2 j = E j
        rw [b2 j hj]
        exact hh j hj
theorem skG_congr {n sh k : Nat} (hS : shOk sh k) : ∀ (r m u : Nat) (E E' : Nat → Int32), m + r = plN sh k → (∀ j, j < m → E j = E' j) → (skG n sh k r m u E).1 = (skG n sh k r m u E').1 ∧ ∀ j, j < m → (skG n sh k r m u E).2 j = E j
  | 0, m, u, E, E', hm, h => by
    obtain ⟨-, -, -, b4, b5, -⟩ := shOk_b hS
    refine ⟨?_, fun j hj => rfl⟩
    show (if fsB sh E m = true then [lpN n sh k E 0 m] else []) = (if fsB sh E' m = true then [lpN n sh k E' 0 m] else [])
    rw [fsB_congr (by omega) h, lpN_congr (n := n) (row := E) (row' := E') (f := 0) (c := m) hS (fun j hj => by rw [Nat.zero_add]; exact h j hj)]
  | r + 1, m, u, E, E', hm, h => skV_congr (F := fun u' E' => skG n sh k r (m + 1) u' E') (fun u E E' hh => skG_congr hS r (m + 1) u E E' (by omega) hh) n 0 E E' h
/-! lays -/
def frK (A : Nat → Int64) (cnt l : Nat) : Nat → Nat → Nat
  | 0, k => k
  | z + 1, k => if llN (A k) < l then frK A cnt l z (k + 1) else k
theorem frK_le (A : Nat → Int64) (cnt l : Nat) : ∀ z k, k ≤ frK A cnt l z k ∧ frK A cnt l z k ≤ k + z
  | 0, k => ⟨Nat.le_refl _, Nat.le_refl _⟩
  | z + 1, k => by
    have := frK_le A cnt l z (k + 1)
    unfold frK
    split <;> omega
def frG (A : Nat → Int64) (cnt : Nat) : Nat → Nat → Nat → (Nat → Nat) → Nat → Nat
  | 0, _, _, F => F
  | z + 1, l, k, F => frG A cnt z (l + 1) (frK A cnt l (cnt - k) k) (updN F l (frK A cnt l (cnt - k) k))
def lyS (e : G4) (cnt : Nat) (l : List Int64) : (Nat → Int64) × (Nat → Int64) := srF 15 0 cnt (wrL (if e.1 < cnt then (fun _ => 0) else e.2.1) 0 l, if e.1 < cnt then (fun _ => 0) else e.2.2.2.1)
def lyE (e : G4) (n sh k cnt : Nat) (l : List Int64) : G4 := (if e.1 < cnt then cnt else e.1, (lyS e cnt l).1, if e.1 < cnt then cnt else e.2.2.1, (lyS e cnt l).2, frG (lyS e cnt l).1 cnt 57 0 0 e.2.2.2.2.1, lN n, lN sh, lN k, cnt)
set_option maxRecDepth 100000 in
theorem m_laysSame (adK : Nat → Nat) (d : Nat) (Y : MN) (P : Nat → MN) (a : G0) (b : G1) (c : G3) (e : G4) (f : G5) (g : G6) (h : G7) (h1 : e.2.2.2.2.2.1 = lN Y.1) (h2 : e.2.2.2.2.2.2.1 = lN Y.2.2.1) (h3 : e.2.2.2.2.2.2.2.1 = lN Y.2.2.2.1) : pnCt mX7_lays adK d 0 0 [.ref 0] (hM Y P a b c e f g h) (pnIs (.inl none) (hM Y P a b c e f g h)) := by
  refine pnCt_of (by decide) kX7_lays (Nat.le_of_ble_eq_true rfl) rfl hM_cl (pnCS_b rfl) ?_
  refine pn_aload_n (q := 1) dX7_lays_0 rfl rfl rfl ?_
  refine pn_get (q := 4) fX7_255 dX7_lays_1 rfl rfl rfl ?_
  refine pn_aload_n (q := 5) dX7_lays_4 rfl rfl rfl ?_
  refine pn_get (q := 8) fX7_20 dX7_lays_5 rfl rfl rfl ?_
  refine pn_iconst (q := 9) (v := nI 0) dX7_lays_8 rfl (by decide) ?_
  (first | refine pn_lald1 (q := 10) dX7_lays_9 rfl rfl rfl (by omega) (by first | decide | omega) ?_ | refine pn_lald5 (q := 10) dX7_lays_9 rfl rfl rfl (by omega) (by first | decide | omega) ?_); refine pn_eq (h' := _) (st' := .long (lN Y.1) :: _) rfl rfl ?_
  refine pn_lne (q1 := 11) (q := 14) (tgt := 43) dX7_lays_10 rfl dX7_lays_11 (by decide) rfl (fun hc10 => ?_) (fun hc10 => ?_)
  · exact (hc10 h1).elim
  · refine pn_aload_n (q := 15) dX7_lays_14 rfl rfl rfl ?_
    refine pn_get (q := 18) fX7_259 dX7_lays_15 rfl rfl rfl ?_
    refine pn_aload_n (q := 19) dX7_lays_18 rfl rfl rfl ?_
    refine pn_get (q := 22) fX7_20 dX7_lays_19 rfl rfl rfl ?_
    refine pn_iconst (q := 23) (v := nI 1) dX7_lays_22 rfl (by decide) ?_
    (first | refine pn_lald1 (q := 24) dX7_lays_23 rfl rfl rfl (by omega) (by first | decide | omega) ?_ | refine pn_lald5 (q := 24) dX7_lays_23 rfl rfl rfl (by omega) (by first | decide | omega) ?_); refine pn_eq (h' := _) (st' := .long (lN Y.2.2.1) :: _) rfl rfl ?_
    refine pn_lne (q1 := 25) (q := 28) (tgt := 43) dX7_lays_24 rfl dX7_lays_25 (by decide) rfl (fun hc24 => ?_) (fun hc24 => ?_)
    · exact (hc24 h2).elim
    · refine pn_aload_n (q := 29) dX7_lays_28 rfl rfl rfl ?_
      refine pn_get (q := 32) fX7_262 dX7_lays_29 rfl rfl rfl ?_
      refine pn_aload_n (q := 33) dX7_lays_32 rfl rfl rfl ?_
      refine pn_get (q := 36) fX7_20 dX7_lays_33 rfl rfl rfl ?_
      refine pn_iconst (q := 37) (v := nI 2) dX7_lays_36 rfl (by decide) ?_
      (first | refine pn_lald1 (q := 38) dX7_lays_37 rfl rfl rfl (by omega) (by first | decide | omega) ?_ | refine pn_lald5 (q := 38) dX7_lays_37 rfl rfl rfl (by omega) (by first | decide | omega) ?_); refine pn_eq (h' := _) (st' := .long (lN Y.2.2.2.1) :: _) rfl rfl ?_
      refine pn_lne (q1 := 39) (q := 42) (tgt := 43) dX7_lays_38 rfl dX7_lays_39 (by decide) rfl (fun hc38 => ?_) (fun hc38 => ?_)
      · exact (hc38 h3).elim
      · refine pn_vret dX7_lays_42 rfl ?_
        exact ⟨rfl, rfl⟩
set_option maxRecDepth 100000 in
theorem m_laysNew (adK : Nat → Nat) (d : Nat) (Y : MN) (P : Nat → MN) (a : G0) (b : G1) (c : G3) (e : G4) (f : G5) (g : G6) (h : G7) (hS : shOk Y.2.2.1 Y.2.2.2.1) (hn : Y.1 ≤ 11) (hn1 : 1 ≤ Y.1) (hne : ¬ (e.2.2.2.2.2.1 = lN Y.1 ∧ e.2.2.2.2.2.2.1 = lN Y.2.2.1 ∧ e.2.2.2.2.2.2.2.1 = lN Y.2.2.2.1)) (hlen : e.1 = e.2.2.1) (he : e.1 ≤ 60000) (hcnt : ((skG Y.1 Y.2.2.1 Y.2.2.2.1 (plN Y.2.2.1 Y.2.2.2.1) 0 0 c.1).1.length) ≤ 30000) (hnz : ∀ j, j < ((skG Y.1 Y.2.2.1 Y.2.2.2.1 (plN Y.2.2.1 Y.2.2.2.1) 0 0 c.1).1.length) → ¬ (lyS e ((skG Y.1 Y.2.2.1 Y.2.2.2.1 (plN Y.2.2.1 Y.2.2.2.1) 0 0 c.1).1.length) (skG Y.1 Y.2.2.1 Y.2.2.2.1 (plN Y.2.2.1 Y.2.2.2.1) 0 0 (skG Y.1 Y.2.2.1 Y.2.2.2.1 (plN Y.2.2.1 Y.2.2.2.1) 0 0 c.1).2).1).1 j = 0) : pnCt mX7_lays adK (d + 20) (if e.1 < ((skG Y.1 Y.2.2.1 Y.2.2.2.1 (plN Y.2.2.1 Y.2.2.2.1) 0 0 c.1).1.length) then 2 else 0) (if e.1 < ((skG Y.1 Y.2.2.1 Y.2.2.2.1 (plN Y.2.2.1 Y.2.2.2.1) 0 0 c.1).1.length) then 2 * ((skG Y.1 Y.2.2.1 Y.2.2.2.1 (plN Y.2.2.1 Y.2.2.2.1) 0 0 c.1).1.length) else 0) [.ref 0] (hM Y P a b c e f g h) (pnIs (.inl none) (hM Y P a b ((skG Y.1 Y.2.2.1 Y.2.2.2.1 (plN Y.2.2.1 Y.2.2.2.1) 0 0 (skG Y.1 Y.2.2.1 Y.2.2.2.1 (plN Y.2.2.1 Y.2.2.2.1) 0 0 c.1).2).2, 0) (lyE e Y.1 Y.2.2.1 Y.2.2.2.1 ((skG Y.1 Y.2.2.1 Y.2.2.2.1 (plN Y.2.2.1 Y.2.2.2.1) 0 0 c.1).1.length) (skG Y.1 Y.2.2.1 Y.2.2.2.1 (plN Y.2.2.1 Y.2.2.2.1) 0 0 (skG Y.1 Y.2.2.1 Y.2.2.2.1 (plN Y.2.2.1 Y.2.2.2.1) 0 0 c.1).2).1) f g h)) := by
  refine pnCt_of (by decide) kX7_lays (Nat.le_of_ble_eq_true rfl) rfl hM_cl (pnCS_b rfl) ?_
  obtain ⟨b1, b2, b3, b4, b5, b6⟩ := shOk_b hS
  have hR2 : (skG Y.1 Y.2.2.1 Y.2.2.2.1 (plN Y.2.2.1 Y.2.2.2.1) 0 0 (skG Y.1 Y.2.2.1 Y.2.2.2.1 (plN Y.2.2.1 Y.2.2.2.1) 0 0 c.1).2).1 = (skG Y.1 Y.2.2.1 Y.2.2.2.1 (plN Y.2.2.1 Y.2.2.2.1) 0 0 c.1).1 := (skG_congr (n := Y.1) hS (plN Y.2.2.1 Y.2.2.2.1) 0 0 (skG Y.1 Y.2.2.1 Y.2.2.2.1 (plN Y.2.2.1 Y.2.2.2.1) 0 0 c.1).2 c.1 (by omega) (fun j hj => absurd hj (Nat.not_lt_zero _))).1
  have CS1 := m_seeks adK d (plN Y.2.2.1 Y.2.2.2.1) Y P a b (c.1, 0) (e.1, e.2.1, e.2.2.1, e.2.2.2.1, e.2.2.2.2.1, lN Y.1, lN Y.2.2.1, lN Y.2.2.2.1, 0) f g h 0 false hS (by show 0 + plN Y.2.2.1 Y.2.2.2.1 = _; omega) hn hn1 (by omega) (by show 0 + ((skG Y.1 Y.2.2.1 Y.2.2.2.1 (plN Y.2.2.1 Y.2.2.2.1) 0 0 c.1).1.length) ≤ 1000000; omega) (fun q => by cases q) (by show e.1 ≤ 1000000; omega)
  have CS1' : pnCt mX7_seeks adK (d + 3 + plN Y.2.2.1 Y.2.2.2.1) 0 0 [.ref 0, .int (nI 0), .int (nB false)] (hM Y P a b (c.1, 0) (e.1, e.2.1, e.2.2.1, e.2.2.2.1, e.2.2.2.2.1, lN Y.1, lN Y.2.2.1, lN Y.2.2.2.1, 0) f g h) (pnIs (.inl none) (hM Y P a b ((skG Y.1 Y.2.2.1 Y.2.2.2.1 (plN Y.2.2.1 Y.2.2.2.1) 0 0 c.1).2, 0) (e.1, e.2.1, e.2.2.1, e.2.2.2.1, e.2.2.2.2.1, lN Y.1, lN Y.2.2.1, lN Y.2.2.2.1, ((skG Y.1 Y.2.2.1 Y.2.2.2.1 (plN Y.2.2.1 Y.2.2.2.1) 0 0 c.1).1.length)) f g h)) := by
    have := CS1
    rw [show ((e.1, e.2.1, e.2.2.1, e.2.2.2.1, e.2.2.2.2.1, lN Y.1, lN Y.2.2.1, lN Y.2.2.2.1, 0) : G4).2.2.2.2.2.2.2.2 = 0 from rfl, Nat.zero_add] at this
    exact this
  clear CS1
  generalize hr1 : (skG Y.1 Y.2.2.1 Y.2.2.2.1 (plN Y.2.2.1 Y.2.2.2.1) 0 0 c.1) = r1 at *
  generalize hcn : r1.1.length = cnt at *
  have tail : ∀ (A B : Nat → Int64) (m m2 : Nat), cnt ≤ m → m = m2 → m ≤ 60000 → srF 15 0 cnt (wrL A 0 (skG Y.1 Y.2.2.1 Y.2.2.2.1 (plN Y.2.2.1 Y.2.2.2.1) 0 0 r1.2).1, B) = lyS e cnt (skG Y.1 Y.2.2.1 Y.2.2.2.1 (plN Y.2.2.1 Y.2.2.2.1) 0 0 r1.2).1 → (if e.1 < cnt then cnt else e.1) = m → (if e.1 < cnt then cnt else e.2.2.1) = m2 → pnWP mX7_lays adK (d + 20) (pnIs (.inl none) (hM Y P a b ((skG Y.1 Y.2.2.1 Y.2.2.2.1 (plN Y.2.2.1 Y.2.2.2.1) 0 0 r1.2).2, 0) (lyE e Y.1 Y.2.2.1 Y.2.2.2.1 cnt (skG Y.1 Y.2.2.1 Y.2.2.2.1 (plN Y.2.2.1 Y.2.2.2.1) 0 0 r1.2).1) f g h)) 0 0 (hM Y P a b (r1.2, 0) (m, A, m2, B, e.2.2.2.2.1, lN Y.1, lN Y.2.2.1, lN Y.2.2.2.1, cnt) f g h) [some (.ref 0)] [] 121 := by
    intro A B m m2 hm hmm hm6 eS em em2
    have CS2 := m_seeks adK d (plN Y.2.2.1 Y.2.2.2.1) Y P a b (r1.2, 0) (m, A, m2, B, e.2.2.2.2.1, lN Y.1, lN Y.2.2.1, lN Y.2.2.2.1, 0) f g h 0 true hS (by show 0 + plN Y.2.2.1 Y.2.2.2.1 = _; omega) hn hn1 (by omega) (by show 0 + (skG Y.1 Y.2.2.1 Y.2.2.2.1 (plN Y.2.2.1 Y.2.2.2.1) 0 0 r1.2).1.length ≤ 1000000; rw [hR2]; omega) (fun q => by show 0 + (skG Y.1 Y.2.2.1 Y.2.2.2.1 (plN Y.2.2.1 Y.2.2.2.1) 0 0 r1.2).1.length ≤ m; rw [hR2]; omega) (by show m ≤ 1000000; omega)
    have hl2 : (skG Y.1 Y.2.2.1 Y.2.2.2.1 (plN Y.2.2.1 Y.2.2.2.1) 0 0 r1.2).1.length = cnt := by rw [hR2]; exact hcn
    unfold lyE
    dsimp only at CS2
    generalize skG Y.1 Y.2.2.1 Y.2.2.2.1 (plN Y.2.2.1 Y.2.2.2.1) 0 0 r1.2 = r2 at *
    rw [hl2, Nat.zero_add, show wrK true A 0 r2.1 = wrL A 0 r2.1 from rfl] at CS2
    have CO := m_sorts adK d 15 Y P a b (r2.2, 0) (m, wrL A 0 r2.1, m2, B, e.2.2.2.2.1, lN Y.1, lN Y.2.2.1, lN Y.2.2.2.1, cnt) f g h 0 cnt (by omega) hm (by show cnt ≤ m2; omega) (by show m ≤ 1000000; omega) (by show m2 ≤ 1000000; omega) (by show cnt - 0 ≤ 2 ^ 15; omega)
    dsimp only at CO
    rw [eS] at CO
    rw [em, em2]
    generalize lyS e cnt r2.1 = w at *
    have inner : ∀ (l : Nat) (F : Nat → Nat), l < 57 → ∀ (z k : Nat), k + z = cnt → (∀ Q, pnWP mX7_lays adK (d + 20) Q 0 0 (hM Y P a b (r2.2, 0) (m, w.1, m2, w.2, F, lN Y.1, lN Y.2.2.1, lN Y.2.2.2.1, cnt) f g h) [some (.ref 0), some (.int (nI (frK w.1 cnt l z k))), some (.int (nI l))] [] 178 → pnWP mX7_lays adK (d + 20) Q 0 0 (hM Y P a b (r2.2, 0) (m, w.1, m2, w.2, F, lN Y.1, lN Y.2.2.1, lN Y.2.2.2.1, cnt) f g h) [some (.ref 0), some (.int (nI k)), some (.int (nI l))] [] 151) := by
      intro l F hl z
      induction z with
      | zero =>
        intro k hk Q kk
        have kk2 : pnWP mX7_lays adK (d + 20) Q 0 0 (hM Y P a b (r2.2, 0) (m, w.1, m2, w.2, F, lN Y.1, lN Y.2.2.1, lN Y.2.2.2.1, cnt) f g h) [some (.ref 0), some (.int (nI k)), some (.int (nI l))] [] 178 := kk
        refine pn_iload_n (q := 152) dX7_lays_151 rfl rfl ?_
        refine pn_aload_n (q := 153) dX7_lays_152 rfl rfl rfl ?_
        (refine pn_get (q := 156) fX7_241 dX7_lays_153 rfl rfl rfl ?_)
        refine pn_eq (h' := _) (st' := .int (nI cnt) :: _) rfl rfl ?_
        first | refine pn_nge (q := 159) (tgt := 178) dX7_lays_156 (by decide) rfl (by omega) (by omega) (fun hc156 => ?_) (fun hc156 => ?_) | refine pn_icmp_ge (q := 159) (tgt := 178) dX7_lays_156 (by decide) rfl (fun hc156 => ?_) (fun hc156 => ?_)
        · exact kk2
        · omega
      | succ z ih =>
        intro k hk Q kk
        have CL := m_least adK (d + 10) (w.1 k) (hnz k (by omega))
        have hll := llN_lt (hnz k (by omega))
        have e6 : frK w.1 cnt l (z + 1) k = if llN (w.1 k) < l then frK w.1 cnt l z (k + 1) else k := rfl
        rw [e6] at kk
        by_cases hq : llN (w.1 k) < l
        · rw [if_pos hq] at kk
          refine pn_iload_n (q := 152) dX7_lays_151 rfl rfl ?_
          refine pn_aload_n (q := 153) dX7_lays_152 rfl rfl rfl ?_
          (refine pn_get (q := 156) fX7_241 dX7_lays_153 rfl rfl rfl ?_)
          refine pn_eq (h' := _) (st' := .int (nI cnt) :: _) rfl rfl ?_
          first | refine pn_nge (q := 159) (tgt := 178) dX7_lays_156 (by decide) rfl (by omega) (by omega) (fun hc156 => ?_) (fun hc156 => ?_) | refine pn_icmp_ge (q := 159) (tgt := 178) dX7_lays_156 (by decide) rfl (fun hc156 => ?_) (fun hc156 => ?_)
          · omega
          · refine pn_aload_n (q := 160) dX7_lays_159 rfl rfl rfl ?_
            refine pn_get (q := 163) fX7_41 dX7_lays_160 rfl rfl rfl ?_
            refine pn_iload_n (q := 164) dX7_lays_163 rfl rfl ?_
            refine pn_lald5 (q := 165) dX7_lays_164 rfl rfl rfl (by show k < m; omega) (by show m < _; omega) ?_; refine pn_eq (h' := _) (st' := .long (w.1 k) :: _) rfl rfl ?_
            refine pn_roS1 (q := 168) (CL) lkX7_82 dX7_lays_165 rfl rfl (pnSel_of (I := []) rfl rfl) (pnFree_none rfl) rfl (by omega) (Nat.le_of_ble_eq_true rfl) rfl ?_
            refine pn_iload_n (q := 169) dX7_lays_168 rfl rfl ?_
            first | refine pn_nge (q := 172) (tgt := 178) dX7_lays_169 (by decide) rfl (by omega) (by omega) (fun hc169 => ?_) (fun hc169 => ?_) | refine pn_icmp_ge (q := 172) (tgt := 178) dX7_lays_169 (by decide) rfl (fun hc169 => ?_) (fun hc169 => ?_)
            · omega
            · first | refine pn_iinc1 (q := 175) dX7_lays_172 rfl rfl (by decide) ?_ | refine pn_iinc (q := 175) (mm := 1) dX7_lays_172 rfl rfl (by decide) (by decide) ?_
              refine pn_goto (q := 151) dX7_lays_175 (by decide) ?_
              exact ih (k + 1) (by omega) Q kk
        · rw [if_neg hq] at kk
          refine pn_iload_n (q := 152) dX7_lays_151 rfl rfl ?_
          refine pn_aload_n (q := 153) dX7_lays_152 rfl rfl rfl ?_
          (refine pn_get (q := 156) fX7_241 dX7_lays_153 rfl rfl rfl ?_)
          refine pn_eq (h' := _) (st' := .int (nI cnt) :: _) rfl rfl ?_
          first | refine pn_nge (q := 159) (tgt := 178) dX7_lays_156 (by decide) rfl (by omega) (by omega) (fun hc156 => ?_) (fun hc156 => ?_) | refine pn_icmp_ge (q := 159) (tgt := 178) dX7_lays_156 (by decide) rfl (fun hc156 => ?_) (fun hc156 => ?_)
          · omega
          · refine pn_aload_n (q := 160) dX7_lays_159 rfl rfl rfl ?_
            refine pn_get (q := 163) fX7_41 dX7_lays_160 rfl rfl rfl ?_
            refine pn_iload_n (q := 164) dX7_lays_163 rfl rfl ?_
            refine pn_lald5 (q := 165) dX7_lays_164 rfl rfl rfl (by show k < m; omega) (by show m < _; omega) ?_; refine pn_eq (h' := _) (st' := .long (w.1 k) :: _) rfl rfl ?_
            refine pn_roS1 (q := 168) (CL) lkX7_82 dX7_lays_165 rfl rfl (pnSel_of (I := []) rfl rfl) (pnFree_none rfl) rfl (by omega) (Nat.le_of_ble_eq_true rfl) rfl ?_
            refine pn_iload_n (q := 169) dX7_lays_168 rfl rfl ?_
            first | refine pn_nge (q := 172) (tgt := 178) dX7_lays_169 (by decide) rfl (by omega) (by omega) (fun hc169 => ?_) (fun hc169 => ?_) | refine pn_icmp_ge (q := 172) (tgt := 178) dX7_lays_169 (by decide) rfl (fun hc169 => ?_) (fun hc169 => ?_)
            · exact kk
            · omega
    have outer : ∀ (z l k : Nat) (F : Nat → Nat), l + z = 57 → k ≤ cnt → frG w.1 cnt z l k F = frG w.1 cnt 57 0 0 e.2.2.2.2.1 → pnWP mX7_lays adK (d + 20) (pnIs (.inl none) (hM Y P a b (r2.2, 0) (m, w.1, m2, w.2, frG w.1 cnt 57 0 0 e.2.2.2.2.1, lN Y.1, lN Y.2.2.1, lN Y.2.2.2.1, cnt) f g h)) 0 0 (hM Y P a b (r2.2, 0) (m, w.1, m2, w.2, F, lN Y.1, lN Y.2.2.1, lN Y.2.2.2.1, cnt) f g h) [some (.ref 0), some (.int (nI k)), some (.int (nI l))] [] 145 := by
      intro z
      induction z with
      | zero =>
        intro l k F hl hk e9
        have e8 : F = frG w.1 cnt 57 0 0 e.2.2.2.2.1 := e9
        rw [← e8]
        refine pn_iload_n (q := 146) dX7_lays_145 rfl rfl ?_
        refine pn_bipush (q := 148) (v := nI 57) dX7_lays_146 rfl (by decide) ?_
        first | refine pn_nge (q := 151) (tgt := 191) dX7_lays_148 (by decide) rfl (by omega) (by omega) (fun hc148 => ?_) (fun hc148 => ?_) | refine pn_icmp_ge (q := 151) (tgt := 191) dX7_lays_148 (by decide) rfl (fun hc148 => ?_) (fun hc148 => ?_)
        · refine pn_vret dX7_lays_191 rfl ?_
          exact ⟨rfl, rfl⟩
        · omega
      | succ z ih =>
        intro l k F hl hk e9
        have e7 : frG w.1 cnt (z + 1) l k F = frG w.1 cnt z (l + 1) (frK w.1 cnt l (cnt - k) k) (updN F l (frK w.1 cnt l (cnt - k) k)) := rfl
        have hfk := frK_le w.1 cnt l (cnt - k) k
        rw [e7] at e9
        have k9 := ih (l + 1) (frK w.1 cnt l (cnt - k) k) (updN F l (frK w.1 cnt l (cnt - k) k)) (by omega) (by omega) e9
        generalize hfr : frK w.1 cnt l (cnt - k) k = k2 at *
        have k178 : pnWP mX7_lays adK (d + 20) (pnIs (.inl none) (hM Y P a b (r2.2, 0) (m, w.1, m2, w.2, frG w.1 cnt 57 0 0 e.2.2.2.2.1, lN Y.1, lN Y.2.2.1, lN Y.2.2.2.1, cnt) f g h)) 0 0 (hM Y P a b (r2.2, 0) (m, w.1, m2, w.2, F, lN Y.1, lN Y.2.2.1, lN Y.2.2.2.1, cnt) f g h) [some (.ref 0), some (.int (nI k2)), some (.int (nI l))] [] 178 := by
          refine pn_aload_n (q := 179) dX7_lays_178 rfl rfl rfl ?_
          refine pn_get (q := 182) fX7_47 dX7_lays_179 rfl rfl rfl ?_
          refine pn_iload_n (q := 183) dX7_lays_182 rfl rfl ?_
          refine pn_iload_n (q := 184) dX7_lays_183 rfl rfl ?_
          refine pn_iast (q := 185) dX7_lays_184 rfl rfl rfl (by omega) (by decide) ?_; rw [updN_nI]
          first | refine pn_iinc1 (q := 188) dX7_lays_185 rfl rfl (by decide) ?_ | refine pn_iinc (q := 188) (mm := 1) dX7_lays_185 rfl rfl (by decide) (by decide) ?_
          refine pn_goto (q := 145) dX7_lays_188 (by decide) ?_
          exact k9
        have k151 := inner l F (by omega) (cnt - k) k (by omega) _ (by rw [hfr]; exact k178)
        refine pn_iload_n (q := 146) dX7_lays_145 rfl rfl ?_
        refine pn_bipush (q := 148) (v := nI 57) dX7_lays_146 rfl (by decide) ?_
        first | refine pn_nge (q := 151) (tgt := 191) dX7_lays_148 (by decide) rfl (by omega) (by omega) (fun hc148 => ?_) (fun hc148 => ?_) | refine pn_icmp_ge (q := 151) (tgt := 191) dX7_lays_148 (by decide) rfl (fun hc148 => ?_) (fun hc148 => ?_)
        · omega
        · exact k151
    refine pn_aload_n (q := 122) dX7_lays_121 rfl rfl rfl ?_
    refine pn_iconst (q := 123) (v := nI 0) dX7_lays_122 rfl (by decide) ?_
    (refine pn_put (q := 126) fX7_241 dX7_lays_123 rfl rfl (Nat.le_of_ble_eq_true rfl) (pnF_int _) ?_)
    refine pn_eq (h' := (hM Y P a b (r1.2, 0) (m, A, m2, B, e.2.2.2.2.1, lN Y.1, lN Y.2.2.1, lN Y.2.2.2.1, 0) f g h)) (st' := _) rfl rfl ?_
    refine pn_aload_n (q := 127) dX7_lays_126 rfl rfl rfl ?_
    refine pn_iconst (q := 128) (v := nI 0) dX7_lays_127 rfl (by decide) ?_
    refine pn_iconst (q := 129) (v := nI 1) dX7_lays_128 rfl (by decide) ?_
    refine pn_idV (q := 132) (bc9 := 0) (bs9 := 0) (CS2) lkX7_244 dX7_lays_129 rfl rfl (hM_cl) (hM_cl) (Nat.le_of_ble_eq_true rfl) rfl rfl rfl rfl rfl rfl (by omega) (by omega) (by omega) (Nat.le_of_ble_eq_true rfl) ?_
    refine pn_aload_n (q := 133) dX7_lays_132 rfl rfl rfl ?_
    refine pn_iconst (q := 134) (v := nI 0) dX7_lays_133 rfl (by decide) ?_
    refine pn_aload_n (q := 135) dX7_lays_134 rfl rfl rfl ?_
    refine pn_get (q := 138) fX7_241 dX7_lays_135 rfl rfl rfl ?_
    refine pn_idV (q := 141) (bc9 := 0) (bs9 := 0) (CO) lkX7_248 dX7_lays_138 rfl rfl (hM_cl) (hM_cl) (Nat.le_of_ble_eq_true rfl) rfl rfl rfl rfl rfl rfl (by omega) (by omega) (by omega) (Nat.le_of_ble_eq_true rfl) ?_
    refine pn_iconst (q := 142) (v := nI 0) dX7_lays_141 rfl (by decide) ?_
    refine pn_istore_n (q := 143) dX7_lays_142 rfl (by decide) ?_
    refine pn_iconst (q := 144) (v := nI 0) dX7_lays_143 rfl (by decide) ?_
    refine pn_istore_n (q := 145) dX7_lays_144 rfl (by decide) ?_
    exact outer 57 0 0 e.2.2.2.2.1 (by omega) (by omega) rfl
  have key : pnWP mX7_lays adK (d + 20) (pnIs (.inl none) (hM Y P a b ((skG Y.1 Y.2.2.1 Y.2.2.2.1 (plN Y.2.2.1 Y.2.2.2.1) 0 0 r1.2).2, 0) (lyE e Y.1 Y.2.2.1 Y.2.2.2.1 cnt (skG Y.1 Y.2.2.1 Y.2.2.2.1 (plN Y.2.2.1 Y.2.2.2.1) 0 0 r1.2).1) f g h)) (if e.1 < cnt then 2 else 0) (if e.1 < cnt then 2 * cnt else 0) (hM Y P a b c e f g h) [some (.ref 0)] [] 43 := by
    by_cases hg : e.1 < cnt
    · have k121 := tail (fun _ => 0) (fun _ => 0) cnt cnt (by omega) rfl (by omega) (by unfold lyS; rw [if_pos hg, if_pos hg]) (if_pos hg) (if_pos hg)
      refine pn_bud (bc' := 0 + 1 + 1) (bs' := 0 + cnt + cnt) ?_ (by rw [if_pos hg]; omega) (by rw [if_pos hg]; omega)
      refine pn_aload_n (q := 44) dX7_lays_43 rfl rfl rfl ?_
      refine pn_aload_n (q := 45) dX7_lays_44 rfl rfl rfl ?_
      refine pn_get (q := 48) fX7_20 dX7_lays_45 rfl rfl rfl ?_
      refine pn_iconst (q := 49) (v := nI 0) dX7_lays_48 rfl (by decide) ?_
      (first | refine pn_lald1 (q := 50) dX7_lays_49 rfl rfl rfl (by omega) (by first | decide | omega) ?_ | refine pn_lald5 (q := 50) dX7_lays_49 rfl rfl rfl (by omega) (by first | decide | omega) ?_); refine pn_eq (h' := _) (st' := .long (lN Y.1) :: _) rfl rfl ?_
      refine pn_put (q := 53) fX7_255 dX7_lays_50 rfl rfl (Nat.le_of_ble_eq_true rfl) (pnF_long _) ?_
      refine pn_aload_n (q := 54) dX7_lays_53 rfl rfl rfl ?_
      refine pn_aload_n (q := 55) dX7_lays_54 rfl rfl rfl ?_
      refine pn_get (q := 58) fX7_20 dX7_lays_55 rfl rfl rfl ?_
      refine pn_iconst (q := 59) (v := nI 1) dX7_lays_58 rfl (by decide) ?_
      (first | refine pn_lald1 (q := 60) dX7_lays_59 rfl rfl rfl (by omega) (by first | decide | omega) ?_ | refine pn_lald5 (q := 60) dX7_lays_59 rfl rfl rfl (by omega) (by first | decide | omega) ?_); refine pn_eq (h' := _) (st' := .long (lN Y.2.2.1) :: _) rfl rfl ?_
      refine pn_put (q := 63) fX7_259 dX7_lays_60 rfl rfl (Nat.le_of_ble_eq_true rfl) (pnF_long _) ?_
      refine pn_aload_n (q := 64) dX7_lays_63 rfl rfl rfl ?_
      refine pn_aload_n (q := 65) dX7_lays_64 rfl rfl rfl ?_
      refine pn_get (q := 68) fX7_20 dX7_lays_65 rfl rfl rfl ?_
      refine pn_iconst (q := 69) (v := nI 2) dX7_lays_68 rfl (by decide) ?_
      (first | refine pn_lald1 (q := 70) dX7_lays_69 rfl rfl rfl (by omega) (by first | decide | omega) ?_ | refine pn_lald5 (q := 70) dX7_lays_69 rfl rfl rfl (by omega) (by first | decide | omega) ?_); refine pn_eq (h' := _) (st' := .long (lN Y.2.2.2.1) :: _) rfl rfl ?_
      refine pn_put (q := 73) fX7_262 dX7_lays_70 rfl rfl (Nat.le_of_ble_eq_true rfl) (pnF_long _) ?_
      refine pn_aload_n (q := 74) dX7_lays_73 rfl rfl rfl ?_
      refine pn_iconst (q := 75) (v := nI 0) dX7_lays_74 rfl (by decide) ?_
      refine pn_put (q := 78) fX7_85 dX7_lays_75 rfl rfl (Nat.le_of_ble_eq_true rfl) (pnF_int _) ?_
      refine pn_aload_n (q := 79) dX7_lays_78 rfl rfl rfl ?_
      refine pn_iconst (q := 80) (v := nI 0) dX7_lays_79 rfl (by decide) ?_
      (refine pn_put (q := 83) fX7_241 dX7_lays_80 rfl rfl (Nat.le_of_ble_eq_true rfl) (pnF_int _) ?_)
      refine pn_eq (h' := (hM Y P a b (c.1, 0) (e.1, e.2.1, e.2.2.1, e.2.2.2.1, e.2.2.2.2.1, lN Y.1, lN Y.2.2.1, lN Y.2.2.2.1, 0) f g h)) (st' := _) rfl rfl ?_
      refine pn_aload_n (q := 84) dX7_lays_83 rfl rfl rfl ?_
      refine pn_iconst (q := 85) (v := nI 0) dX7_lays_84 rfl (by decide) ?_
      refine pn_iconst (q := 86) (v := nI 0) dX7_lays_85 rfl (by decide) ?_
      refine pn_idV (q := 89) (bc9 := 0 + 1 + 1) (bs9 := 0 + cnt + cnt) (CS1') lkX7_244 dX7_lays_86 rfl rfl (hM_cl) (hM_cl) (Nat.le_of_ble_eq_true rfl) rfl rfl rfl rfl rfl rfl (by omega) (by omega) (by omega) (Nat.le_of_ble_eq_true rfl) ?_
      refine pn_aload_n (q := 90) dX7_lays_89 rfl rfl rfl ?_
      refine pn_get (q := 93) fX7_41 dX7_lays_90 rfl rfl rfl ?_
      (refine pn_alen (q := 94) dX7_lays_93 rfl rfl (by decide) ?_)
      refine pn_eq (h' := _) (st' := .int (nI e.1) :: _) rfl rfl ?_
      refine pn_aload_n (q := 95) dX7_lays_94 rfl rfl rfl ?_
      (refine pn_get (q := 98) fX7_241 dX7_lays_95 rfl rfl rfl ?_)
      refine pn_eq (h' := _) (st' := .int (nI cnt) :: _) rfl rfl ?_
      first | refine pn_nge (q := 101) (tgt := 121) dX7_lays_98 (by decide) rfl (by omega) (by omega) (fun hc98 => ?_) (fun hc98 => ?_) | refine pn_icmp_ge (q := 101) (tgt := 121) dX7_lays_98 (by decide) rfl (fun hc98 => ?_) (fun hc98 => ?_)
      · omega
      · refine pn_aload_n (q := 102) dX7_lays_101 rfl rfl rfl ?_
        refine pn_aload_n (q := 103) dX7_lays_102 rfl rfl rfl ?_
        refine pn_get (q := 106) fX7_241 dX7_lays_103 rfl rfl rfl ?_
        refine pn_newl6 (q := 108) pw_163 dX7_lays_106 rfl rfl (by show cnt ≤ 60000; omega) ?_
        (refine pn_put (q := 111) fX7_41 dX7_lays_108 rfl rfl (Nat.le_of_ble_eq_true rfl) (pnF_arr rfl) ?_)
        refine m_mvAll Y P a b (r1.2, 0) (e.1, e.2.1, e.2.2.1, e.2.2.2.1, e.2.2.2.2.1, lN Y.1, lN Y.2.2.1, lN Y.2.2.2.1, cnt) f g h cnt (fun _ => 0) ?_
        refine pn_aload_n (q := 112) dX7_lays_111 rfl rfl rfl ?_
        refine pn_aload_n (q := 113) dX7_lays_112 rfl rfl rfl ?_
        refine pn_get (q := 116) fX7_241 dX7_lays_113 rfl rfl rfl ?_
        refine pn_newl6 (q := 118) pw_163 dX7_lays_116 rfl rfl (by show cnt ≤ 60000; omega) ?_
        (refine pn_put (q := 121) fX7_44 dX7_lays_118 rfl rfl (Nat.le_of_ble_eq_true rfl) (pnF_arr rfl) ?_)
        refine m_mvAside Y P a b (r1.2, 0) (cnt, (fun _ => 0), e.2.2.1, e.2.2.2.1, e.2.2.2.2.1, lN Y.1, lN Y.2.2.1, lN Y.2.2.2.1, cnt) f g h cnt (fun _ => 0) ?_
        exact k121
    · have k121 := tail e.2.1 e.2.2.2.1 e.1 e.2.2.1 (by omega) hlen he (by unfold lyS; rw [if_neg hg, if_neg hg]) (if_neg hg) (if_neg hg)
      refine pn_bud (bc' := 0) (bs' := 0) ?_ (Nat.zero_le _) (Nat.zero_le _)
      refine pn_aload_n (q := 44) dX7_lays_43 rfl rfl rfl ?_
      refine pn_aload_n (q := 45) dX7_lays_44 rfl rfl rfl ?_
      refine pn_get (q := 48) fX7_20 dX7_lays_45 rfl rfl rfl ?_
      refine pn_iconst (q := 49) (v := nI 0) dX7_lays_48 rfl (by decide) ?_
      (first | refine pn_lald1 (q := 50) dX7_lays_49 rfl rfl rfl (by omega) (by first | decide | omega) ?_ | refine pn_lald5 (q := 50) dX7_lays_49 rfl rfl rfl (by omega) (by first | decide | omega) ?_); refine pn_eq (h' := _) (st' := .long (lN Y.1) :: _) rfl rfl ?_
      refine pn_put (q := 53) fX7_255 dX7_lays_50 rfl rfl (Nat.le_of_ble_eq_true rfl) (pnF_long _) ?_
      refine pn_aload_n (q := 54) dX7_lays_53 rfl rfl rfl ?_
      refine pn_aload_n (q := 55) dX7_lays_54 rfl rfl rfl ?_
      refine pn_get (q := 58) fX7_20 dX7_lays_55 rfl rfl rfl ?_
      refine pn_iconst (q := 59) (v := nI 1) dX7_lays_58 rfl (by decide) ?_
      (first | refine pn_lald1 (q := 60) dX7_lays_59 rfl rfl rfl (by omega) (by first | decide | omega) ?_ | refine pn_lald5 (q := 60) dX7_lays_59 rfl rfl rfl (by omega) (by first | decide | omega) ?_); refine pn_eq (h' := _) (st' := .long (lN Y.2.2.1) :: _) rfl rfl ?_
      refine pn_put (q := 63) fX7_259 dX7_lays_60 rfl rfl (Nat.le_of_ble_eq_true rfl) (pnF_long _) ?_
      refine pn_aload_n (q := 64) dX7_lays_63 rfl rfl rfl ?_
      refine pn_aload_n (q := 65) dX7_lays_64 rfl rfl rfl ?_
      refine pn_get (q := 68) fX7_20 dX7_lays_65 rfl rfl rfl ?_
      refine pn_iconst (q := 69) (v := nI 2) dX7_lays_68 rfl (by decide) ?_
      (first | refine pn_lald1 (q := 70) dX7_lays_69 rfl rfl rfl (by omega) (by first | decide | omega) ?_ | refine pn_lald5 (q := 70) dX7_lays_69 rfl rfl rfl (by omega) (by first | decide | omega) ?_); refine pn_eq (h' := _) (st' := .long (lN Y.2.2.2.1) :: _) rfl rfl ?_
      refine pn_put (q := 73) fX7_262 dX7_lays_70 rfl rfl (Nat.le_of_ble_eq_true rfl) (pnF_long _) ?_
      refine pn_aload_n (q := 74) dX7_lays_73 rfl rfl rfl ?_
      refine pn_iconst (q := 75) (v := nI 0) dX7_lays_74 rfl (by decide) ?_
      refine pn_put (q := 78) fX7_85 dX7_lays_75 rfl rfl (Nat.le_of_ble_eq_true rfl) (pnF_int _) ?_
      refine pn_aload_n (q := 79) dX7_lays_78 rfl rfl rfl ?_
      refine pn_iconst (q := 80) (v := nI 0) dX7_lays_79 rfl (by decide) ?_
      (refine pn_put (q := 83) fX7_241 dX7_lays_80 rfl rfl (Nat.le_of_ble_eq_true rfl) (pnF_int _) ?_)
      refine pn_eq (h' := (hM Y P a b (c.1, 0) (e.1, e.2.1, e.2.2.1, e.2.2.2.1, e.2.2.2.2.1, lN Y.1, lN Y.2.2.1, lN Y.2.2.2.1, 0) f g h)) (st' := _) rfl rfl ?_
      refine pn_aload_n (q := 84) dX7_lays_83 rfl rfl rfl ?_
      refine pn_iconst (q := 85) (v := nI 0) dX7_lays_84 rfl (by decide) ?_
      refine pn_iconst (q := 86) (v := nI 0) dX7_lays_85 rfl (by decide) ?_
      refine pn_idV (q := 89) (bc9 := 0) (bs9 := 0) (CS1') lkX7_244 dX7_lays_86 rfl rfl (hM_cl) (hM_cl) (Nat.le_of_ble_eq_true rfl) rfl rfl rfl rfl rfl rfl (by omega) (by omega) (by omega) (Nat.le_of_ble_eq_true rfl) ?_
      refine pn_aload_n (q := 90) dX7_lays_89 rfl rfl rfl ?_
      refine pn_get (q := 93) fX7_41 dX7_lays_90 rfl rfl rfl ?_
      (refine pn_alen (q := 94) dX7_lays_93 rfl rfl (by decide) ?_)
      refine pn_eq (h' := _) (st' := .int (nI e.1) :: _) rfl rfl ?_
      refine pn_aload_n (q := 95) dX7_lays_94 rfl rfl rfl ?_
      (refine pn_get (q := 98) fX7_241 dX7_lays_95 rfl rfl rfl ?_)
      refine pn_eq (h' := _) (st' := .int (nI cnt) :: _) rfl rfl ?_
      first | refine pn_nge (q := 101) (tgt := 121) dX7_lays_98 (by decide) rfl (by omega) (by omega) (fun hc98 => ?_) (fun hc98 => ?_) | refine pn_icmp_ge (q := 101) (tgt := 121) dX7_lays_98 (by decide) rfl (fun hc98 => ?_) (fun hc98 => ?_)
      · exact k121
      · omega
  refine pn_aload_n (q := 1) dX7_lays_0 rfl rfl rfl ?_
  refine pn_get (q := 4) fX7_255 dX7_lays_1 rfl rfl rfl ?_
  refine pn_aload_n (q := 5) dX7_lays_4 rfl rfl rfl ?_
  refine pn_get (q := 8) fX7_20 dX7_lays_5 rfl rfl rfl ?_
  refine pn_iconst (q := 9) (v := nI 0) dX7_lays_8 rfl (by decide) ?_
  (first | refine pn_lald1 (q := 10) dX7_lays_9 rfl rfl rfl (by omega) (by first | decide | omega) ?_ | refine pn_lald5 (q := 10) dX7_lays_9 rfl rfl rfl (by omega) (by first | decide | omega) ?_); refine pn_eq (h' := _) (st' := .long (lN Y.1) :: _) rfl rfl ?_
  refine pn_lne (q1 := 11) (q := 14) (tgt := 43) dX7_lays_10 rfl dX7_lays_11 (by decide) rfl (fun hc10 => ?_) (fun hc10 => ?_)
  · exact key
  · refine pn_aload_n (q := 15) dX7_lays_14 rfl rfl rfl ?_
    refine pn_get (q := 18) fX7_259 dX7_lays_15 rfl rfl rfl ?_
    refine pn_aload_n (q := 19) dX7_lays_18 rfl rfl rfl ?_
    refine pn_get (q := 22) fX7_20 dX7_lays_19 rfl rfl rfl ?_
    refine pn_iconst (q := 23) (v := nI 1) dX7_lays_22 rfl (by decide) ?_
    (first | refine pn_lald1 (q := 24) dX7_lays_23 rfl rfl rfl (by omega) (by first | decide | omega) ?_ | refine pn_lald5 (q := 24) dX7_lays_23 rfl rfl rfl (by omega) (by first | decide | omega) ?_); refine pn_eq (h' := _) (st' := .long (lN Y.2.2.1) :: _) rfl rfl ?_
    refine pn_lne (q1 := 25) (q := 28) (tgt := 43) dX7_lays_24 rfl dX7_lays_25 (by decide) rfl (fun hc24 => ?_) (fun hc24 => ?_)
    · exact key
    · refine pn_aload_n (q := 29) dX7_lays_28 rfl rfl rfl ?_
      refine pn_get (q := 32) fX7_262 dX7_lays_29 rfl rfl rfl ?_
      refine pn_aload_n (q := 33) dX7_lays_32 rfl rfl rfl ?_
      refine pn_get (q := 36) fX7_20 dX7_lays_33 rfl rfl rfl ?_
      refine pn_iconst (q := 37) (v := nI 2) dX7_lays_36 rfl (by decide) ?_
      (first | refine pn_lald1 (q := 38) dX7_lays_37 rfl rfl rfl (by omega) (by first | decide | omega) ?_ | refine pn_lald5 (q := 38) dX7_lays_37 rfl rfl rfl (by omega) (by first | decide | omega) ?_); refine pn_eq (h' := _) (st' := .long (lN Y.2.2.2.1) :: _) rfl rfl ?_
      refine pn_lne (q1 := 39) (q := 42) (tgt := 43) dX7_lays_38 rfl dX7_lays_39 (by decide) rfl (fun hc38 => ?_) (fun hc38 => ?_)
      · exact key
      · exact (hne ⟨hc10, hc24, hc38⟩).elim
/-- lays, whether all is laid already or not -/
def lyQ (Y : MN) (e : G4) : Bool := decide (e.2.2.2.2.2.1 = lN Y.1 ∧ e.2.2.2.2.2.2.1 = lN Y.2.2.1 ∧ e.2.2.2.2.2.2.2.1 = lN Y.2.2.2.1)
def lyC (Y : MN) (c : G3) (e : G4) : G3 := if lyQ Y e = true then c else ((skG Y.1 Y.2.2.1 Y.2.2.2.1 (plN Y.2.2.1 Y.2.2.2.1) 0 0 (skG Y.1 Y.2.2.1 Y.2.2.2.1 (plN Y.2.2.1 Y.2.2.2.1) 0 0 c.1).2).2, 0)
def lyG (Y : MN) (c : G3) (e : G4) : G4 := if lyQ Y e = true then e else (lyE e Y.1 Y.2.2.1 Y.2.2.2.1 ((skG Y.1 Y.2.2.1 Y.2.2.2.1 (plN Y.2.2.1 Y.2.2.2.1) 0 0 c.1).1.length) (skG Y.1 Y.2.2.1 Y.2.2.2.1 (plN Y.2.2.1 Y.2.2.2.1) 0 0 (skG Y.1 Y.2.2.1 Y.2.2.2.1 (plN Y.2.2.1 Y.2.2.2.1) 0 0 c.1).2).1)
def lyM (Y : MN) (c : G3) (e : G4) : Nat := if lyQ Y e = true then 0 else if e.1 < ((skG Y.1 Y.2.2.1 Y.2.2.2.1 (plN Y.2.2.1 Y.2.2.2.1) 0 0 c.1).1.length) then 2 else 0
def lyN (Y : MN) (c : G3) (e : G4) : Nat := if lyQ Y e = true then 0 else if e.1 < ((skG Y.1 Y.2.2.1 Y.2.2.2.1 (plN Y.2.2.1 Y.2.2.2.1) 0 0 c.1).1.length) then 2 * ((skG Y.1 Y.2.2.1 Y.2.2.2.1 (plN Y.2.2.1 Y.2.2.2.1) 0 0 c.1).1.length) else 0
/-- what lays asks of the world before it -/
def lyP (Y : MN) (c : G3) (e : G4) : Prop := lyQ Y e = false → shOk Y.2.2.1 Y.2.2.2.1 ∧ Y.1 ≤ 11 ∧ 1 ≤ Y.1 ∧ e.1 = e.2.2.1 ∧ e.1 ≤ 60000 ∧ ((skG Y.1 Y.2.2.1 Y.2.2.2.1 (plN Y.2.2.1 Y.2.2.2.1) 0 0 c.1).1.length) ≤ 30000 ∧ ∀ j, j < ((skG Y.1 Y.2.2.1 Y.2.2.2.1 (plN Y.2.2.1 Y.2.2.2.1) 0 0 c.1).1.length) → ¬ (lyS e ((skG Y.1 Y.2.2.1 Y.2.2.2.1 (plN Y.2.2.1 Y.2.2.2.1) 0 0 c.1).1.length) (skG Y.1 Y.2.2.1 Y.2.2.2.1 (plN Y.2.2.1 Y.2.2.2.1) 0 0 (skG Y.1 Y.2.2.1 Y.2.2.2.1 (plN Y.2.2.1 Y.2.2.2.1) 0 0 c.1).2).1).1 j = 0
theorem m_lays (adK : Nat → Nat) (d : Nat) (Y : MN) (P : Nat → MN) (a : G0) (b : G1) (c : G3) (e : G4) (f : G5) (g : G6) (h : G7) (hp : lyP Y c e) : pnCt mX7_lays adK (d + 20) (lyM Y c e) (lyN Y c e) [.ref 0] (hM Y P a b c e f g h) (pnIs (.inl none) (hM Y P a b (lyC Y c e) (lyG Y c e) f g h)) := by
  unfold lyM lyN lyC lyG
  cases hq : lyQ Y e with
  | true =>
    rw [if_pos rfl, if_pos rfl, if_pos rfl, if_pos rfl]
    have h9 := of_decide_eq_true hq
    exact m_laysSame adK (d + 20) Y P a b c e f g h h9.1 h9.2.1 h9.2.2
  | false =>
    rw [if_neg Bool.false_ne_true, if_neg Bool.false_ne_true, if_neg Bool.false_ne_true, if_neg Bool.false_ne_true]
    obtain ⟨p1, p2, p3, p4, p5, p6, p7⟩ := hp hq
    exact m_laysNew adK d Y P a b c e f g h p1 p2 p3 (of_decide_eq_false hq) p4 p5 p6 p7
