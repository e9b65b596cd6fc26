theorem hM_like (Y : MN) (P : Nat → MN) (a : G0) (b : G1) (c : G3) (e : G4) (f : G5) (g : G6) (h : G7) : pnLike (hM1 Y P a b c e f g h) (hM Y P a b c e f g h) := by
  refine ⟨rfl, fun k x hk => ?_⟩
  match k, hk with
  | 17, hk => exact Or.inr ⟨_, _, (Option.some.inj hk).symm, rfl⟩
  | 18, hk => exact Or.inr ⟨_, _, (Option.some.inj hk).symm, rfl⟩
  | 0, hk | 1, hk | 2, hk | 3, hk | 4, hk | 5, hk | 6, hk | 7, hk | 8, hk | 9, hk | 10, hk | 11, hk | 12, hk | 13, hk | 14, hk | 15, hk | 16, hk | 19, hk | 20, hk | 21, hk | 22, hk => exact Or.inl hk
  | k + 23, hk => cases hk
theorem hM_at5 (Y : MN) (P : Nat → MN) (a : G0) (b : G1) (c : G3) (e : G4) (f : G5) (g : G6) (h : G7) (k : Nat) : pnAt5 (hM Y P a b c e f g h) k = decide (k = 17 ∨ k = 18) := by
  match k with
  | 17 => rfl
  | 18 => rfl
  | 0 | 1 | 2 | 3 | 4 | 5 | 6 | 7 | 8 | 9 | 10 | 11 | 12 | 13 | 14 | 15 | 16 | 19 | 20 | 21 | 22 => rfl
  | k + 23 => rw [decide_eq_false (by omega)]; rfl
theorem m_seeks (adK : Nat → Nat) (d : Nat) (r : Nat) (Y : MN) (P : Nat → MN) (a : G0) (b : G1) (c : G3) (e : G4) (f : G5) (g : G6) (h : G7) (u : Nat) (kp : Bool) (hS : shOk Y.2.2.1 Y.2.2.2.1) (hr : c.2 + r = plN Y.2.2.1 Y.2.2.2.1) (hn : Y.1 ≤ 11) (hn1 : 1 ≤ Y.1) (hu : u < 2048) (hA : e.2.2.2.2.2.2.2.2 + (skG Y.1 Y.2.2.1 Y.2.2.2.1 r c.2 u c.1).1.length ≤ 1000000) (hK : kp = true → e.2.2.2.2.2.2.2.2 + (skG Y.1 Y.2.2.1 Y.2.2.2.1 r c.2 u c.1).1.length ≤ e.1) (he : e.1 ≤ 1000000) : pnCt mX7_seeks adK (d + 3 + r) 0 0 [.ref 0, .int (nI u), .int (nB kp)] (hM Y P a b c e f g h) (pnIs (.inl none) (hM Y P a b ((skG Y.1 Y.2.2.1 Y.2.2.2.1 r c.2 u c.1).2, c.2) (eAl e (wrK kp e.2.1 e.2.2.2.2.2.2.2.2 (skG Y.1 Y.2.2.1 Y.2.2.2.1 r c.2 u c.1).1) (e.2.2.2.2.2.2.2.2 + (skG Y.1 Y.2.2.1 Y.2.2.2.1 r c.2 u c.1).1.length)) f g h)) :=
  pnCt_15 (m_seeks1 adK d r Y P a b c e f g h u kp hS hr hn hn1 hu hA hK he) (hM_like Y P a b c e f g h) (fun r9 h9 hq => by
    obtain ⟨q1, q2⟩ := hq
    subst q2
    exact ⟨_, ⟨q1, rfl⟩, hM_like _ _ _ _ _ _ _ _ _, fun k hk => by rw [hM_at5] at hk ⊢; exact hk⟩)
