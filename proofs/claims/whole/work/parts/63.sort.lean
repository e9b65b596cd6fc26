theorem hpF_ok (c : Nat) : ∀ r (f : Nat → Int64), r ≤ c → hpO r c f → hpO 0 c (hpF c r f) ∧ ∀ x, ctN (hpF c r f) x c = ctN f x c
  | 0, f, _, h => ⟨h, fun _ => rfl⟩
  | r + 1, f, hr, h => by
    have h1 : hpO r c (siG c c r f) := siG_hp r c c r f (by omega) (by omega) (Nat.le_refl _) (fun i hi h0 hl hne => h i hi h0 (by omega)) (fun i hi h0 hp h9 hl => by omega)
    have := hpF_ok c r (siG c c r f) (by omega) h1
    exact ⟨this.1, fun x => by rw [show hpF c (r + 1) f = hpF c r (siG c c r f) from rfl, this.2 x, siG_ct c c (Nat.le_refl _) x c r f (by omega)]⟩
theorem hpO_top {b : Nat} {f : Nat → Int64} (h : hpO 0 b f) : ∀ n i, i ≤ n → i < b → ky64 (f i) ≤ ky64 (f 0)
  | 0, i, hi, _ => by rw [show i = 0 by omega]; exact Nat.le_refl _
  | n + 1, i, hi, hb => by
    by_cases e : i = 0
    · rw [e]; exact Nat.le_refl _
    · exact Nat.le_trans (h i hb (by omega) (by omega)) (hpO_top h n ((i - 1) / 2) (by omega) (by omega))
theorem hsF_ok (c : Nat) : ∀ m (f : Nat → Int64), m ≤ c → hpO 0 m f → (∀ i j, i < m → m ≤ j → j < c → ky64 (f i) ≤ ky64 (f j)) → (∀ i j, m ≤ i → i ≤ j → j < c → ky64 (f i) ≤ ky64 (f j)) → (∀ i j, i ≤ j → j < c → ky64 (hsF m f i) ≤ ky64 (hsF m f j)) ∧ ∀ x, ctN (hsF m f) x c = ctN f x c
  | 0, f, _, _, _, h => ⟨fun i j hi hj => h i j (by omega) hi hj, fun _ => rfl⟩
  | m + 1, f, hm, hp, h1, h2 => by
    have e : hsF (m + 1) f = if m = 0 then f else hsF m (siG m m 0 (swL f 0 m)) := rfl
    rw [e]
    by_cases e0 : m = 0
    · rw [if_pos e0]
      refine ⟨fun i j hi hj => ?_, fun _ => rfl⟩
      by_cases q : i = 0
      · by_cases q2 : j = 0
        · rw [q, q2]; exact Nat.le_refl _
        · exact h1 i j (by omega) (by omega) hj
      · exact h2 i j (by omega) hi hj
    · rw [if_neg e0]
      have top := fun i hi => hpO_top hp i i (Nat.le_refl _) hi
      have g0 : swL f 0 m m = f 0 := swL_r f 0 m
      have gl : ∀ i, i < m → ky64 (swL f 0 m i) ≤ ky64 (f 0) := fun i hi => by
        by_cases q : i = 0
        · rw [q, swL_l f (by omega)]; exact top m (by omega)
        · rw [swL_n f q (by omega)]; exact top i (by omega)
      have gh : ∀ j, m < j → swL f 0 m j = f j := fun j hj => swL_n f (by omega) (by omega)
      have sge : ∀ j, m ≤ j → siG m m 0 (swL f 0 m) j = swL f 0 m j := fun j hj => siG_ge m m 0 _ j (by omega) hj
      have ih := hsF_ok c m (siG m m 0 (swL f 0 m)) (by omega)
        (siG_hp 0 m m 0 _ (by omega) (by omega) (Nat.le_refl _) (fun i hi h0 _ hne => by
          have q : 0 < (i - 1) / 2 := by omega
          rw [swL_n f (k := i) (by omega) (by omega), swL_n f (k := (i - 1) / 2) (by omega) (by omega)]
          exact hp i (by omega) h0 (by omega)) (fun i hi h0 hp0 h9 _ => by omega))
        (fun i j hi hj hjc => by
          rw [sge j hj]
          refine siG_all m (fun a => ky64 a ≤ ky64 (swL f 0 m j)) m 0 (swL f 0 m) (by omega) (fun k hk => ?_) i hi
          by_cases q : j = m
          · rw [q, g0]; exact gl k hk
          · rw [gh j (by omega)]
            exact Nat.le_trans (gl k hk) (h1 0 j (by omega) (by omega) hjc))
        (fun i j hi hij hjc => by
          rw [sge i hi, sge j (by omega)]
          by_cases q : i = m
          · by_cases q2 : j = m
            · rw [q, q2]; exact Nat.le_refl _
            · rw [q, g0, gh j (by omega)]; exact h1 0 j (by omega) (by omega) hjc
          · rw [gh i (by omega), gh j (by omega)]; exact h2 i j (by omega) hij hjc)
      refine ⟨ih.1, fun x => ?_⟩
      rw [ih.2 x, siG_ct m c (by omega) x m 0 _ (by omega), ctN_sw f x (by omega) (by omega)]
/-- the catalog's rows behind its sort: in order, with the same counts -/
theorem sort_ok (c : Nat) (f : Nat → Int64) : (∀ i j, i ≤ j → j < c → ky64 (hsF c (hpF c (c / 2) f) i) ≤ ky64 (hsF c (hpF c (c / 2) f) j)) ∧ ∀ x, ctN (hsF c (hpF c (c / 2) f)) x c = ctN f x c := by
  have h1 := hpF_ok c (c / 2) f (by omega) (fun i hi h0 hl => by omega)
  have h2 := hsF_ok c c (hpF c (c / 2) f) (Nat.le_refl _) h1.1 (fun i j hi hj hjc => by omega) (fun i j hi hij hj => by omega)
  exact ⟨h2.1, fun x => by rw [h2.2 x, h1.2 x]⟩
