def chd (b o : Nat) (f : Nat → Int64) : Nat := if 2 * o + 2 < b ∧ cfN (f (2 * o + 1)) (f (2 * o + 2)) = true then 2 * o + 2 else 2 * o + 1
theorem chd_ok {b o : Nat} {f : Nat → Int64} (h : 2 * o + 1 < b) : chd b o f < b ∧ (chd b o f = 2 * o + 1 ∨ chd b o f = 2 * o + 2) ∧ ∀ i, i < b → (i = 2 * o + 1 ∨ i = 2 * o + 2) → ky64 (f i) ≤ ky64 (f (chd b o f)) := by
  unfold chd
  split
  · rename_i q
    have := (cfN_ky _ _).mp q.2
    refine ⟨q.1, Or.inr rfl, fun i hi hc => ?_⟩
    rcases hc with hc | hc <;> subst hc <;> omega
  · rename_i q
    refine ⟨h, Or.inl rfl, fun i hi hc => ?_⟩
    rcases hc with hc | hc
    · subst hc; exact Nat.le_refl _
    · subst hc
      have : ¬ cfN (f (2 * o + 1)) (f (2 * o + 2)) = true := fun q2 => q ⟨hi, q2⟩
      rw [cfN_ky] at this
      omega
theorem siG_c (b z o : Nat) (f : Nat → Int64) : siG b (z + 1) o f = if 2 * o + 1 < b then (if cfN (f o) (f (chd b o f)) = true then siG b z (chd b o f) (swL f o (chd b o f)) else f) else f := rfl
theorem swL_l (f : Nat → Int64) {i j : Nat} (h : i ≠ j) : swL f i j i = f j := by unfold swL; rw [updL_ne _ _ h, updL_eq]
theorem swL_r (f : Nat → Int64) (i j : Nat) : swL f i j j = f i := by unfold swL; rw [updL_eq]
theorem swL_n (f : Nat → Int64) {i j k : Nat} (h1 : k ≠ i) (h2 : k ≠ j) : swL f i j k = f k := by unfold swL; rw [updL_ne _ _ h2, updL_ne _ _ h1]
theorem siG_ge (b : Nat) : ∀ z o (f : Nat → Int64) i, o < b → b ≤ i → siG b z o f i = f i
  | 0, _, _, _, _, _ => rfl
  | z + 1, o, f, i, ho, hi => by
    rw [siG_c]
    split
    · rename_i h
      have hc := chd_ok (f := f) h
      split
      · rw [siG_ge b z _ _ i hc.1 hi, swL_n _ (by omega) (by omega)]
      · rfl
    · rfl
theorem siG_all (b : Nat) (P : Int64 → Prop) : ∀ z o (f : Nat → Int64), o < b → (∀ i, i < b → P (f i)) → ∀ i, i < b → P (siG b z o f i)
  | 0, _, _, _, h, i, hi => h i hi
  | z + 1, o, f, ho, h, i, hi => by
    rw [siG_c]
    split
    · rename_i h1
      have hc := chd_ok (f := f) h1
      split
      · refine siG_all b P z _ _ hc.1 (fun k hk => ?_) i hi
        by_cases e1 : k = chd b o f
        · rw [e1, swL_r]; exact h o ho
        · by_cases e2 : k = o
          · rw [e2, swL_l _ (by omega)]; exact h _ hc.1
          · rw [swL_n _ e2 e1]; exact h k hk
      · exact h i hi
    · exact h i hi
theorem siG_ct (b c : Nat) (hbc : b ≤ c) (x : Int64) : ∀ z o (f : Nat → Int64), o < b → ctN (siG b z o f) x c = ctN f x c
  | 0, _, _, _ => rfl
  | z + 1, o, f, ho => by
    rw [siG_c]
    split
    · rename_i h1
      have hc := chd_ok (f := f) h1
      split
      · rw [siG_ct b c hbc x z _ _ hc.1, ctN_sw _ _ (by omega) (by omega)]
      · rfl
    · rfl
/-- heap in order for all parents from lo on -/
def hpO (lo b : Nat) (f : Nat → Int64) : Prop := ∀ i, i < b → 0 < i → lo ≤ (i - 1) / 2 → ky64 (f i) ≤ ky64 (f ((i - 1) / 2))
theorem siG_hp (lo b : Nat) : ∀ z o (f : Nat → Int64), o < b → b ≤ o + z → lo ≤ o → (∀ i, i < b → 0 < i → lo ≤ (i - 1) / 2 → (i - 1) / 2 ≠ o → ky64 (f i) ≤ ky64 (f ((i - 1) / 2))) → (∀ i, i < b → 0 < i → (i - 1) / 2 = o → 0 < o → lo ≤ (o - 1) / 2 → ky64 (f i) ≤ ky64 (f ((o - 1) / 2))) → hpO lo b (siG b z o f)
  | 0, o, f, ho, hz, _, _, _ => by omega
  | z + 1, o, f, ho, hz, hlo, hA, hB => by
    rw [siG_c]
    split
    · rename_i h1
      obtain ⟨c1, c2, c3⟩ := chd_ok (f := f) h1
      generalize hc : chd b o f = ch at *
      split
      · rename_i h2
        rw [cfN_ky] at h2
        have hpc : (ch - 1) / 2 = o := by omega
        refine siG_hp lo b z ch (swL f o ch) c1 (by omega) (by omega) (fun i hi h0 hl hne => ?_) (fun i hi h0 hp hc0 hl => ?_)
        · by_cases e1 : i = ch
          · rw [e1, swL_r, hpc, swL_l _ (by omega)]; omega
          · by_cases e2 : i = o
            · rw [e2, swL_l _ (by omega), swL_n _ (k := (o - 1) / 2) (by omega) (by omega)]
              exact hB ch c1 (by omega) hpc (by omega) (by rw [← e2]; exact hl)
            · rw [swL_n f e2 e1]
              by_cases e3 : (i - 1) / 2 = o
              · rw [e3, swL_l _ (by omega)]
                exact c3 i hi (by omega)
              · rw [swL_n f e3 hne]
                exact hA i hi h0 hl e3
        · rw [hpc, swL_l _ (by omega), swL_n f (k := i) (by omega) (by omega)]
          have := hA i hi h0 (by omega) (by omega)
          rw [hp] at this
          exact this
      · rename_i h2
        rw [cfN_ky] at h2
        intro i hi h0 hl
        by_cases e3 : (i - 1) / 2 = o
        · have := c3 i hi (by omega)
          rw [e3]
          omega
        · exact hA i hi h0 hl e3
    · rename_i h1
      intro i hi h0 hl
      by_cases e3 : (i - 1) / 2 = o
      · omega
      · exact hA i hi h0 hl e3
