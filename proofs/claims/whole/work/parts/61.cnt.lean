/-- how often x stands among the first c -/
def ctN (f : Nat → Int64) (x : Int64) : Nat → Nat
  | 0 => 0
  | c + 1 => ctN f x c + (if f c = x then 1 else 0)
theorem ctN_congr {f g : Nat → Int64} {x : Int64} : ∀ {c : Nat}, (∀ i, i < c → f i = g i) → ctN f x c = ctN g x c
  | 0, _ => rfl
  | c + 1, h => by unfold ctN; rw [ctN_congr (c := c) (fun i hi => h i (by omega)), h c (by omega)]
theorem ctN_up (f : Nat → Int64) (x a : Int64) (i : Nat) : ∀ {c : Nat}, i < c → ctN (vp_updL f i a) x c + (if f i = x then 1 else 0) = ctN f x c + (if a = x then 1 else 0)
  | 0, h => by omega
  | c + 1, h => by
    unfold ctN
    by_cases e : i = c
    · subst e
      rw [ctN_congr (f := vp_updL f i a) (g := f) (fun j hj => updL_ne f a (by omega)), updL_eq]
      omega
    · have := ctN_up f x a i (c := c) (by omega)
      rw [updL_ne f a (show c ≠ i by omega)]
      omega
theorem ctN_sw (f : Nat → Int64) (x : Int64) {i j c : Nat} (hi : i < c) (hj : j < c) : ctN (swL f i j) x c = ctN f x c := by
  by_cases e : i = j
  · subst e
    refine ctN_congr (fun k _ => ?_)
    unfold swL
    by_cases e2 : k = i
    · subst e2; rw [updL_eq]
    · rw [updL_ne _ _ e2, updL_ne _ _ e2]
  · have h1 := ctN_up f x (f j) i hi
    have h2 := ctN_up (vp_updL f i (f j)) x (f i) j hj
    rw [updL_ne f (f j) (show j ≠ i from fun q => e q.symm)] at h2
    unfold swL
    omega
theorem ctN_count (f : Nat → Int64) (x : Int64) : ∀ c, ((List.range c).map f).count x = ctN f x c
  | 0 => rfl
  | c + 1 => by
    rw [List.range_succ, List.map_append, List.count_append, ctN_count f x c]
    show ctN f x c + ([c].map f).count x = ctN f x c + (if f c = x then 1 else 0)
    simp [List.count_cons, List.count_nil]
/-- two rows in order with the same counts are one -/
theorem srt_uniq (K : Int64 → Nat) (hK : ∀ a b, K a = K b → a = b) : ∀ l m : List Int64, l.Perm m → l.Pairwise (fun a b => K a ≤ K b) → m.Pairwise (fun a b => K a ≤ K b) → l = m
  | [], m, h, _, _ => (List.nil_perm.mp h).symm
  | a :: l, [], h, _, _ => absurd (List.perm_nil.mp h) (by simp)
  | a :: l, b :: m, h, h1, h2 => by
    rw [List.pairwise_cons] at h1 h2
    have e : a = b := by
      have ha : a ∈ b :: m := h.mem_iff.mp List.mem_cons_self
      have hb : b ∈ a :: l := h.mem_iff.mpr List.mem_cons_self
      rcases List.mem_cons.mp ha with e | e
      · exact e
      · rcases List.mem_cons.mp hb with e2 | e2
        · exact e2.symm
        · exact hK _ _ (Nat.le_antisymm (h1.1 _ e2) (h2.1 _ e))
    subst e
    rw [srt_uniq K hK l m ((List.perm_cons a).mp h) h1.2 h2.2]
