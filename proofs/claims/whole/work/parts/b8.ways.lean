/-! ===== what a search tells ===== -/
theorem sa_keep {P : List Int64} : ∀ (r : Nat) (x : Int64) (path : List Int64) (s : T4), ¬ s.1 = 0 → ¬ (saF P false r x path s).1 = 0 ∧ (saF P false r x path s).2.2.2 = s.2.2.2 := by
  intro r
  induction r with
  | zero => exact fun x path s h => ⟨h, rfl⟩
  | succ r ih =>
    intro x path s h
    have e : saF P false (r + 1) x path s = if x = 0 then (s.1 + 1, s.2.1, s.2.2.1, if s.1 = 0 then path else s.2.2.2) else saV (saF P false r) false x path (cdL P x) s := rfl
    rw [e]
    by_cases q : x = 0
    · rw [if_pos q]
      exact ⟨by show ¬ s.1 + 1 = 0; omega, if_neg h⟩
    · rw [if_neg q]
      have key : ∀ (l : List Int64) (s : T4), ¬ s.1 = 0 → ¬ (saV (saF P false r) false x path l s).1 = 0 ∧ (saV (saF P false r) false x path l s).2.2.2 = s.2.2.2 := by
        intro l
        induction l with
        | nil => exact fun s h => ⟨h, rfl⟩
        | cons v t iht =>
          intro s h
          have e : saV (saF P false r) false x path (v :: t) s = if s.2.2.1 = true ∨ (false = true ∧ ¬ s.1 = 0) then s else if s.2.1 = 20000 then (s.1, s.2.1, true, s.2.2.2) else saV (saF P false r) false x path t (saF P false r (x &&& (v ^^^ (-1))) (path ++ [v]) (s.1, s.2.1 + 1, s.2.2.1, s.2.2.2)) := rfl
          rw [e]
          by_cases c : s.2.2.1 = true ∨ (false = true ∧ ¬ s.1 = 0)
          · rw [if_pos c]; exact ⟨h, rfl⟩
          · rw [if_neg c]
            by_cases w : s.2.1 = 20000
            · rw [if_pos w]; exact ⟨h, rfl⟩
            · rw [if_neg w]
              obtain ⟨i1, i2⟩ := ih (x &&& (v ^^^ (-1))) (path ++ [v]) (s.1, s.2.1 + 1, s.2.2.1, s.2.2.2) h
              obtain ⟨j1, j2⟩ := iht _ i1
              exact ⟨j1, j2.trans i2⟩
      exact key _ s h
def onF (a b : T4) : Prop := (a.1 = 0 ∧ a = b) ∨ (¬ a.1 = 0 ∧ ¬ b.1 = 0 ∧ a.2.2.2 = b.2.2.2)
theorem sa_once {P : List Int64} : ∀ (r : Nat) (x : Int64) (path : List Int64) (s : T4), s.1 = 0 → onF (saF P true r x path s) (saF P false r x path s) := by
  intro r
  induction r with
  | zero => exact fun x path s h => Or.inl ⟨h, rfl⟩
  | succ r ih =>
    intro x path s h
    have e : ∀ o, saF P o (r + 1) x path s = if x = 0 then (s.1 + 1, s.2.1, s.2.2.1, if s.1 = 0 then path else s.2.2.2) else saV (saF P o r) o x path (cdL P x) s := fun o => rfl
    rw [e, e]
    by_cases q : x = 0
    · rw [if_pos q, if_pos q]
      exact Or.inr ⟨by show ¬ s.1 + 1 = 0; omega, by show ¬ s.1 + 1 = 0; omega, rfl⟩
    · rw [if_neg q, if_neg q]
      have keepV : ∀ (l : List Int64) (s : T4), ¬ s.1 = 0 → ¬ (saV (saF P false r) false x path l s).1 = 0 ∧ (saV (saF P false r) false x path l s).2.2.2 = s.2.2.2 := by
        intro l
        induction l with
        | nil => exact fun s h => ⟨h, rfl⟩
        | cons v t iht =>
          intro s h
          have e : saV (saF P false r) false x path (v :: t) s = if s.2.2.1 = true ∨ (false = true ∧ ¬ s.1 = 0) then s else if s.2.1 = 20000 then (s.1, s.2.1, true, s.2.2.2) else saV (saF P false r) false x path t (saF P false r (x &&& (v ^^^ (-1))) (path ++ [v]) (s.1, s.2.1 + 1, s.2.2.1, s.2.2.2)) := rfl
          rw [e]
          by_cases c : s.2.2.1 = true ∨ (false = true ∧ ¬ s.1 = 0)
          · rw [if_pos c]; exact ⟨h, rfl⟩
          · rw [if_neg c]
            by_cases w : s.2.1 = 20000
            · rw [if_pos w]; exact ⟨h, rfl⟩
            · rw [if_neg w]
              obtain ⟨i1, i2⟩ := sa_keep r (x &&& (v ^^^ (-1))) (path ++ [v]) (s.1, s.2.1 + 1, s.2.2.1, s.2.2.2) h
              obtain ⟨j1, j2⟩ := iht _ i1
              exact ⟨j1, j2.trans i2⟩
      have key : ∀ (l : List Int64) (s : T4), s.1 = 0 → onF (saV (saF P true r) true x path l s) (saV (saF P false r) false x path l s) := by
        intro l
        induction l with
        | nil => exact fun s h => Or.inl ⟨h, rfl⟩
        | cons v t iht =>
          intro s h
          have e : ∀ o, saV (saF P o r) o x path (v :: t) s = if s.2.2.1 = true ∨ (o = true ∧ ¬ s.1 = 0) then s else if s.2.1 = 20000 then (s.1, s.2.1, true, s.2.2.2) else saV (saF P o r) o x path t (saF P o r (x &&& (v ^^^ (-1))) (path ++ [v]) (s.1, s.2.1 + 1, s.2.2.1, s.2.2.2)) := fun o => rfl
          rw [e, e]
          by_cases c : s.2.2.1 = true
          · rw [if_pos (Or.inl c), if_pos (Or.inl c)]; exact Or.inl ⟨h, rfl⟩
          · have c1 : ∀ o, ¬ (s.2.2.1 = true ∨ (o = true ∧ ¬ s.1 = 0)) := fun o z => by rcases z with z | z; exact c z; exact z.2 h
            rw [if_neg (c1 true), if_neg (c1 false)]
            by_cases w : s.2.1 = 20000
            · rw [if_pos w, if_pos w]; exact Or.inl ⟨h, rfl⟩
            · rw [if_neg w, if_neg w]
              rcases ih (x &&& (v ^^^ (-1))) (path ++ [v]) (s.1, s.2.1 + 1, s.2.2.1, s.2.2.2) h with ⟨a1, a2⟩ | ⟨a1, a2, a3⟩
              · rw [← a2]; exact iht _ a1
              · rw [saV_stop (Or.inr ⟨rfl, a1⟩)]
                obtain ⟨k1, k2⟩ := keepV t _ a2
                exact Or.inr ⟨a1, k1, a3.trans k2.symm⟩
      exact key _ s h
/-- parts that take a set of lines apart -/
def chn (P : List Int64) : Int64 → List Int64 → Prop
  | x, [] => x = 0
  | x, v :: t => v ∈ P ∧ sbL v x ∧ chn P (x &&& (v ^^^ (-1))) t
theorem cdL_mem {P : List Int64} {x v : Int64} (h : v ∈ cdL P x) : v ∈ P ∧ sbL v x := by
  unfold cdL at h
  rw [List.mem_filter, List.mem_filter] at h
  exact ⟨h.1.1, inG_iff.mp h.2⟩
theorem sa_first {P : List Int64} {o : Bool} : ∀ (r : Nat) (x : Int64) (path : List Int64) (s : T4), (s.1 = 0 → ¬ (saF P o r x path s).1 = 0 → ∃ q, (saF P o r x path s).2.2.2 = path ++ q ∧ chn P x q) ∧ (¬ s.1 = 0 → ¬ (saF P o r x path s).1 = 0 ∧ (saF P o r x path s).2.2.2 = s.2.2.2) := by
  intro r
  induction r with
  | zero => exact fun x path s => ⟨fun h h2 => absurd h h2, fun h => ⟨h, rfl⟩⟩
  | succ r ih =>
    intro x path s
    have e : saF P o (r + 1) x path s = if x = 0 then (s.1 + 1, s.2.1, s.2.2.1, if s.1 = 0 then path else s.2.2.2) else saV (saF P o r) o x path (cdL P x) s := rfl
    rw [e]
    by_cases q : x = 0
    · rw [if_pos q]
      exact ⟨fun h _ => ⟨[], by show (if s.1 = 0 then path else s.2.2.2) = path ++ []; rw [if_pos h, List.append_nil], q⟩, fun h => ⟨by show ¬ s.1 + 1 = 0; omega, if_neg h⟩⟩
    · rw [if_neg q]
      have key : ∀ (l : List Int64) (s : T4), (∀ v, v ∈ l → v ∈ P ∧ sbL v x) → (s.1 = 0 → ¬ (saV (saF P o r) o x path l s).1 = 0 → ∃ q, (saV (saF P o r) o x path l s).2.2.2 = path ++ q ∧ chn P x q) ∧ (¬ s.1 = 0 → ¬ (saV (saF P o r) o x path l s).1 = 0 ∧ (saV (saF P o r) o x path l s).2.2.2 = s.2.2.2) := by
        intro l
        induction l with
        | nil => exact fun s _ => ⟨fun h h2 => absurd h h2, fun h => ⟨h, rfl⟩⟩
        | cons v t iht =>
          intro s hl
          have e : saV (saF P o r) o x path (v :: t) s = if s.2.2.1 = true ∨ (o = true ∧ ¬ s.1 = 0) then s else if s.2.1 = 20000 then (s.1, s.2.1, true, s.2.2.2) else saV (saF P o r) o x path t (saF P o r (x &&& (v ^^^ (-1))) (path ++ [v]) (s.1, s.2.1 + 1, s.2.2.1, s.2.2.2)) := rfl
          rw [e]
          by_cases c : s.2.2.1 = true ∨ (o = true ∧ ¬ s.1 = 0)
          · rw [if_pos c]; exact ⟨fun h h2 => absurd h h2, fun h => ⟨h, rfl⟩⟩
          · rw [if_neg c]
            by_cases w : s.2.1 = 20000
            · rw [if_pos w]; exact ⟨fun h h2 => absurd h h2, fun h => ⟨h, rfl⟩⟩
            · rw [if_neg w]
              obtain ⟨i1, i2⟩ := ih (x &&& (v ^^^ (-1))) (path ++ [v]) (s.1, s.2.1 + 1, s.2.2.1, s.2.2.2)
              obtain ⟨j1, j2⟩ := iht (saF P o r (x &&& (v ^^^ (-1))) (path ++ [v]) (s.1, s.2.1 + 1, s.2.2.1, s.2.2.2)) (fun u hu => hl u (List.mem_cons_of_mem _ hu))
              refine ⟨fun h h2 => ?_, fun h => ?_⟩
              · by_cases z : (saF P o r (x &&& (v ^^^ (-1))) (path ++ [v]) (s.1, s.2.1 + 1, s.2.2.1, s.2.2.2)).1 = 0
                · exact j1 z h2
                · obtain ⟨q9, e1, e2⟩ := i1 h z
                  refine ⟨v :: q9, ?_, (hl v List.mem_cons_self).1, (hl v List.mem_cons_self).2, e2⟩
                  rw [(j2 z).2, e1, List.append_assoc]; rfl
              · obtain ⟨a, b⟩ := i2 h
                exact ⟨(j2 a).1, (j2 a).2.trans b⟩
      exact key _ s (fun v hv => cdL_mem hv)
theorem sa_cnt {P : List Int64} {o : Bool} : ∀ (r : Nat) (x : Int64) (path : List Int64) (s : T4), s.2.1 ≤ 20000 → (saF P o r x path s).2.1 ≤ 20000 ∧ s.2.1 ≤ (saF P o r x path s).2.1 ∧ (¬ x = 0 → (saF P o r x path s).1 + s.2.1 ≤ s.1 + (saF P o r x path s).2.1) ∧ (saF P o r x path s).1 + s.2.1 ≤ s.1 + (saF P o r x path s).2.1 + 1 := by
  intro r
  induction r with
  | zero => exact fun x path s h => ⟨h, Nat.le_refl _, fun _ => Nat.le_refl _, by show s.1 + s.2.1 ≤ s.1 + s.2.1 + 1; omega⟩
  | succ r ih =>
    intro x path s h
    have e : saF P o (r + 1) x path s = if x = 0 then (s.1 + 1, s.2.1, s.2.2.1, if s.1 = 0 then path else s.2.2.2) else saV (saF P o r) o x path (cdL P x) s := rfl
    rw [e]
    by_cases q : x = 0
    · rw [if_pos q]
      exact ⟨h, Nat.le_refl _, fun z => absurd q z, by show s.1 + 1 + s.2.1 ≤ s.1 + s.2.1 + 1; omega⟩
    · rw [if_neg q]
      have key : ∀ (l : List Int64) (s : T4), s.2.1 ≤ 20000 → (saV (saF P o r) o x path l s).2.1 ≤ 20000 ∧ s.2.1 ≤ (saV (saF P o r) o x path l s).2.1 ∧ (saV (saF P o r) o x path l s).1 + s.2.1 ≤ s.1 + (saV (saF P o r) o x path l s).2.1 := by
        intro l
        induction l with
        | nil => exact fun s h => ⟨h, Nat.le_refl _, Nat.le_refl _⟩
        | cons v t iht =>
          intro s h
          have e : saV (saF P o r) o x path (v :: t) s = if s.2.2.1 = true ∨ (o = true ∧ ¬ s.1 = 0) then s else if s.2.1 = 20000 then (s.1, s.2.1, true, s.2.2.2) else saV (saF P o r) o x path t (saF P o r (x &&& (v ^^^ (-1))) (path ++ [v]) (s.1, s.2.1 + 1, s.2.2.1, s.2.2.2)) := rfl
          rw [e]
          by_cases c : s.2.2.1 = true ∨ (o = true ∧ ¬ s.1 = 0)
          · rw [if_pos c]; exact ⟨h, Nat.le_refl _, Nat.le_refl _⟩
          · rw [if_neg c]
            by_cases w : s.2.1 = 20000
            · rw [if_pos w]; exact ⟨h, Nat.le_refl _, Nat.le_refl _⟩
            · rw [if_neg w]
              obtain ⟨i1, i2, -, i4⟩ := ih (x &&& (v ^^^ (-1))) (path ++ [v]) (s.1, s.2.1 + 1, s.2.2.1, s.2.2.2) (by show s.2.1 + 1 ≤ 20000; omega)
              have i2 : s.2.1 + 1 ≤ _ := i2
              have i4 : _ + (s.2.1 + 1) ≤ s.1 + _ + 1 := i4
              obtain ⟨j1, j2, j3⟩ := iht (saF P o r (x &&& (v ^^^ (-1))) (path ++ [v]) (s.1, s.2.1 + 1, s.2.2.1, s.2.2.2)) i1
              exact ⟨j1, by omega, by omega⟩
      obtain ⟨k1, k2, k3⟩ := key (cdL P x) s h
      exact ⟨k1, k2, fun _ => k3, by omega⟩
theorem sa_le {P : List Int64} {o : Bool} (x : Int64) : (saF P o 56 x [] (0, 0, false, [])).1 ≤ 20000 ∧ (saF P o 56 x [] (0, 0, false, [])).2.1 ≤ 20000 := by
  obtain ⟨h1, h2, h3, h4⟩ := sa_cnt (P := P) (o := o) 56 x [] (0, 0, false, []) (by show 0 ≤ 20000; omega)
  refine ⟨?_, h1⟩
  by_cases q : x = 0
  · have e : saF P o 56 x [] (0, 0, false, []) = (0 + 1, 0, false, if (0 : Nat) = 0 then [] else []) := if_pos q
    rw [e]; show 1 ≤ 20000; omega
  · have h3 : _ + 0 ≤ 0 + _ := h3 q
    omega
theorem chn_len {P : List Int64} (h0 : ∀ v, v ∈ P → ¬ v = 0) : ∀ (q : List Int64) (x : Int64), chn P x q → q.length ≤ pcN x
  | [], _, _ => Nat.zero_le _
  | v :: t, x, ⟨h1, h2, h3⟩ => by
    have := chn_len h0 t _ h3
    have := pc_sb h2
    have := pc_pos (h0 v h1)
    rw [List.length_cons]
    omega
