/-! ===== the machine seen from a method: a small world of cells under numbers of its own ===== -/
abbrev pnM : Type := MethodName × ByteArray × Nat × Option FieldType × List (Nat × Nat × Nat × Nat)
abbrev pnE : Type := (Nat × vp_A) ⊕ (Nat × List Value)
abbrev pnR : Type := Option Value ⊕ String
/-- a value at addresses σ: .ref k is the k-th cell of the world, .retAddr q the address q itself -/
def pnV (σ : Nat → Nat) : Value → Value
  | .ref k => .ref (σ k)
  | .retAddr q => .ref q
  | .int x => .int x
  | .long x => .long x
  | .float x => .float x
  | .double x => .double x
  | .null => .null
def pnA (σ : Nat → Nat) : vp_A → vp_A
  | (n, .inl f) => (n, .inl f)
  | (n, .inr (.inl f)) => (n, .inr (.inl f))
  | (n, .inr (.inr (.inl f))) => (n, .inr (.inr (.inl f)))
  | (n, .inr (.inr (.inr (.inl f)))) => (n, .inr (.inr (.inr (.inl f))))
  | (n, .inr (.inr (.inr (.inr g)))) => (n, .inr (.inr (.inr (.inr (fun j => (g j).map σ)))))
def pnC (τ : Nat → ClassId) (σ : Nat → Nat) : pnE → va_E
  | .inl (t, a) => .inl (τ t, pnA σ a)
  | .inr (ci, fs) => .inr (ci, fs.map (pnV σ))
def pnW (τ : Nat → ClassId) (σ : Nat → Nat) (h : List pnE) : va_W := h.mapIdx (fun k c => (σ k, pnC τ σ c))
theorem pnW_get (τ : Nat → ClassId) (σ : Nat → Nat) (h : List pnE) (k : Nat) : (pnW τ σ h)[k]? = (h[k]?).map (fun c => (σ k, pnC τ σ c)) := by
  unfold pnW; rw [List.getElem?_mapIdx]
theorem pnW_at {τ : Nat → ClassId} {σ : Nat → Nat} {h : List pnE} {k : Nat} {c : pnE} (e : h[k]? = some c) : (pnW τ σ h)[k]? = some (σ k, pnC τ σ c) := by
  rw [pnW_get, e]; rfl
theorem pnW_of {τ : Nat → ClassId} {σ : Nat → Nat} {h : List pnE} {k : Nat} {q : Nat × va_E} (e : (pnW τ σ h)[k]? = some q) : ∃ c, h[k]? = some c ∧ q = (σ k, pnC τ σ c) := by
  rw [pnW_get] at e
  cases hk : h[k]? with
  | none => rw [hk] at e; cases e
  | some c => rw [hk] at e; exact ⟨c, rfl, (Option.some.inj e).symm⟩
theorem pnW_set (τ : Nat → ClassId) (σ : Nat → Nat) (h : List pnE) (k : Nat) (c : pnE) : (pnW τ σ h).set k (σ k, pnC τ σ c) = pnW τ σ (h.set k c) := by
  apply List.ext_getElem?
  intro i
  rw [pnW_get, List.getElem?_set, List.getElem?_set]
  have hlen : (pnW τ σ h).length = h.length := by unfold pnW; simp
  rw [hlen, pnW_get]
  by_cases e : k = i
  · subst e
    by_cases hk : k < h.length
    · simp [hk]
    · simp [hk]
  · simp [e]
theorem pnW_push (τ : Nat → ClassId) (σ : Nat → Nat) (h : List pnE) (q : Nat) (c : pnE) (hσ : ∀ k, k < h.length → True) (e : va_E) (he : e = pnC τ σ c) (hq : σ h.length = q) : pnW τ σ h ++ [(q, e)] = pnW τ σ (h ++ [c]) := by
  subst he; subst hq
  unfold pnW
  rw [List.mapIdx_append]
  simp
def pnT (τ : Nat → ClassId) : List (ClassId × FieldType) := [(τ 0, .int), (τ 1, .long), (τ 2, .byte), (τ 3, .object "PartedNet$Net"), (τ 4, .array .long), (τ 5, .long), (τ 6, .long)]
/-- the words that every method may use -/
def pnG : List Cond := lw_tbl.filter goodWord
theorem pnG_in {w : Cond} (h : w ∈ lw_tbl) (g : goodWord w = true) : w ∈ pnG := List.mem_filter.mpr ⟨h, g⟩
/-! locals, by their places -/
def pnGet : List (Option Value) → Nat → Option Value
  | [], _ => none
  | a :: _, 0 => a
  | _ :: t, i + 1 => pnGet t i
def pnWide : Option Value → Bool
  | some (.long _) => true
  | some (.double _) => true
  | _ => false
def pnSet : List (Option Value) → Nat → Value → List (Option Value)
  | [], 0, v => [some v]
  | [], i + 1, v => none :: pnSet [] i v
  | _ :: t, 0, v => some v :: (match pnWide (some v), t with | true, _ :: t' => none :: t' | _, t => t)
  | a :: t, i + 1, v => (match i, pnWide a with | 0, true => none | _, _ => a) :: pnSet t i v
def pnArgs : List Value → List (Option Value)
  | [] => []
  | v :: t => match pnWide (some v) with
    | true => some v :: none :: pnArgs t
    | false => some v :: pnArgs t
theorem pnWide_iff (v : Value) : pnWide (some v) = true ↔ v.category = 2 := by cases v <;> simp [pnWide, Value.category]
theorem pnCat (σ : Nat → Nat) (v : Value) : (pnV σ v).category = v.category := by cases v <;> rfl
theorem pnGet_set_self : ∀ (L : List (Option Value)) (i : Nat) (v : Value), pnGet (pnSet L i v) i = some v
  | [], 0, v => rfl
  | [], i + 1, v => pnGet_set_self [] i v
  | _ :: t, 0, v => rfl
  | a :: t, i + 1, v => pnGet_set_self t i v
theorem pnGet_nil (i : Nat) : pnGet [] i = none := by cases i <;> rfl
theorem pnGet_set_nil : ∀ (i j : Nat) (v x : Value), j ≠ i → pnGet (pnSet [] i v) j = some x → False
  | 0, 0, _, _, h, _ => h rfl
  | 0, j + 1, v, x, _, e => by cases j <;> cases e
  | i + 1, 0, v, x, _, e => by cases e
  | i + 1, j + 1, v, x, h, e => pnGet_set_nil i j v x (fun q => h (by rw [q])) e
theorem pnGet_set_of : ∀ (L : List (Option Value)) (i j : Nat) (v x : Value), j ≠ i → pnGet (pnSet L i v) j = some x → pnGet L j = some x ∧ ¬ (j + 1 = i ∧ x.category = 2) ∧ ¬ (v.category = 2 ∧ j = i + 1)
  | [], i, j, v, x, h, e => (pnGet_set_nil i j v x h e).elim
  | _ :: t, 0, 0, v, x, h, e => (h rfl).elim
  | a :: t, 0, j + 1, v, x, h, e => by
    unfold pnSet at e
    cases hw : pnWide (some v) with
    | false =>
      rw [hw] at e
      refine ⟨e, fun q => by omega, fun q => ?_⟩
      rw [(pnWide_iff v).mpr q.1] at hw; cases hw
    | true =>
      rw [hw] at e
      cases t with
      | nil =>
        have e2 : pnGet [] j = some x := e
        rw [pnGet_nil] at e2; cases e2
      | cons b t' =>
        cases j with
        | zero => cases e
        | succ j => exact ⟨e, fun q => by omega, fun q => by omega⟩
  | a :: t, i + 1, 0, v, x, h, e => by
    unfold pnSet at e
    cases i with
    | zero =>
      cases hw : pnWide a with
      | true => rw [hw] at e; cases e
      | false =>
        rw [hw] at e
        have e2 : a = some x := e
        subst e2
        refine ⟨rfl, fun q => ?_, fun q => by omega⟩
        rw [(pnWide_iff x).mpr q.2] at hw; cases hw
    | succ i =>
      have e2 : a = some x := e
      subst e2
      exact ⟨rfl, fun q => by omega, fun q => by omega⟩
  | a :: t, i + 1, j + 1, v, x, h, e => by
    have e2 : pnGet (pnSet t i v) j = some x := e
    obtain ⟨h1, h2, h3⟩ := pnGet_set_of t i j v x (fun q => h (by rw [q])) e2
    exact ⟨h1, fun q => h2 ⟨by omega, q.2⟩, fun q => h3 ⟨q.1, by omega⟩⟩
def pnAs (σ : Nat → Nat) (L : List (Option Value)) : List (Nat × Value) := (List.range L.length).filterMap (fun i => (pnGet L i).map (fun v => (i, pnV σ v)))
theorem pnGet_lt : ∀ {L : List (Option Value)} {i : Nat} {v : Value}, pnGet L i = some v → i < L.length
  | [], i, v, h => by rw [pnGet_nil] at h; cases h
  | a :: t, 0, v, h => Nat.succ_pos _
  | a :: t, i + 1, v, h => Nat.succ_lt_succ (pnGet_lt (L := t) h)
theorem pnAs_in {σ : Nat → Nat} {L : List (Option Value)} {i : Nat} {v : Value} (h : pnGet L i = some v) : (i, pnV σ v) ∈ pnAs σ L :=
  List.mem_filterMap.mpr ⟨i, List.mem_range.mpr (pnGet_lt h), by rw [h]; rfl⟩
theorem pnAs_of {σ : Nat → Nat} {L : List (Option Value)} {q : Nat × Value} (h : q ∈ pnAs σ L) : ∃ v, pnGet L q.1 = some v ∧ q.2 = pnV σ v := by
  obtain ⟨i, -, e⟩ := List.mem_filterMap.mp h
  cases hg : pnGet L i with
  | none => rw [hg] at e; cases e
  | some v => rw [hg] at e; cases e; exact ⟨v, hg, rfl⟩
def pnLs (σ : Nat → Nat) (ls : Array Slot) (nL : Nat) (L : List (Option Value)) : Prop := lv_has ls nL (pnAs σ L)
theorem pnLs.at {σ : Nat → Nat} {ls : Array Slot} {nL : Nat} {L : List (Option Value)} (h : pnLs σ ls nL L) {i : Nat} {v : Value} (e : pnGet L i = some v) : ls[i]? = some (.val (pnV σ v)) := h.2.2 (i, pnV σ v) (pnAs_in e)
theorem pnLs.of {σ : Nat → Nat} {ls : Array Slot} {nL : Nat} {L : List (Option Value)} {l : List (Nat × Value)} (h : lv_has ls nL l) (k : ∀ i v, pnGet L i = some v → (i, pnV σ v) ∈ l) : pnLs σ ls nL L :=
  ⟨h.1, h.2.1, fun q hq => by obtain ⟨v, e1, e2⟩ := pnAs_of hq; rw [e2]; exact h.2.2 (q.1, pnV σ v) (k q.1 v e1)⟩
theorem pnLs.sub {σ σ' : Nat → Nat} {ls : Array Slot} {nL : Nat} {L L' : List (Option Value)} (h : pnLs σ ls nL L) (k : ∀ i v, pnGet L' i = some v → pnGet L i = some v) (hv : ∀ i v, pnGet L i = some v → pnV σ' v = pnV σ v) : pnLs σ' ls nL L' :=
  pnLs.of h (fun i v e => by rw [hv i v (k i v e)]; exact pnAs_in (k i v e))
theorem pnLs.store1 {σ : Nat → Nat} {ls : Array Slot} {nL : Nat} {L : List (Option Value)} {i : Nat} {v : Value} (hc : v.category = 1) (h : lv_has ls nL ((i, pnV σ v) :: (pnAs σ L).filter (fun q => !(q.1 == i) && !(q.1 + 1 == i && q.2.category == 2)))) : pnLs σ ls nL (pnSet L i v) := by
  refine pnLs.of h (fun j x e => ?_)
  by_cases hj : j = i
  · subst hj
    rw [pnGet_set_self] at e
    cases e
    exact List.mem_cons_self
  · obtain ⟨h1, h2, -⟩ := pnGet_set_of L i j v x hj e
    refine List.mem_cons_of_mem _ (List.mem_filter.mpr ⟨pnAs_in h1, ?_⟩)
    have hj2 : (j == i) = false := by simpa using hj
    show (!(j == i) && !(j + 1 == i && (pnV σ x).category == 2)) = true
    rw [hj2, pnCat]
    by_cases h3 : j + 1 = i
    · have h4 : ¬ x.category = 2 := fun q => h2 ⟨h3, q⟩
      simp [h4]
    · simp [h3]
theorem pnLs.store2 {σ : Nat → Nat} {ls : Array Slot} {nL : Nat} {L : List (Option Value)} {i : Nat} {v : Value} (hc : v.category = 2) (h : lv_has ls nL ((i, pnV σ v) :: (pnAs σ L).filter (fun q => !(q.1 == i) && (!(q.1 == i + 1) && !(q.1 + 1 == i && q.2.category == 2))))) : pnLs σ ls nL (pnSet L i v) := by
  refine pnLs.of h (fun j x e => ?_)
  by_cases hj : j = i
  · subst hj
    rw [pnGet_set_self] at e
    cases e
    exact List.mem_cons_self
  · obtain ⟨h1, h2, h3⟩ := pnGet_set_of L i j v x hj e
    refine List.mem_cons_of_mem _ (List.mem_filter.mpr ⟨pnAs_in h1, ?_⟩)
    have hj2 : (j == i) = false := by simpa using hj
    have hj3 : (j == i + 1) = false := by simpa using fun q => h3 ⟨hc, q⟩
    show (!(j == i) && (!(j == i + 1) && !(j + 1 == i && (pnV σ x).category == 2))) = true
    rw [hj2, hj3, pnCat]
    by_cases h3 : j + 1 = i
    · have h4 : ¬ x.category = 2 := fun q => h2 ⟨h3, q⟩
      simp [h4]
    · simp [h3]
theorem pnArgs_in {σ : Nat → Nat} : ∀ (av : List Value) (b i : Nat) (v : Value), pnGet (pnArgs av) i = some v → (b + i, pnV σ v) ∈ lv_args b (av.map (pnV σ))
  | [], b, i, v, e => by rw [show pnArgs [] = [] from rfl, pnGet_nil] at e; cases e
  | a :: t, b, i, v, e => by
    unfold pnArgs at e
    show (b + i, pnV σ v) ∈ (b, pnV σ a) :: lv_args (if (pnV σ a).category = 2 then b + 2 else b + 1) (t.map (pnV σ))
    cases hw : pnWide (some a) with
    | true =>
      rw [hw] at e
      have hc : (pnV σ a).category = 2 := by rw [pnCat]; exact (pnWide_iff a).mp hw
      rw [if_pos hc]
      match i, e with
      | 0, e => cases e; exact List.mem_cons_self
      | 1, e => cases e
      | i + 2, e =>
        have := pnArgs_in (σ := σ) t (b + 2) i v e
        rw [show b + (i + 2) = b + 2 + i by omega]
        exact List.mem_cons_of_mem _ this
    | false =>
      rw [hw] at e
      have hc : ¬ (pnV σ a).category = 2 := by rw [pnCat]; intro q; rw [(pnWide_iff a).mpr q] at hw; cases hw
      rw [if_neg hc]
      match i, e with
      | 0, e => cases e; exact List.mem_cons_self
      | i + 1, e =>
        have := pnArgs_in (σ := σ) t (b + 1) i v e
        rw [show b + (i + 1) = b + 1 + i by omega]
        exact List.mem_cons_of_mem _ this
/-! nothing points out of the world -/
def pnCV (n : Nat) : Value → Prop
  | .ref k => k < n
  | _ => True
def pnCC (n : Nat) : pnE → Prop
  | .inl (_, _, .inr (.inr (.inr (.inr g)))) => ∀ j k, g j = some k → k < n
  | .inr (_, fs) => ∀ v, v ∈ fs → pnCV n v
  | _ => True
def pnCH (h : List pnE) : Prop := ∀ (k : Nat) (c : pnE), h[k]? = some c → pnCC h.length c
def pnCL (n : Nat) (L : List (Option Value)) : Prop := ∀ i v, pnGet L i = some v → pnCV n v
def pnCS (n : Nat) (st : List Value) : Prop := ∀ v, v ∈ st → pnCV n v
theorem pnCV.mono {n m : Nat} (hm : n ≤ m) {v : Value} (h : pnCV n v) : pnCV m v := by
  cases v <;> first | exact Nat.lt_of_lt_of_le h hm | trivial
theorem pnCC.mono {n m : Nat} (hm : n ≤ m) {c : pnE} (h : pnCC n c) : pnCC m c := by
  match c, h with
  | .inl (_, _, .inr (.inr (.inr (.inr g)))), h => exact fun j k e => Nat.lt_of_lt_of_le (h j k e) hm
  | .inr (_, fs), h => exact fun v hv => (h v hv).mono hm
  | .inl (_, _, .inl _), _ => trivial
  | .inl (_, _, .inr (.inl _)), _ => trivial
  | .inl (_, _, .inr (.inr (.inl _))), _ => trivial
  | .inl (_, _, .inr (.inr (.inr (.inl _)))), _ => trivial
theorem pnCS.tail {n : Nat} {v : Value} {st : List Value} (h : pnCS n (v :: st)) : pnCS n st := fun x hx => h x (List.mem_cons_of_mem _ hx)
theorem pnCS.head {n : Nat} {v : Value} {st : List Value} (h : pnCS n (v :: st)) : pnCV n v := h v List.mem_cons_self
theorem pnCS.cons {n : Nat} {v : Value} {st : List Value} (hv : pnCV n v) (h : pnCS n st) : pnCS n (v :: st) := fun x hx => by
  rcases List.mem_cons.mp hx with e | e
  · rw [e]; exact hv
  · exact h x e
theorem pnCS.mono {n m : Nat} {st : List Value} (hm : n ≤ m) (h : pnCS n st) : pnCS m st := fun x hx => (h x hx).mono hm
theorem pnCL.mono {n m : Nat} {L : List (Option Value)} (hm : n ≤ m) (h : pnCL n L) : pnCL m L := fun i v e => (h i v e).mono hm
theorem pnCL.set {n : Nat} {L : List (Option Value)} (h : pnCL n L) (i : Nat) {v : Value} (hv : pnCV n v) : pnCL n (pnSet L i v) := fun j x e => by
  by_cases hj : j = i
  · subst hj; rw [pnGet_set_self] at e; cases e; exact hv
  · exact h j x (pnGet_set_of L i j v x hj e).1
theorem pnCH.set {h : List pnE} (hc : pnCH h) (k : Nat) {c : pnE} (h2 : pnCC h.length c) : pnCH (h.set k c) := fun i x e => by
  rw [List.length_set]
  rw [List.getElem?_set] at e
  by_cases hk : k = i
  · subst hk
    rw [if_pos rfl] at e
    split at e
    · cases e; exact h2
    · cases e
  · rw [if_neg hk] at e
    exact hc i x e
theorem pnCH.push {h : List pnE} (hc : pnCH h) {c : pnE} (h2 : pnCC (h.length + 1) c) : pnCH (h ++ [c]) := fun i x e => by
  rw [List.length_append, List.length_singleton]
  rcases Nat.lt_or_ge i h.length with hi | hi
  · rw [List.getElem?_append_left hi] at e
    exact (hc i x e).mono (Nat.le_succ _)
  · rw [List.getElem?_append_right hi] at e
    generalize i - h.length = j at e
    match j, e with
    | 0, e => cases e; exact h2
    | j + 1, e => cases e
theorem pnV_eq {σ σ' : Nat → Nat} {n : Nat} (h : ∀ k, k < n → σ' k = σ k) {v : Value} (hv : pnCV n v) : pnV σ' v = pnV σ v := by
  cases v <;> first | rfl | exact congrArg Value.ref (h _ hv)
theorem pnC_eq {τ : Nat → ClassId} {σ σ' : Nat → Nat} {n : Nat} (h : ∀ k, k < n → σ' k = σ k) {c : pnE} (hc : pnCC n c) : pnC τ σ' c = pnC τ σ c := by
  match c, hc with
  | .inl (t, n9, .inr (.inr (.inr (.inr g)))), hc =>
    show (Sum.inl (τ t, n9, .inr (.inr (.inr (.inr (fun j => (g j).map σ'))))) : va_E) = Sum.inl (τ t, n9, .inr (.inr (.inr (.inr (fun j => (g j).map σ)))))
    have : (fun j => (g j).map σ') = (fun j => (g j).map σ) := by
      funext j
      cases hj : g j with
      | none => rfl
      | some k => exact congrArg some (h k (hc j k hj))
    rw [this]
  | .inr (ci, fs), hc =>
    show (Sum.inr (ci, fs.map (pnV σ')) : va_E) = Sum.inr (ci, fs.map (pnV σ))
    have : fs.map (pnV σ') = fs.map (pnV σ) := List.map_congr_left (fun v hv => pnV_eq h (hc v hv))
    rw [this]
  | .inl (_, _, .inl _), _ => rfl
  | .inl (_, _, .inr (.inl _)), _ => rfl
  | .inl (_, _, .inr (.inr (.inl _))), _ => rfl
  | .inl (_, _, .inr (.inr (.inr (.inl _)))), _ => rfl
theorem pnW_eq {τ : Nat → ClassId} {σ σ' : Nat → Nat} {h : List pnE} (hc : pnCH h) (e : ∀ k, k < h.length → σ' k = σ k) : pnW τ σ' h = pnW τ σ h := by
  apply List.ext_getElem?
  intro i
  rw [pnW_get, pnW_get]
  cases hi : h[i]? with
  | none => rfl
  | some c =>
    have hl : i < h.length := (List.getElem?_eq_some_iff.mp hi).1
    show some (σ' i, pnC τ σ' c) = some (σ i, pnC τ σ c)
    rw [e i hl, pnC_eq e (hc i c hi)]
theorem pnS_eq {σ σ' : Nat → Nat} {n : Nat} {st : List Value} (hc : pnCS n st) (e : ∀ k, k < n → σ' k = σ k) : st.map (pnV σ') = st.map (pnV σ) := List.map_congr_left (fun v hv => pnV_eq e (hc v hv))

/-! rows of kind 5 may be laid anew elsewhere -/
def pnIs5 : pnE → Bool
  | .inl (t, _) => Nat.beq t 5
  | .inr _ => false
def pnAt5 (h : List pnE) (k : Nat) : Bool := match h[k]? with
  | some c => pnIs5 c
  | none => false
def pnIs6 : pnE → Bool
  | .inl (t, _) => Nat.beq t 6
  | .inr _ => false
def pnAt6 (h : List pnE) (k : Nat) : Bool := match h[k]? with
  | some c => pnIs6 c
  | none => false
def pnKeep (n0 : Nat) (σ0 σ : Nat → Nat) (mv0 : Nat → Bool) (h : List pnE) : Prop := ∀ k, k < n0 → (σ k = σ0 k ∨ mv0 k = true) ∧ (pnAt5 h k = true → mv0 k = true) ∧ pnAt6 h k = false
theorem pnAt5_set {h : List pnE} {a k : Nat} {c c' : pnE} (he : h[a]? = some c) (hk : pnIs5 c' = true → pnIs5 c = true) (e : pnAt5 (h.set a c') k = true) : pnAt5 h k = true := by
  unfold pnAt5 at e ⊢
  rw [List.getElem?_set] at e
  by_cases q : a = k
  · subst q
    rw [if_pos rfl, if_pos (List.getElem?_eq_some_iff.mp he).1] at e
    rw [he]
    exact hk e
  · rw [if_neg q] at e; exact e
theorem pnAt6_set {h : List pnE} {a k : Nat} {c c' : pnE} (he : h[a]? = some c) (hk : pnIs6 c = false → pnIs6 c' = false) (e : pnAt6 h k = false) : pnAt6 (h.set a c') k = false := by
  unfold pnAt6 at e ⊢
  rw [List.getElem?_set]
  by_cases q : a = k
  · subst q
    rw [if_pos rfl, if_pos (List.getElem?_eq_some_iff.mp he).1]
    rw [he] at e
    exact hk e
  · rw [if_neg q]; exact e
theorem pnKeep.set {n0 : Nat} {σ0 σ : Nat → Nat} {mv0 : Nat → Bool} {h : List pnE} {a : Nat} {c c' : pnE} (w : pnKeep n0 σ0 σ mv0 h) (he : h[a]? = some c) (hk : pnIs5 c' = true → pnIs5 c = true) (hk6 : pnIs6 c = false → pnIs6 c' = false) : pnKeep n0 σ0 σ mv0 (h.set a c') :=
  fun k hk9 => ⟨(w k hk9).1, fun e => (w k hk9).2.1 (pnAt5_set he hk e), pnAt6_set he hk6 (w k hk9).2.2⟩
theorem pnKeep.push {n0 : Nat} {σ0 σ σ' : Nat → Nat} {mv0 : Nat → Bool} {h : List pnE} {c : pnE} (w : pnKeep n0 σ0 σ mv0 h) (hn : n0 ≤ h.length) (hσ : ∀ k, k < h.length → σ' k = σ k) : pnKeep n0 σ0 σ' mv0 (h ++ [c]) := fun k hk => by
  have hkl : k < h.length := by omega
  rw [hσ k hkl]
  refine ⟨(w k hk).1, fun e => (w k hk).2.1 ?_, ?_⟩
  · unfold pnAt5 at e ⊢
    rwa [List.getElem?_append_left hkl] at e
  · have := (w k hk).2.2
    unfold pnAt6 at this ⊢
    rwa [List.getElem?_append_left hkl]
