/-! ===== calls: the callee's world is a part of the caller's, under numbers of its own ===== -/
def pnRV (I : List Nat) : Value → Value
  | .ref k => .ref (I.getD k 0)
  | .retAddr q => .retAddr q
  | .int x => .int x
  | .long x => .long x
  | .float x => .float x
  | .double x => .double x
  | .null => .null
def pnRA (I : List Nat) : vp_A → vp_A
  | (n, .inl f) => (n, .inl f)
  | (n, .inr (.inl f)) => (n, .inr (.inl f))
  | (n, .inr (.inr (.inl f))) => (n, .inr (.inr (.inl f)))
  | (n, .inr (.inr (.inr (.inl f)))) => (n, .inr (.inr (.inr (.inl f))))
  | (n, .inr (.inr (.inr (.inr g)))) => (n, .inr (.inr (.inr (.inr (fun j => (g j).map (fun k => I.getD k 0))))))
def pnRC (I : List Nat) : pnE → pnE
  | .inl (t, a) => .inl (t, pnRA I a)
  | .inr (ci, fs) => .inr (ci, fs.map (pnRV I))
theorem pnV_RV (σ : Nat → Nat) (I : List Nat) (v : Value) : pnV σ (pnRV I v) = pnV (fun k => σ (I.getD k 0)) v := by cases v <;> rfl
theorem pnC_RC (τ : Nat → ClassId) (σ : Nat → Nat) (I : List Nat) (c : pnE) : pnC τ σ (pnRC I c) = pnC τ (fun k => σ (I.getD k 0)) c := by
  match c with
  | .inl (t, n, .inr (.inr (.inr (.inr g)))) =>
    show (Sum.inl (τ t, n, .inr (.inr (.inr (.inr (fun j => ((g j).map (fun k => I.getD k 0)).map σ))))) : va_E) = Sum.inl (τ t, n, .inr (.inr (.inr (.inr (fun j => (g j).map (fun k => σ (I.getD k 0)))))))
    have : (fun j => ((g j).map (fun k => I.getD k 0)).map σ) = (fun j => (g j).map (fun k => σ (I.getD k 0))) := by
      funext j; cases g j <;> rfl
    rw [this]
  | .inr (ci, fs) =>
    show (Sum.inr (ci, (fs.map (pnRV I)).map (pnV σ)) : va_E) = Sum.inr (ci, fs.map (pnV (fun k => σ (I.getD k 0))))
    have : (fs.map (pnRV I)).map (pnV σ) = fs.map (pnV (fun k => σ (I.getD k 0))) := by
      rw [List.map_map]; exact List.map_congr_left (fun v _ => pnV_RV σ I v)
    rw [this]
  | .inl (_, _, .inl _) => rfl
  | .inl (_, _, .inr (.inl _)) => rfl
  | .inl (_, _, .inr (.inr (.inl _))) => rfl
  | .inl (_, _, .inr (.inr (.inr (.inl _)))) => rfl
theorem pnCV_RV {n n' : Nat} {J : List Nat} (hJ : ∀ k, k < n → J.getD k 0 < n') {v : Value} (h : pnCV n v) : pnCV n' (pnRV J v) := by
  cases v <;> first | exact hJ _ h | trivial
theorem pnCC_RC {n n' : Nat} {J : List Nat} (hJ : ∀ k, k < n → J.getD k 0 < n') {c : pnE} (h : pnCC n c) : pnCC n' (pnRC J c) := by
  match c, h with
  | .inl (_, _, .inr (.inr (.inr (.inr g)))), h =>
    intro j k e
    cases hg : g j with
    | none => simp [hg] at e
    | some x => simp [hg] at e; rw [← e]; exact hJ x (h j x hg)
  | .inr (_, fs), h =>
    intro v hv
    obtain ⟨x, hx, rfl⟩ := List.mem_map.mp hv
    exact pnCV_RV hJ (h x hx)
  | .inl (_, _, .inl _), _ => trivial
  | .inl (_, _, .inr (.inl _)), _ => trivial
  | .inl (_, _, .inr (.inr (.inl _))), _ => trivial
  | .inl (_, _, .inr (.inr (.inr (.inl _)))), _ => trivial
/-- the callee's world is that of these places -/
def pnSel (h : List pnE) (I : List Nat) (hc : List pnE) : Prop := I.length = hc.length ∧ (∀ i j : Nat, i < I.length → j < I.length → I.getD i 0 = I.getD j 0 → i = j) ∧ ∀ (k : Nat) (c : pnE), hc[k]? = some c → h[I.getD k 0]? = some (pnRC I c)
theorem pnSel_of {h : List pnE} {I : List Nat} {hc : List pnE} (e : I.map (fun i => h[i]?) = hc.map (fun c => some (pnRC I c))) (hn : va_nd I = true) : pnSel h I hc := by
  have hl : I.length = hc.length := by have := congrArg List.length e; rwa [List.length_map, List.length_map] at this
  have hg : ∀ i, i < I.length → I[i]? = some (I.getD i 0) := fun i hi => by
    rw [List.getElem?_eq_getElem hi]; simp [List.getD, hi]
  refine ⟨hl, fun i j hi hj he => va_nd_inj I hn i j _ (hg i hi) (by rw [he]; exact hg j hj), fun k c hk => ?_⟩
  have hlt : k < hc.length := (List.getElem?_eq_some_iff.mp hk).1
  have := congrArg (fun l => l[k]?) e
  simp only [List.getElem?_map, hk, hg k (by omega)] at this
  exact Option.some.inj this
def pnPut : List pnE → List Nat → List pnE → List pnE
  | h, i :: I, c :: cs => pnPut (h.set i c) I cs
  | h, _, _ => h
def pnJ (I : List Nat) (n m : Nat) : List Nat := I ++ List.range' n (m - I.length)
def pnBack (h : List pnE) (I : List Nat) (h' : List pnE) : List pnE := pnPut h I ((h'.take I.length).map (pnRC (pnJ I h.length h'.length))) ++ (h'.drop I.length).map (pnRC (pnJ I h.length h'.length))
def pnRes (J : List Nat) : Option Value → List Value
  | none => []
  | some v => [pnRV J v]
theorem pnPut_len : ∀ (I : List Nat) (h cs : List pnE), (pnPut h I cs).length = h.length
  | [], h, cs => by cases cs <;> rfl
  | i :: I, h, [] => rfl
  | i :: I, h, c :: cs => by
    show (pnPut (h.set i c) I cs).length = _
    rw [pnPut_len I, List.length_set]
theorem pnPut_out : ∀ (I : List Nat) (h cs : List pnE) (j : Nat), j ∉ I → (pnPut h I cs)[j]? = h[j]?
  | [], h, cs, j, _ => by cases cs <;> rfl
  | i :: I, h, [], j, _ => rfl
  | i :: I, h, c :: cs, j, hj => by
    show (pnPut (h.set i c) I cs)[j]? = _
    rw [pnPut_out I _ _ j (fun q => hj (List.mem_cons_of_mem _ q)), List.getElem?_set, if_neg (fun q => hj (by rw [q]; exact List.mem_cons_self))]
theorem pnPut_of : ∀ (I : List Nat) (h cs : List pnE) (j : Nat) (c : pnE), I.length = cs.length → (pnPut h I cs)[j]? = some c → j ∈ I → ∃ k : Nat, I[k]? = some j ∧ cs[k]? = some c
  | [], h, cs, j, c, _, _, hj => by cases hj
  | i :: I, h, [], j, c, hl, _, _ => by cases hl
  | i :: I, h, c0 :: cs, j, c, hl, e, hj => by
    have e2 : (pnPut (h.set i c0) I cs)[j]? = some c := e
    by_cases hm : j ∈ I
    · obtain ⟨k, h1, h2⟩ := pnPut_of I _ cs j c (by simpa using hl) e2 hm
      exact ⟨k + 1, h1, h2⟩
    · rcases List.mem_cons.mp hj with h9 | h9
      · subst h9
        rw [pnPut_out I _ _ j hm, List.getElem?_set, if_pos rfl] at e2
        split at e2
        · cases e2; exact ⟨0, rfl, rfl⟩
        · cases e2
      · exact (hm h9).elim
theorem pnJ_lo {I : List Nat} {n m k : Nat} (h : k < I.length) : (pnJ I n m).getD k 0 = I.getD k 0 := by
  unfold pnJ
  simp [List.getD, List.getElem?_append_left h]
theorem pnJ_hi {I : List Nat} {n m k : Nat} (h : I.length ≤ k) (h2 : k < m) : (pnJ I n m).getD k 0 = n + (k - I.length) := by
  unfold pnJ
  simp [List.getD, List.getElem?_append_right h, show k - I.length < m - I.length by omega]
theorem pnBack_len {h : List pnE} {I : List Nat} {h' : List pnE} (hl : I.length ≤ h'.length) : (pnBack h I h').length = h.length + (h'.length - I.length) := by
  unfold pnBack
  rw [List.length_append, pnPut_len, List.length_map, List.length_drop]
theorem pnBack_of {h : List pnE} {I : List Nat} {h' : List pnE} {i : Nat} {c : pnE} (hl : I.length ≤ h'.length) (e : (pnBack h I h')[i]? = some c) :
    (i < h.length ∧ i ∉ I ∧ h[i]? = some c) ∨ ∃ (k : Nat) (c' : pnE), h'[k]? = some c' ∧ c = pnRC (pnJ I h.length h'.length) c' ∧ (pnJ I h.length h'.length).getD k 0 = i := by
  unfold pnBack at e
  rcases Nat.lt_or_ge i h.length with hi | hi
  · rw [List.getElem?_append_left (by rw [pnPut_len]; exact hi)] at e
    by_cases hm : i ∈ I
    · obtain ⟨k, h1, h2⟩ := pnPut_of I h _ i c (by rw [List.length_map, List.length_take]; omega) e hm
      have hk : k < I.length := (List.getElem?_eq_some_iff.mp h1).1
      rw [List.getElem?_map, List.getElem?_take_of_lt hk] at h2
      cases hc : h'[k]? with
      | none => rw [hc] at h2; cases h2
      | some c' =>
        rw [hc] at h2
        refine Or.inr ⟨k, c', hc, (Option.some.inj h2).symm, ?_⟩
        rw [pnJ_lo hk]; simp [List.getD, h1]
    · rw [pnPut_out I h _ i hm] at e
      exact Or.inl ⟨hi, hm, e⟩
  · rw [List.getElem?_append_right (by rw [pnPut_len]; exact hi), pnPut_len, List.getElem?_map, List.getElem?_drop] at e
    cases hc : h'[I.length + (i - h.length)]? with
    | none => rw [hc] at e; cases e
    | some c' =>
      rw [hc] at e
      have hk : I.length + (i - h.length) < h'.length := (List.getElem?_eq_some_iff.mp hc).1
      exact Or.inr ⟨_, c', hc, (Option.some.inj e).symm, by rw [pnJ_hi (by omega) hk]; omega⟩
/-! references that meet P -/
def pnRV' (P : Nat → Prop) : Value → Prop
  | .ref k => P k
  | _ => True
def pnRC' (P : Nat → Prop) : pnE → Prop
  | .inl (_, _, .inr (.inr (.inr (.inr g)))) => ∀ j k, g j = some k → P k
  | .inr (_, fs) => ∀ v, v ∈ fs → pnRV' P v
  | _ => True
theorem pnV_eqP {σ σ' : Nat → Nat} {P : Nat → Prop} (h : ∀ k, P k → σ' k = σ k) {v : Value} (hv : pnRV' P v) : pnV σ' v = pnV σ v := by
  cases v <;> first | rfl | exact congrArg Value.ref (h _ hv)
theorem pnC_eqP {τ : Nat → ClassId} {σ σ' : Nat → Nat} {P : Nat → Prop} (h : ∀ k, P k → σ' k = σ k) {c : pnE} (hc : pnRC' P c) : pnC τ σ' c = pnC τ σ c := by
  match c, hc with
  | .inl (t, n9, .inr (.inr (.inr (.inr g)))), hc =>
    show (Sum.inl (τ t, n9, .inr (.inr (.inr (.inr (fun j => (g j).map σ'))))) : va_E) = Sum.inl (τ t, n9, .inr (.inr (.inr (.inr (fun j => (g j).map σ)))))
    have : (fun j => (g j).map σ') = (fun j => (g j).map σ) := by
      funext j
      cases hj : g j with
      | none => rfl
      | some k => exact congrArg some (h k (hc j k hj))
    rw [this]
  | .inr (ci, fs), hc =>
    show (Sum.inr (ci, fs.map (pnV σ')) : va_E) = Sum.inr (ci, fs.map (pnV σ))
    have : fs.map (pnV σ') = fs.map (pnV σ) := List.map_congr_left (fun v hv => pnV_eqP h (hc v hv))
    rw [this]
  | .inl (_, _, .inl _), _ => rfl
  | .inl (_, _, .inr (.inl _)), _ => rfl
  | .inl (_, _, .inr (.inr (.inl _))), _ => rfl
  | .inl (_, _, .inr (.inr (.inr (.inl _)))), _ => rfl
theorem pnRV'_and {P Q : Nat → Prop} {v : Value} (h1 : pnRV' P v) (h2 : pnRV' Q v) : pnRV' (fun k => P k ∧ Q k) v := by
  cases v <;> first | trivial | exact ⟨h1, h2⟩
theorem pnRC'_and {P Q : Nat → Prop} {c : pnE} (h1 : pnRC' P c) (h2 : pnRC' Q c) : pnRC' (fun k => P k ∧ Q k) c := by
  match c, h1, h2 with
  | .inl (_, _, .inr (.inr (.inr (.inr g)))), h1, h2 => exact fun j k e => ⟨h1 j k e, h2 j k e⟩
  | .inr (_, fs), h1, h2 => exact fun v hv => pnRV'_and (h1 v hv) (h2 v hv)
  | .inl (_, _, .inl _), _, _ => trivial
  | .inl (_, _, .inr (.inl _)), _, _ => trivial
  | .inl (_, _, .inr (.inr (.inl _))), _, _ => trivial
  | .inl (_, _, .inr (.inr (.inr (.inl _)))), _, _ => trivial
theorem pnCV_R {n : Nat} {v : Value} (h : pnCV n v) : pnRV' (fun k => k < n) v := by cases v <;> first | trivial | exact h
theorem pnCC_R {n : Nat} {c : pnE} (h : pnCC n c) : pnRC' (fun k => k < n) c := by
  match c, h with
  | .inl (_, _, .inr (.inr (.inr (.inr g)))), h => exact h
  | .inr (_, fs), h => exact fun v hv => pnCV_R (h v hv)
  | .inl (_, _, .inl _), _ => trivial
  | .inl (_, _, .inr (.inl _)), _ => trivial
  | .inl (_, _, .inr (.inr (.inl _))), _ => trivial
  | .inl (_, _, .inr (.inr (.inr (.inl _)))), _ => trivial
/-- nothing outside the callee's world points to a row of its that may be laid anew -/
def pnFree (h : List pnE) (L : List (Option Value)) (st : List Value) (I : List Nat) (hc : List pnE) : Prop :=
  (∀ (i : Nat) (c : pnE), h[i]? = some c → i ∉ I → pnRC' (fun x => ∀ k, pnAt5 hc k = true → x ≠ I.getD k 0) c) ∧ (∀ (i : Nat) (v : Value), pnGet L i = some v → pnRV' (fun x => ∀ k, pnAt5 hc k = true → x ≠ I.getD k 0) v) ∧ ∀ v, v ∈ st → pnRV' (fun x => ∀ k, pnAt5 hc k = true → x ≠ I.getD k 0) v
theorem pnRV'_true {P : Nat → Prop} (h : ∀ k, P k) (v : Value) : pnRV' P v := by cases v <;> first | trivial | exact h _
theorem pnRC'_true {P : Nat → Prop} (h : ∀ k, P k) (c : pnE) : pnRC' P c := by
  match c with
  | .inl (_, _, .inr (.inr (.inr (.inr g)))) => exact fun j k _ => h k
  | .inr (_, fs) => exact fun v _ => pnRV'_true h v
  | .inl (_, _, .inl _) => trivial
  | .inl (_, _, .inr (.inl _)) => trivial
  | .inl (_, _, .inr (.inr (.inl _))) => trivial
  | .inl (_, _, .inr (.inr (.inr (.inl _)))) => trivial
theorem pnFree_none {h : List pnE} {L : List (Option Value)} {st : List Value} {I : List Nat} {hc : List pnE} (e : hc.all (fun c => !pnIs5 c) = true) : pnFree h L st I hc := by
  have h0 : ∀ k, pnAt5 hc k = true → False := fun k hk => by
    unfold pnAt5 at hk
    cases hg : hc[k]? with
    | none => rw [hg] at hk; cases hk
    | some c =>
      rw [hg] at hk
      have := List.all_eq_true.mp e c (List.mem_of_getElem? hg)
      have hk : pnIs5 c = true := hk
      rw [hk] at this; cases this
  exact ⟨fun i c _ _ => pnRC'_true (fun x k hk => (h0 k hk).elim) c, fun i v _ => pnRV'_true (fun x k hk => (h0 k hk).elim) v, fun v _ => pnRV'_true (fun x k hk => (h0 k hk).elim) v⟩
theorem pnIs5_RC (I : List Nat) (c : pnE) : pnIs5 (pnRC I c) = pnIs5 c := by
  match c with
  | .inl (t, a) => rfl
  | .inr (ci, fs) => rfl
theorem pnIs6_RC (I : List Nat) (c : pnE) : pnIs6 (pnRC I c) = pnIs6 c := by
  match c with
  | .inl (t, a) => rfl
  | .inr (ci, fs) => rfl
/-- what comes back beside the rest -/
theorem pn_join {D : va_G} {τ : Nat → ClassId} {A : Nat → Prop} {H H1 : Heap} {σ σ' σ0 : Nat → Nat} {mv0 : Nat → Bool} {n0 : Nat} {h hc h' : List pnE} {I : List Nat} {L : List (Option Value)} {st : List Value}
    (w1 : va_P D vwCl (pnW τ σ h) H) (w2 : va_D A (pnW τ σ h)) (w4 : n0 ≤ h.length) (w5 : pnKeep n0 σ0 σ mv0 h) (w6 : pnCH h) (hs : pnSel h I hc) (hfr : pnFree h L st I hc) (hA : ∀ q, H.size ≤ q → A q)
    (c1 : pnCH h') (c3 : hc.length ≤ h'.length) (c4 : pnKeep hc.length (fun k => σ (I.getD k 0)) σ' (pnAt5 hc) h') (c5 : va_P D vwCl (pnW τ σ' h') H1) (c6 : va_D (va_A (pnW τ (fun k => σ (I.getD k 0)) hc) H.size) (pnW τ σ' h')) (c8 : ∀ q : Nat, q < H.size → ¬ va_A (pnW τ (fun k => σ (I.getD k 0)) hc) H.size q → H1[q]? = H[q]?) :
    ∃ σn : Nat → Nat, (∀ x, x < h.length ∧ (∀ k, pnAt5 hc k = true → x ≠ I.getD k 0) → σn x = σ x) ∧ (∀ k, k < h'.length → σn ((pnJ I h.length h'.length).getD k 0) = σ' k) ∧ (∀ k, k < h'.length → (pnJ I h.length h'.length).getD k 0 < (pnBack h I h').length) ∧ h.length ≤ (pnBack h I h').length ∧ pnKeep n0 σ0 σn mv0 (pnBack h I h') ∧ pnCH (pnBack h I h') ∧ va_P D vwCl (pnW τ σn (pnBack h I h')) H1 ∧ va_D A (pnW τ σn (pnBack h I h')) := by
  obtain ⟨s1, s2, s3⟩ := hs
  have hl : I.length ≤ h'.length := by omega
  have hlen := pnBack_len (h := h) (I := I) (h' := h') hl
  have hIlt : ∀ k, k < I.length → I.getD k 0 < h.length := fun k hk => by
    obtain ⟨c, hc9⟩ : ∃ c, hc[k]? = some c := ⟨hc[k]'(by omega), List.getElem?_eq_getElem (by omega)⟩
    exact (List.getElem?_eq_some_iff.mp (s3 k c hc9)).1
  have hImem : ∀ i, i ∈ I → ∃ k, k < I.length ∧ I.getD k 0 = i := fun i hi => by
    obtain ⟨k, hk⟩ := List.getElem?_of_mem hi
    exact ⟨k, (List.getElem?_eq_some_iff.mp hk).1, by simp [List.getD, hk]⟩
  have hImem2 : ∀ k, k < I.length → I.getD k 0 ∈ I := fun k hk => by simp [List.getD, hk]
  have hJlt : ∀ k, k < h'.length → (pnJ I h.length h'.length).getD k 0 < (pnBack h I h').length := fun k hk => by
    rcases Nat.lt_or_ge k I.length with h9 | h9
    · rw [pnJ_lo h9]; have := hIlt k h9; omega
    · rw [pnJ_hi h9 hk]; omega
  obtain ⟨σn, hσa, hσb, hσc⟩ : ∃ σn : Nat → Nat, (∀ k, k < I.length → σn (I.getD k 0) = σ' k) ∧ (∀ i, i < h.length → i ∉ I → σn i = σ i) ∧ (∀ j, σn (h.length + j) = σ' (j + I.length)) := by
    refine ⟨fun i => if q : ∃ k, k < I.length ∧ I.getD k 0 = i then σ' (Classical.choose q) else if i < h.length then σ i else σ' (i - h.length + I.length), fun k hk => ?_, fun i hi hI => ?_, fun j => ?_⟩
    · have q : ∃ k9, k9 < I.length ∧ I.getD k9 0 = I.getD k 0 := ⟨k, hk, rfl⟩
      show (if q : ∃ k9, k9 < I.length ∧ I.getD k9 0 = I.getD k 0 then σ' (Classical.choose q) else _) = _
      rw [dif_pos q]
      have q2 := Classical.choose_spec q
      rw [s2 _ k q2.1 hk q2.2]
    · show (if q : ∃ k9, k9 < I.length ∧ I.getD k9 0 = i then σ' (Classical.choose q) else _) = _
      rw [dif_neg (fun q => by obtain ⟨k, q1, q2⟩ := q; exact hI (by rw [← q2]; exact hImem2 k q1)), if_pos hi]
    · show (if q : ∃ k9, k9 < I.length ∧ I.getD k9 0 = h.length + j then σ' (Classical.choose q) else _) = _
      rw [dif_neg (fun q => by obtain ⟨k, q1, q2⟩ := q; have := hIlt k q1; omega), if_neg (by omega)]
      congr 1; omega
  have hn1 : ∀ x, x < h.length ∧ (∀ k, pnAt5 hc k = true → x ≠ I.getD k 0) → σn x = σ x := fun x hx => by
    by_cases hm : x ∈ I
    · obtain ⟨k, q1, q2⟩ := hImem x hm
      rw [← q2, hσa k q1]
      rcases (c4 k (by omega)).1 with e | e
      · exact e
      · exact (hx.2 k e q2.symm).elim
    · exact hσb x hx.1 hm
  have hn2 : ∀ k, k < h'.length → σn ((pnJ I h.length h'.length).getD k 0) = σ' k := fun k hk => by
    rcases Nat.lt_or_ge k I.length with h9 | h9
    · rw [pnJ_lo h9]; exact hσa k h9
    · rw [pnJ_hi h9 hk, hσc]; congr 1; omega
  have hlt : ∀ i c, h[i]? = some c → σ i < H.size := fun i c hi => (w1 i _ (pnW_at hi)).lt
  have hinj : ∀ i j ci cj, h[i]? = some ci → h[j]? = some cj → σ i = σ j → i = j := fun i j ci cj hi hj e => w2.1 i j _ _ (pnW_at hi) (pnW_at hj) e
  have hinj' : ∀ i j ci cj, h'[i]? = some ci → h'[j]? = some cj → σ' i = σ' j → i = j := fun i j ci cj hi hj e => c6.1 i j _ _ (pnW_at hi) (pnW_at hj) e
  have hAA : ∀ q, va_A (pnW τ (fun k => σ (I.getD k 0)) hc) H.size q → A q := fun q hq => by
    rcases hq with ⟨k, e9, h9⟩ | h9
    · obtain ⟨c, g1, g2⟩ := pnW_of h9
      cases g2
      have := w2.2 _ _ (pnW_at (τ := τ) (σ := σ) (s3 k c g1))
      exact this
    · exact hA q h9
  have hold : ∀ i c k c', h[i]? = some c → i ∉ I → h'[k]? = some c' → σ i ≠ σ' k := fun i c k c' hi hiI hk e => by
    rcases c6.2 k _ (pnW_at hk) with ⟨k0, e0, g0⟩ | g0
    · obtain ⟨cx, g1, g2⟩ := pnW_of g0
      have hk0 : k0 < hc.length := (List.getElem?_eq_some_iff.mp g1).1
      have e2 : σ' k = σ (I.getD k0 0) := congrArg Prod.fst g2
      have := hinj i _ _ _ hi (s3 k0 cx g1) (e.trans e2)
      exact hiI (by rw [this]; exact hImem2 k0 (by omega))
    · have := hlt i c hi
      have g0 : H.size ≤ σ' k := g0
      omega
  have hat5 : ∀ k, k < hc.length → pnAt5 hc k = true → pnAt5 h (I.getD k 0) = true := fun k hk e => by
    obtain ⟨c, hc9⟩ : ∃ c, hc[k]? = some c := ⟨hc[k]'(by omega), List.getElem?_eq_getElem (by omega)⟩
    unfold pnAt5 at e ⊢
    rw [hc9] at e
    rw [s3 k c hc9]
    show pnIs5 (pnRC I c) = true
    rw [pnIs5_RC]; exact e
  refine ⟨σn, hn1, hn2, hJlt, by omega, ?_, ?_, ?_, ?_, ?_⟩
  · intro x hx
    refine ⟨?_, fun e => ?_, ?_⟩
    · by_cases hm : x ∈ I
      · obtain ⟨k, q1, q2⟩ := hImem x hm
        cases h5 : pnAt5 hc k with
        | true => exact Or.inr ((w5 x hx).2.1 (by rw [← q2]; exact hat5 k (by omega) h5))
        | false =>
          rcases (c4 k (by omega)).1 with e | e
          · rw [← q2, hσa k q1, e]
            have := (w5 x hx).1
            rw [← q2] at this
            exact this
          · rw [h5] at e; cases e
      · rw [hσb x (by omega) hm]; exact (w5 x hx).1
    · unfold pnAt5 at e
      cases hb : (pnBack h I h')[x]? with
      | none => rw [hb] at e; cases e
      | some c =>
        rw [hb] at e
        have e : pnIs5 c = true := e
        rcases pnBack_of hl hb with ⟨gi, gI, g⟩ | ⟨k, c', g1, g2, g3⟩
        · exact (w5 x hx).2.1 (by unfold pnAt5; rw [g]; exact e)
        · rw [g2, pnIs5_RC] at e
          have hkl : k < I.length := by
            rcases Nat.lt_or_ge k I.length with h9 | h9
            · exact h9
            · have hk : k < h'.length := (List.getElem?_eq_some_iff.mp g1).1
              rw [pnJ_hi h9 hk] at g3; omega
          rw [pnJ_lo hkl] at g3
          have h5 := (c4 k (by omega)).2.1 (by unfold pnAt5; rw [g1]; exact e)
          exact (w5 x hx).2.1 (by rw [← g3]; exact hat5 k (by omega) h5)
    · unfold pnAt6
      cases hb : (pnBack h I h')[x]? with
      | none => rfl
      | some c =>
        show pnIs6 c = false
        rcases pnBack_of hl hb with ⟨gi, gI, g⟩ | ⟨k, c', g1, g2, g3⟩
        · have := (w5 x hx).2.2
          unfold pnAt6 at this
          rw [g] at this; exact this
        · rw [g2, pnIs6_RC]
          have hkl : k < I.length := by
            rcases Nat.lt_or_ge k I.length with h9 | h9
            · exact h9
            · have hk : k < h'.length := (List.getElem?_eq_some_iff.mp g1).1
              rw [pnJ_hi h9 hk] at g3; omega
          have h6 := (c4 k (by omega)).2.2
          unfold pnAt6 at h6
          rw [g1] at h6; exact h6
  · intro i c e
    rcases pnBack_of hl e with ⟨-, -, g⟩ | ⟨k, c', g1, g2, g3⟩
    · exact (w6 i c g).mono (by omega)
    · rw [g2]; exact pnCC_RC hJlt (c1 k c' g1)
  · intro i q e
    obtain ⟨c, g0, rfl⟩ := pnW_of e
    rcases pnBack_of hl g0 with ⟨gi, gI, g⟩ | ⟨k, c', g1, g2, g3⟩
    · rw [hσb i gi gI, pnC_eqP hn1 (pnRC'_and (pnCC_R (w6 i c g)) (hfr.1 i c g gI))]
      refine (w1 i _ (pnW_at g)).kept (c8 _ (hlt i c g) ?_)
      intro hq
      rcases hq with ⟨k, e9, h9⟩ | h9
      · obtain ⟨cx, g1, g2⟩ := pnW_of h9
        have e2 : σ i = σ (I.getD k 0) := congrArg Prod.fst g2
        have hk : k < hc.length := (List.getElem?_eq_some_iff.mp g1).1
        have := hinj i _ _ _ g (s3 k cx g1) e2
        exact gI (by rw [this]; exact hImem2 k (by omega))
      · exact Nat.lt_irrefl _ (Nat.lt_of_lt_of_le (hlt i c g) h9)
    · have hk : k < h'.length := (List.getElem?_eq_some_iff.mp g1).1
      have e1 : pnC τ σn c = pnC τ σ' c' := by
        rw [g2, pnC_RC]; exact pnC_eq (n := h'.length) hn2 (c1 k c' g1)
      rw [e1, ← g3, hn2 k hk]
      exact c5 k _ (pnW_at g1)
  · intro i j x y ei ej exy
    obtain ⟨c, g0, rfl⟩ := pnW_of ei
    obtain ⟨c9, g9, rfl⟩ := pnW_of ej
    have exy : σn i = σn j := exy
    rcases pnBack_of hl g0 with ⟨gi, gI, g⟩ | ⟨k, c', g1, g2, g3⟩ <;> rcases pnBack_of hl g9 with ⟨fi, fI, f⟩ | ⟨k9, c9', f1, f2, f3⟩
    · rw [hσb i gi gI, hσb j fi fI] at exy; exact hinj i j _ _ g f exy
    · have hk : k9 < h'.length := (List.getElem?_eq_some_iff.mp f1).1
      rw [hσb i gi gI, ← f3, hn2 k9 hk] at exy
      exact (hold i c k9 c9' g gI f1 exy).elim
    · have hk : k < h'.length := (List.getElem?_eq_some_iff.mp g1).1
      rw [hσb j fi fI, ← g3, hn2 k hk] at exy
      exact (hold j c9 k c' f fI g1 exy.symm).elim
    · have hk : k < h'.length := (List.getElem?_eq_some_iff.mp g1).1
      have hk9 : k9 < h'.length := (List.getElem?_eq_some_iff.mp f1).1
      rw [← g3, ← f3, hn2 k hk, hn2 k9 hk9] at exy
      rw [← g3, ← f3, hinj' k k9 _ _ g1 f1 exy]
  · intro i x ei
    obtain ⟨c, g0, rfl⟩ := pnW_of ei
    rcases pnBack_of hl g0 with ⟨gi, gI, g⟩ | ⟨k, c', g1, g2, g3⟩
    · show A (σn i)
      rw [hσb i gi gI]; exact w2.2 i _ (pnW_at g)
    · have hk : k < h'.length := (List.getElem?_eq_some_iff.mp g1).1
      show A (σn i)
      rw [← g3, hn2 k hk]; exact hAA _ (c6.2 k _ (pnW_at g1))
/-- the callee's world in the caller's heap -/
theorem pn_cut {D : va_G} {τ : Nat → ClassId} {A : Nat → Prop} {H : Heap} {σ : Nat → Nat} {h hc : List pnE} {I : List Nat} {b0 : Nat}
    (w1 : va_P D vwCl (pnW τ σ h) H) (w2 : va_D A (pnW τ σ h)) (hs : pnSel h I hc) (hAb : ∀ q, A q → b0 ≤ q) : va_P D vwCl (pnW τ (fun k => σ (I.getD k 0)) hc) H ∧ va_D (fun q => b0 ≤ q) (pnW τ (fun k => σ (I.getD k 0)) hc) := by
  obtain ⟨s1, s2, s3⟩ := hs
  refine ⟨fun k q e => ?_, fun i j x y ei ej exy => ?_, fun k q e => ?_⟩
  · obtain ⟨c, g, rfl⟩ := pnW_of e
    have := w1 _ _ (pnW_at (s3 k c g))
    rw [pnC_RC] at this
    exact this
  · obtain ⟨c, g, rfl⟩ := pnW_of ei
    obtain ⟨c9, g9, rfl⟩ := pnW_of ej
    have hi : i < hc.length := (List.getElem?_eq_some_iff.mp g).1
    have hj : j < hc.length := (List.getElem?_eq_some_iff.mp g9).1
    exact s2 i j (by omega) (by omega) (w2.1 _ _ _ _ (pnW_at (s3 i c g)) (pnW_at (s3 j c9 g9)) exy)
  · obtain ⟨c, g, rfl⟩ := pnW_of e
    have := w2.2 _ _ (pnW_at (τ := τ) (σ := σ) (s3 k c g))
    exact hAb _ this

theorem pn_after {M : pnM} {adK : Nat → Nat} {d : Nat} {Q Q' : pnR → List pnE → Prop} {bc bs bc' bs' mc' ms' : Nat} {h hc : List pnE} {I : List Nat} {L : List (Option Value)} {st : List Value} {pc : Nat} {p : Program} {l : Launch} {e : Env} {R : Room} {s : State} {m : MethodId} {args : Array Value} {below : List Frame} {meth : Method} {c : Code} {D : va_G} {τ : Nat → ClassId} {A : Nat → Prop} {b0 : Nat} {adV : Nat → Nat} {mc ms n0 : Nat} {σ0 σ : Nat → Nat} {mv0 : Nat → Bool} {H : Heap} {locs : List Loc} {cells slots : Nat} {ls : Array Slot} {st0 : List Value} {a9 : Array Value}
    (ok : pnOk M adK adV d mc ms p l R s m args meth c D τ A b0) (w : pnIn M.2.2.1 D τ A s.heap n0 σ0 σ mv0 mc ms bc bs h L st H locs cells slots ls) (hs : pnSel h I hc) (hmv : pnFree h L st I hc) (hbc : bc' + mc' ≤ bc) (hbs : bs' + ms' ≤ bs)
    (hr : vx_Run p l e R s m args below meth c H locs cells slots mc' ms' (F0 m pc ls st0) (st.map (pnV σ)) (pnQc Q' D τ (va_A (pnW τ (fun k => σ (I.getD k 0)) hc) H.size) hc.length (fun k => σ (I.getD k 0)) (pnAt5 hc) a9) (pnXC Q' D τ (va_A (pnW τ (fun k => σ (I.getD k 0)) hc) H.size) hc.length (fun k => σ (I.getD k 0)) (pnAt5 hc)) (va_A (pnW τ (fun k => σ (I.getD k 0)) hc) H.size))
    (kr : ∀ r h', Q' (.inl r) h' → hc.length ≤ h'.length → pnWP M adK d Q bc' bs' (pnBack h I h') L (pnRes (pnJ I h.length h'.length) r ++ st) (pc + 3))
    (kx : ∀ E h', Q' (.inr E) h' → hc.length ≤ h'.length → M.2.2.2.2 = [] ∧ Q (.inr E) (pnBack h I h')) :
    W p l e R s m args below meth c H locs cells slots (vx_MQ below (pnQc Q D τ A n0 σ0 mv0) (pnXC Q D τ A n0 σ0 mv0) args s mc ms A) (F0 m pc ls st0) := by
  have ok2 := ok
  obtain ⟨hx, hb, hr0, hml, hown, hts, hlk, hnm, htab, hK, hA, hAb, hb0, hLow, hst, hfr, hlo, hRc, hRs⟩ := ok2
  obtain ⟨w1, w2, w3, w4, w5, w6, w7, w8, w9, w10, w11⟩ := w
  have hA2 : ∀ q, H.size ≤ q → A q := fun q hq => hA q (Nat.le_trans w3.1 hq)
  have hAA : ∀ q, va_A (pnW τ (fun k => σ (I.getD k 0)) hc) H.size q → A q := fun q hq => by
    rcases hq with ⟨k, e9, h9⟩ | h9
    · obtain ⟨c, g1, g2⟩ := pnW_of h9
      cases g2
      have := w2.2 _ _ (pnW_at (τ := τ) (σ := σ) (hs.2.2 k c g1))
      exact this
    · exact hA2 q h9
  intro T hT X
  rcases hr T hT X with ⟨v, st₀, t, T', L9, h0, X', hL, e1, e2, ⟨r, h', σ', hv, hQ', c1, c2, c3, c4, c5, c6, hF⟩, st9⟩ | ⟨q, st₀, t, T', L9, E, ce, h0, X', hL, e1, e2, ⟨h', σ', hQ', c1, c2, c3, c4, c5, c6, hF⟩, hce, hcv, hcl, st9⟩
  · obtain ⟨k1, k2, k3⟩ := vx_keep h0 e1 w3 (fun q _ => hAA q) hAA hL hF
    rw [← e1] at c5
    obtain ⟨σn, g1, g2, g3, g4, g45, g5, g6, g7⟩ := pn_join w1 w2 w4 w5 w6 hs hmv hA2 c1 c3 c4 c5 c6 k2
    have gL : ∀ i x, pnGet L i = some x → pnV σn x = pnV σ x := fun i x e9 => pnV_eqP g1 (pnRV'_and (pnCV_R (w7 i x e9)) (hmv.2.1 i x e9))
    have gS : st.map (pnV σn) = st.map (pnV σ) := List.map_congr_left (fun x e9 => pnV_eqP g1 (pnRV'_and (pnCV_R (w8 x e9)) (hmv.2.2 x e9)))
    have hv9 : v = r.map (pnV σ') := by cases hv; rfl
    subst hv9
    have k9 := kr r h' hQ' c3 p l e R s m args below meth c D τ A b0 adV mc ms n0 σ0 σn mv0 T'.heap (locs ++ L9) (cells + mc') (slots + ms') ls ok
      ⟨g6, g7, k3, by omega, g45, g5, w7.mono g4, by
        intro x hx9
        rcases List.mem_append.mp hx9 with h9 | h9
        · cases r with
          | none => cases h9
          | some v0 =>
            rw [List.mem_singleton.mp h9]
            exact pnCV_RV g3 (c2 v0 rfl)
        · exact (w8 x h9).mono g4, w9.sub (fun _ _ e9 => e9) gL, by omega, by omega⟩
    have es : (pnRes (pnJ I h.length h'.length) r ++ st).map (pnV σn) = (r.map (pnV σ')).toList ++ st.map (pnV σ) := by
      rw [List.map_append, gS]
      congr 1
      cases r with
      | none => rfl
      | some v0 =>
        show [pnV σn (pnRV _ v0)] = [pnV σ' v0]
        rw [pnV_RV, pnV_eq g2 (c2 v0 rfl)]
    rw [es] at k9
    obtain ⟨t2, a1, b1⟩ := k9 T' rfl X'
    exact ⟨t2, st9 t2 a1, b1⟩
  · obtain ⟨k1, k2, k3⟩ := vx_keep h0 e1 w3 (fun q _ => hAA q) hAA hL hF
    rw [← e1] at c5
    obtain ⟨σn, g1, g2, g3, g4, g45, g5, g6, g7⟩ := pn_join w1 w2 w4 w5 w6 hs hmv hA2 c1 c3 c4 c5 c6 k2
    have gL : ∀ i x, pnGet L i = some x → pnV σn x = pnV σ x := fun i x e9 => pnV_eqP g1 (pnRV'_and (pnCV_R (w7 i x e9)) (hmv.2.1 i x e9))
    have gS : st.map (pnV σn) = st.map (pnV σ) := List.map_congr_left (fun x e9 => pnV_eqP g1 (pnRV'_and (pnCV_R (w8 x e9)) (hmv.2.2 x e9)))
    obtain ⟨hh, hQ9⟩ := kx E h' hQ' c3
    have hout : ∀ x ∈ c.exceptionTable.toList, covers x pc = false := fun x hx9 => by
      have : c.exceptionTable.toList = tableOf M.2.2.2.2 := htab
      rw [this, hh] at hx9
      cases hx9
    have k9 := vx_out (p := p) (l := l) (e := e) (R := R) (below := below) (ls := ls) (rest := st.map (pnV σ)) (Qc := pnQc Q D τ A n0 σ0 mv0) (XC := pnXC Q D τ A n0 σ0 mv0) (args := args) (m := m) (free := A) (pc := pc) (H := T'.heap) (locs := locs ++ L9) (cells := cells + mc') (slots := slots + ms') (mc := mc) (ms := ms) (E := E) (q := q) (ce := ce) (s := s) (meth := meth) hout hlk (by rw [e1]; exact hce) hcv hcl (fun t9 ht9 _ => ⟨pnBack h I h', σn, hQ9, g5, fun v hv => (by cases hv), by omega, g45, by rw [ht9]; exact g6, g7, k3.F ht9⟩) k3.2.2 (by omega) (by omega)
    obtain ⟨t2, a1, b1⟩ := k9 T' rfl X'
    exact ⟨t2, st9.trans a1, b1⟩

theorem pnWs_good {M : pnM} (h0 : M.2.2.2.2 = []) (hin : Cond.code M.1 M.2.1 M.2.2.1 M.2.2.2.1 ∈ pnG) : GoodIn pnG (pnWs M) ∧ pnWs M = Cond.code M.1 M.2.1 M.2.2.1 M.2.2.2.1 :: pnG := by
  have e : pnWs M = Cond.code M.1 M.2.1 M.2.2.1 M.2.2.2.1 :: pnG := by unfold pnWs; rw [h0]
  refine ⟨?_, e⟩
  rw [e]
  intro w hw
  have hm : w ∈ pnG := by
    rcases List.mem_cons.mp hw with h9 | h9
    · rw [h9]; exact hin
    · exact h9
  exact ⟨hm, good_of_word (List.mem_filter.mp hm).2⟩
def pnLk (own : String) (M' : pnM) (n : Nat) : Prop := Cond.initialized M'.1.cls ∈ pnG ∧ Cond.code M'.1 M'.2.1 M'.2.2.1 M'.2.2.2.1 ∈ pnG ∧ M'.2.2.2.2 = [] ∧ (M'.1.cls ≠ "java/lang/invoke/MethodHandle" ∧ M'.1.cls ≠ "java/lang/invoke/VarHandle" ∧ (parseMethodDescriptor M'.1.desc).map (fun d => d.parameters.length) = some n) ∧ M'.2.2.1 ≤ 40
def pnLkV (own : String) (index : Nat) (M' : pnM) (n : Nat) : Prop := pnLk own M' n ∧ Cond.methodLink own index M'.1 ∈ pnG ∧ Cond.instanceMethod M'.1 ∈ pnG ∧ Cond.selects M'.1.cls M'.1 M'.1 ∈ pnG
def pnLkS (own : String) (index : Nat) (M' : pnM) (n : Nat) : Prop := pnLk own M' n ∧ Cond.methodLink own index M'.1 ∈ pnG ∧ Cond.static M'.1 ∈ pnG
def pnLkI (own : String) (index : Nat) (M' : pnM) (n : Nat) : Prop := pnLk own M' n ∧ Cond.methodLink own index M'.1 ∈ pnG ∧ Cond.instanceMethod M'.1 ∈ pnG ∧ M'.1.name = "<init>" ∧ M'.2.2.2.1 = none
def pnLkIN (own : String) (index : Nat) (M' : pnM) (n : Nat) : Prop := pnLk own M' n ∧ (∃ host, Cond.methodLinkNest own index M'.1 host ∈ pnN) ∧ Cond.instanceMethod M'.1 ∈ pnG ∧ M'.1.name = "<init>" ∧ M'.2.2.2.1 = none
def pnLkSN (own : String) (index : Nat) (M' : pnM) (n : Nat) : Prop := pnLk own M' n ∧ (∃ host, Cond.methodLinkNest own index M'.1 host ∈ pnN) ∧ Cond.static M'.1 ∈ pnG
theorem pnCatSum (σ : Nat → Nat) (st : List Value) : ((st.map (pnV σ)).map fun v => v.category).sum = (st.map fun v => v.category).sum := by
  rw [List.map_map]; exact congrArg List.sum (List.map_congr_left (fun v _ => pnCat σ v))
theorem pnStk (σ : Nat → Nat) (I : List Nat) (av st : List Value) : ((av.map (pnRV I)).reverse ++ st).map (pnV σ) = (av.map (pnV (fun k => σ (I.getD k 0)))).reverse ++ st.map (pnV σ) := by
  have : (av.map (pnRV I)).map (pnV σ) = av.map (pnV (fun k => σ (I.getD k 0))) := by
    rw [List.map_map]; exact List.map_congr_left (fun v _ => pnV_RV σ I v)
  rw [List.map_append, List.map_reverse, this]
theorem pn_callV {M M9 : pnM} {adK : Nat → Nat} {d d9 : Nat} {Q Q9 : pnR → List pnE → Prop} {bc bs bc9 bs9 mc9 ms9 : Nat} {h hc : List pnE} {I : List Nat} {L : List (Option Value)} {st st0 av : List Value} {pc index n : Nat} {k0 : Nat} {ci : Nat} {fs : List Value} (hC : pnCt M9 adK d9 mc9 ms9 (.ref k0 :: av) hc Q9) (lk : pnLkV M.1.cls index M9 n) (hd : decode M.2.1 pc = .ok (.invokevirtual index, 3)) (hn : av.length = n) (hs : pnSel h I hc) (hmv : pnFree h L st I hc) (hk0 : hc[k0]? = some (.inr (ci, fs))) (hci : (vwCl[ci]?).map (fun x => x.1) = some M9.1.cls) (hstk : st0 = (av.map (pnRV I)).reverse ++ .ref (I.getD k0 0) :: st) (hdd : d9 + 1 ≤ d) (hbc : bc9 + mc9 ≤ bc) (hbs : bs9 + ms9 ≤ bs) (hw8 : (st.map fun v => v.category).sum ≤ 8)
    (kr : ∀ r h', Q9 (.inl r) h' → hc.length ≤ h'.length → pnWP M adK d Q bc9 bs9 (pnBack h I h') L (pnRes (pnJ I h.length h'.length) r ++ st) (pc + 3)) (kx : ∀ E h', Q9 (.inr E) h' → hc.length ≤ h'.length → M.2.2.2.2 = [] ∧ Q (.inr E) (pnBack h I h')) : pnWP M adK d Q bc bs h L st0 pc := by
  intro p l e R s m args below meth c D τ A b0 adV mc ms n0 σ0 σ mv0 H locs cells slots ls ok w
  have ok2 := ok
  obtain ⟨hx, hb, hr, hml, hown, hts, hlk, hnm, htab, hK, hA, hAb, hb0, hLow, hst, hfr, hlo, hRc, hRs⟩ := ok2
  obtain ⟨w1, w2, w3, w4, w5, w6, w7, w8, w9, w10, w11⟩ := w
  obtain ⟨⟨l1, l2, l3, l4, l5⟩, l6, l7, l8⟩ := lk
  obtain ⟨hP9, hD9⟩ := pn_cut w1 w2 hs hAb
  have hpay : ∀ U : State, U.heap = H → s.WarmedH U.vm → va_Pc ((.ref k0 :: av).map (pnV (fun k => σ (I.getD k 0)))) (pnB adK adV D τ b0 H.size (fun k => σ (I.getD k 0)) hc) ((.ref k0 :: av).map (pnV (fun k => σ (I.getD k 0)))).toArray U := fun U hU hW =>
    ⟨rfl, by rw [hU], by rw [hU]; exact hP9, va_K.moved hW.alike hK, hD9, Nat.le_trans hb0 w3.1, by rw [hU]; exact pnLow.warm hW (fun q h1 h2 => w3.2.1 q h1 (fun h3 => h2 (hAb q h3))) hLow⟩
  have hlocals : 8 + (M9.2.2.1 + 11) + 64 * d9 ≤ R.locals := by omega
  obtain ⟨hG, hWs⟩ := pnWs_good l3 l2
  subst hstk
  have w8r : pnCS h.length st := fun x hx9 => w8 x (List.mem_append_right _ (List.mem_cons_of_mem _ hx9))
  have hroom : 2 * (F0 m pc ls (st.map (pnV σ))).monitorRoom + ((st.map (pnV σ)).map fun v => v.category).sum ≤ 8 := lv_room (by rw [pnCatSum]; exact hw8)
  refine pn_after (a9 := (List.map (pnV (fun k => σ (I.getD k 0))) (.ref k0 :: av)).toArray) ok ⟨w1, w2, w3, w4, w5, w6, w7, w8r, w9, w10, w11⟩ hs hmv hbc hbs ?_ kr kx
  refine vx_runV (As := av.map (pnV (fun k => σ (I.getD k 0)))) (rest := st.map (pnV σ)) ⟨hx, hb, hml, hown, hts⟩ (hC l D τ adV b0 H.size (fun k => σ (I.getD k 0)) hst) ⟨callB_of n hts hG hWs rfl rfl (hts _ l1) (hts _ l6) l4 ⟨Nat.le_trans hdd hfr, hlocals⟩, hts _ l7, hts _ l8⟩ ⟨pnB_blind, ?_, hpay⟩ rfl (by rw [List.length_map]; exact hn) w9.1 (by show List.map (pnV σ) _ = _; rw [pnStk]; rfl) hroom hd ⟨by omega, by omega⟩
  obtain ⟨x, hx9, hx8⟩ : ∃ x, vwCl[ci]? = some x ∧ x.1 = M9.1.cls := by
    cases hv : vwCl[ci]? with
    | none => rw [hv] at hci; cases hci
    | some x => rw [hv] at hci; exact ⟨x, rfl, Option.some.inj hci⟩
  have := va_recv hK hP9 hx9 (q0 := k0) (pnW_at hk0)
  rw [hx8] at this
  exact this
theorem pn_callS {M M9 : pnM} {adK : Nat → Nat} {d d9 : Nat} {Q Q9 : pnR → List pnE → Prop} {bc bs bc9 bs9 mc9 ms9 : Nat} {h hc : List pnE} {I : List Nat} {L : List (Option Value)} {st st0 av : List Value} {pc index n : Nat} (hC : pnCt M9 adK d9 mc9 ms9 av hc Q9) (lk : pnLkS M.1.cls index M9 n) (hd : decode M.2.1 pc = .ok (.invokestatic index, 3)) (hn : av.length = n) (hs : pnSel h I hc) (hmv : pnFree h L st I hc) (hstk : st0 = (av.map (pnRV I)).reverse ++ st) (hdd : d9 + 1 ≤ d) (hbc : bc9 + mc9 ≤ bc) (hbs : bs9 + ms9 ≤ bs) (hw8 : (st.map fun v => v.category).sum ≤ 8)
    (kr : ∀ r h', Q9 (.inl r) h' → hc.length ≤ h'.length → pnWP M adK d Q bc9 bs9 (pnBack h I h') L (pnRes (pnJ I h.length h'.length) r ++ st) (pc + 3)) (kx : ∀ E h', Q9 (.inr E) h' → hc.length ≤ h'.length → M.2.2.2.2 = [] ∧ Q (.inr E) (pnBack h I h')) : pnWP M adK d Q bc bs h L st0 pc := by
  intro p l e R s m args below meth c D τ A b0 adV mc ms n0 σ0 σ mv0 H locs cells slots ls ok w
  have ok2 := ok
  obtain ⟨hx, hb, hr, hml, hown, hts, hlk, hnm, htab, hK, hA, hAb, hb0, hLow, hst, hfr, hlo, hRc, hRs⟩ := ok2
  obtain ⟨w1, w2, w3, w4, w5, w6, w7, w8, w9, w10, w11⟩ := w
  obtain ⟨⟨l1, l2, l3, l4, l5⟩, l6, l7⟩ := lk
  obtain ⟨hP9, hD9⟩ := pn_cut w1 w2 hs hAb
  have hpay : ∀ U : State, U.heap = H → s.WarmedH U.vm → va_Pc (av.map (pnV (fun k => σ (I.getD k 0)))) (pnB adK adV D τ b0 H.size (fun k => σ (I.getD k 0)) hc) (av.map (pnV (fun k => σ (I.getD k 0)))).toArray U := fun U hU hW =>
    ⟨rfl, by rw [hU], by rw [hU]; exact hP9, va_K.moved hW.alike hK, hD9, Nat.le_trans hb0 w3.1, by rw [hU]; exact pnLow.warm hW (fun q h1 h2 => w3.2.1 q h1 (fun h3 => h2 (hAb q h3))) hLow⟩
  have hlocals : 8 + (M9.2.2.1 + 11) + 64 * d9 ≤ R.locals := by omega
  obtain ⟨hG, hWs⟩ := pnWs_good l3 l2
  subst hstk
  have w8r : pnCS h.length st := fun x hx9 => w8 x (List.mem_append_right _ hx9)
  have hroom : 2 * (F0 m pc ls (st.map (pnV σ))).monitorRoom + ((st.map (pnV σ)).map fun v => v.category).sum ≤ 8 := lv_room (by rw [pnCatSum]; exact hw8)
  refine pn_after (a9 := (List.map (pnV (fun k => σ (I.getD k 0))) av).toArray) ok ⟨w1, w2, w3, w4, w5, w6, w7, w8r, w9, w10, w11⟩ hs hmv hbc hbs ?_ kr kx
  exact vx_runS (As := av.map (pnV (fun k => σ (I.getD k 0)))) (rest := st.map (pnV σ)) ⟨hx, hb, hml, hown, hts⟩ (hC l D τ adV b0 H.size (fun k => σ (I.getD k 0)) hst) ⟨callB_of n hts hG hWs rfl rfl (hts _ l1) (hts _ l6) l4 ⟨Nat.le_trans hdd hfr, hlocals⟩, hts _ l7⟩ ⟨pnB_blind, hpay⟩ rfl (by rw [List.length_map]; exact hn) w9.1 (by show List.map (pnV σ) _ = _; rw [pnStk]) hroom hd ⟨by omega, by omega⟩
theorem pn_callI {M M9 : pnM} {adK : Nat → Nat} {d d9 : Nat} {Q Q9 : pnR → List pnE → Prop} {bc bs bc9 bs9 mc9 ms9 : Nat} {h hc : List pnE} {I : List Nat} {L : List (Option Value)} {st st0 av : List Value} {pc index n : Nat} {k0 : Nat} (hC : pnCt M9 adK d9 mc9 ms9 (.ref k0 :: av) hc Q9) (lk : pnLkI M.1.cls index M9 n) (hd : decode M.2.1 pc = .ok (.invokespecial index, 3)) (hn : av.length = n) (hs : pnSel h I hc) (hmv : pnFree h L st I hc) (hstk : st0 = (av.map (pnRV I)).reverse ++ .ref (I.getD k0 0) :: st) (hdd : d9 + 1 ≤ d) (hbc : bc9 + mc9 ≤ bc) (hbs : bs9 + ms9 ≤ bs) (hw8 : (st.map fun v => v.category).sum ≤ 8)
    (kr : ∀ r h', Q9 (.inl r) h' → hc.length ≤ h'.length → pnWP M adK d Q bc9 bs9 (pnBack h I h') L (pnRes (pnJ I h.length h'.length) r ++ st) (pc + 3)) (kx : ∀ E h', Q9 (.inr E) h' → hc.length ≤ h'.length → M.2.2.2.2 = [] ∧ Q (.inr E) (pnBack h I h')) : pnWP M adK d Q bc bs h L st0 pc := by
  intro p l e R s m args below meth c D τ A b0 adV mc ms n0 σ0 σ mv0 H locs cells slots ls ok w
  have ok2 := ok
  obtain ⟨hx, hb, hr, hml, hown, hts, hlk, hnm, htab, hK, hA, hAb, hb0, hLow, hst, hfr, hlo, hRc, hRs⟩ := ok2
  obtain ⟨w1, w2, w3, w4, w5, w6, w7, w8, w9, w10, w11⟩ := w
  obtain ⟨⟨l1, l2, l3, l4, l5⟩, l6, l7, l8, l9⟩ := lk
  obtain ⟨hP9, hD9⟩ := pn_cut w1 w2 hs hAb
  have hpay : ∀ U : State, U.heap = H → s.WarmedH U.vm → va_Pc ((.ref k0 :: av).map (pnV (fun k => σ (I.getD k 0)))) (pnB adK adV D τ b0 H.size (fun k => σ (I.getD k 0)) hc) ((.ref k0 :: av).map (pnV (fun k => σ (I.getD k 0)))).toArray U := fun U hU hW =>
    ⟨rfl, by rw [hU], by rw [hU]; exact hP9, va_K.moved hW.alike hK, hD9, Nat.le_trans hb0 w3.1, by rw [hU]; exact pnLow.warm hW (fun q h1 h2 => w3.2.1 q h1 (fun h3 => h2 (hAb q h3))) hLow⟩
  have hlocals : 8 + (M9.2.2.1 + 11) + 64 * d9 ≤ R.locals := by omega
  obtain ⟨hG, hWs⟩ := pnWs_good l3 l2
  subst hstk
  have w8r : pnCS h.length st := fun x hx9 => w8 x (List.mem_append_right _ (List.mem_cons_of_mem _ hx9))
  have hroom : 2 * (F0 m pc ls (st.map (pnV σ))).monitorRoom + ((st.map (pnV σ)).map fun v => v.category).sum ≤ 8 := lv_room (by rw [pnCatSum]; exact hw8)
  refine pn_after (a9 := (List.map (pnV (fun k => σ (I.getD k 0))) (.ref k0 :: av)).toArray) ok ⟨w1, w2, w3, w4, w5, w6, w7, w8r, w9, w10, w11⟩ hs hmv hbc hbs ?_ kr kx
  exact vx_runI (As := av.map (pnV (fun k => σ (I.getD k 0)))) (rest := st.map (pnV σ)) ⟨hx, hb, hml, hown, hts⟩ (hC l D τ adV b0 H.size (fun k => σ (I.getD k 0)) hst) ⟨by rw [← l9]; exact callB_of n hts hG hWs rfl rfl (hts _ l1) (hts _ l6) l4 ⟨Nat.le_trans hdd hfr, hlocals⟩, l8, hts _ l7⟩ ⟨pnB_blind, hpay⟩ rfl (by rw [List.length_map]; exact hn) w9.1 (by show List.map (pnV σ) _ = _; rw [pnStk]; rfl) hroom hd ⟨by omega, by omega⟩
theorem pn_callIN {M M9 : pnM} {adK : Nat → Nat} {d d9 : Nat} {Q Q9 : pnR → List pnE → Prop} {bc bs bc9 bs9 mc9 ms9 : Nat} {h hc : List pnE} {I : List Nat} {L : List (Option Value)} {st st0 av : List Value} {pc index n : Nat} {k0 : Nat} (hC : pnCt M9 adK d9 mc9 ms9 (.ref k0 :: av) hc Q9) (lk : pnLkIN M.1.cls index M9 n) (hd : decode M.2.1 pc = .ok (.invokespecial index, 3)) (hn : av.length = n) (hs : pnSel h I hc) (hmv : pnFree h L st I hc) (hstk : st0 = (av.map (pnRV I)).reverse ++ .ref (I.getD k0 0) :: st) (hdd : d9 + 1 ≤ d) (hbc : bc9 + mc9 ≤ bc) (hbs : bs9 + ms9 ≤ bs) (hw8 : (st.map fun v => v.category).sum ≤ 8)
    (kr : ∀ r h', Q9 (.inl r) h' → hc.length ≤ h'.length → pnWP M adK d Q bc9 bs9 (pnBack h I h') L (pnRes (pnJ I h.length h'.length) r ++ st) (pc + 3)) (kx : ∀ E h', Q9 (.inr E) h' → hc.length ≤ h'.length → M.2.2.2.2 = [] ∧ Q (.inr E) (pnBack h I h')) : pnWP M adK d Q bc bs h L st0 pc := by
  intro p l e R s m args below meth c D τ A b0 adV mc ms n0 σ0 σ mv0 H locs cells slots ls ok w
  have ok2 := ok
  obtain ⟨hx, hb, hr, hml, hown, hts, hlk, hnm, htab, hK, hA, hAb, hb0, hLow, hst, hfr, hlo, hRc, hRs⟩ := ok2
  obtain ⟨w1, w2, w3, w4, w5, w6, w7, w8, w9, w10, w11⟩ := w
  obtain ⟨⟨l1, l2, l3, l4, l5⟩, ⟨host, l6⟩, l7, l8, l9⟩ := lk
  obtain ⟨hP9, hD9⟩ := pn_cut w1 w2 hs hAb
  have hpay : ∀ U : State, U.heap = H → s.WarmedH U.vm → va_Pc ((.ref k0 :: av).map (pnV (fun k => σ (I.getD k 0)))) (pnB adK adV D τ b0 H.size (fun k => σ (I.getD k 0)) hc) ((.ref k0 :: av).map (pnV (fun k => σ (I.getD k 0)))).toArray U := fun U hU hW =>
    ⟨rfl, by rw [hU], by rw [hU]; exact hP9, va_K.moved hW.alike hK, hD9, Nat.le_trans hb0 w3.1, by rw [hU]; exact pnLow.warm hW (fun q h1 h2 => w3.2.1 q h1 (fun h3 => h2 (hAb q h3))) hLow⟩
  have hlocals : 8 + (M9.2.2.1 + 11) + 64 * d9 ≤ R.locals := by omega
  obtain ⟨hG, hWs⟩ := pnWs_good l3 l2
  subst hstk
  have w8r : pnCS h.length st := fun x hx9 => w8 x (List.mem_append_right _ (List.mem_cons_of_mem _ hx9))
  have hroom : 2 * (F0 m pc ls (st.map (pnV σ))).monitorRoom + ((st.map (pnV σ)).map fun v => v.category).sum ≤ 8 := lv_room (by rw [pnCatSum]; exact hw8)
  refine pn_after (a9 := (List.map (pnV (fun k => σ (I.getD k 0))) (.ref k0 :: av)).toArray) ok ⟨w1, w2, w3, w4, w5, w6, w7, w8r, w9, w10, w11⟩ hs hmv hbc hbs ?_ kr kx
  exact vx_runIN (As := av.map (pnV (fun k => σ (I.getD k 0)))) (rest := st.map (pnV σ)) ⟨hx, hb, hml, hown, hts⟩ (hC l D τ adV b0 H.size (fun k => σ (I.getD k 0)) hst) ⟨by rw [← l9]; exact va_cnB n hts hG hWs rfl rfl (hLow.2.2.2.2.1 _ l6) (hts _ l1) l4 ⟨Nat.le_trans hdd hfr, hlocals⟩, l8, hts _ l7⟩ ⟨pnB_blind, hpay⟩ rfl (by rw [List.length_map]; exact hn) w9.1 (by show List.map (pnV σ) _ = _; rw [pnStk]; rfl) hroom hd ⟨by omega, by omega⟩
theorem pn_callSN {M M9 : pnM} {adK : Nat → Nat} {d d9 : Nat} {Q Q9 : pnR → List pnE → Prop} {bc bs bc9 bs9 mc9 ms9 : Nat} {h hc : List pnE} {I : List Nat} {L : List (Option Value)} {st st0 av : List Value} {pc index n : Nat} (hC : pnCt M9 adK d9 mc9 ms9 av hc Q9) (lk : pnLkSN M.1.cls index M9 n) (hd : decode M.2.1 pc = .ok (.invokestatic index, 3)) (hn : av.length = n) (hs : pnSel h I hc) (hmv : pnFree h L st I hc) (hstk : st0 = (av.map (pnRV I)).reverse ++ st) (hdd : d9 + 1 ≤ d) (hbc : bc9 + mc9 ≤ bc) (hbs : bs9 + ms9 ≤ bs) (hw8 : (st.map fun v => v.category).sum ≤ 8)
    (kr : ∀ r h', Q9 (.inl r) h' → hc.length ≤ h'.length → pnWP M adK d Q bc9 bs9 (pnBack h I h') L (pnRes (pnJ I h.length h'.length) r ++ st) (pc + 3)) (kx : ∀ E h', Q9 (.inr E) h' → hc.length ≤ h'.length → M.2.2.2.2 = [] ∧ Q (.inr E) (pnBack h I h')) : pnWP M adK d Q bc bs h L st0 pc := by
  intro p l e R s m args below meth c D τ A b0 adV mc ms n0 σ0 σ mv0 H locs cells slots ls ok w
  have ok2 := ok
  obtain ⟨hx, hb, hr, hml, hown, hts, hlk, hnm, htab, hK, hA, hAb, hb0, hLow, hst, hfr, hlo, hRc, hRs⟩ := ok2
  obtain ⟨w1, w2, w3, w4, w5, w6, w7, w8, w9, w10, w11⟩ := w
  obtain ⟨⟨l1, l2, l3, l4, l5⟩, ⟨host, l6⟩, l7⟩ := lk
  obtain ⟨hP9, hD9⟩ := pn_cut w1 w2 hs hAb
  have hpay : ∀ U : State, U.heap = H → s.WarmedH U.vm → va_Pc (av.map (pnV (fun k => σ (I.getD k 0)))) (pnB adK adV D τ b0 H.size (fun k => σ (I.getD k 0)) hc) (av.map (pnV (fun k => σ (I.getD k 0)))).toArray U := fun U hU hW =>
    ⟨rfl, by rw [hU], by rw [hU]; exact hP9, va_K.moved hW.alike hK, hD9, Nat.le_trans hb0 w3.1, by rw [hU]; exact pnLow.warm hW (fun q h1 h2 => w3.2.1 q h1 (fun h3 => h2 (hAb q h3))) hLow⟩
  have hlocals : 8 + (M9.2.2.1 + 11) + 64 * d9 ≤ R.locals := by omega
  obtain ⟨hG, hWs⟩ := pnWs_good l3 l2
  subst hstk
  have w8r : pnCS h.length st := fun x hx9 => w8 x (List.mem_append_right _ hx9)
  have hroom : 2 * (F0 m pc ls (st.map (pnV σ))).monitorRoom + ((st.map (pnV σ)).map fun v => v.category).sum ≤ 8 := lv_room (by rw [pnCatSum]; exact hw8)
  refine pn_after (a9 := (List.map (pnV (fun k => σ (I.getD k 0))) av).toArray) ok ⟨w1, w2, w3, w4, w5, w6, w7, w8r, w9, w10, w11⟩ hs hmv hbc hbs ?_ kr kx
  exact vx_runSN (As := av.map (pnV (fun k => σ (I.getD k 0)))) (rest := st.map (pnV σ)) ⟨hx, hb, hml, hown, hts⟩ (hC l D τ adV b0 H.size (fun k => σ (I.getD k 0)) hst) ⟨va_cnB n hts hG hWs rfl rfl (hLow.2.2.2.2.1 _ l6) (hts _ l1) l4 ⟨Nat.le_trans hdd hfr, hlocals⟩, hts _ l7, trivial⟩ ⟨pnB_blind, hpay⟩ rfl (by rw [List.length_map]; exact hn) w9.1 (by show List.map (pnV σ) _ = _; rw [pnStk]) hroom hd ⟨by omega, by omega⟩
