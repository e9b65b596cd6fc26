def pnOutC (I : List Nat) (a : Nat) : List pnE → Nat → Bool
  | [], _ => true
  | c :: t, i => (I.contains i || pnNoC a c) && pnOutC I a t (i + 1)
def pnFreeG (h : List pnE) (L : List (Option Value)) (st : List Value) (I : List Nat) : List pnE → List Nat → Bool
  | c :: cs, i :: is => (match pnIs5 c with | true => pnOutC I i h 0 && (pnNoL i L && st.all (pnNoV i)) | false => true) && pnFreeG h L st I cs is
  | _, _ => true
theorem pnOutC_of {I : List Nat} {a : Nat} : ∀ {h : List pnE} {b : Nat}, pnOutC I a h b = true → ∀ (i : Nat) (c : pnE), h[i]? = some c → b + i ∉ I → pnNoC a c = true
  | [], b, _, i, c, e, _ => by simp at e
  | c0 :: t, b, h, 0, c, e, hI => by
    have h2 : (I.contains b || pnNoC a c0) = true ∧ pnOutC I a t (b + 1) = true := Bool.and_eq_true _ _ ▸ h
    have e2 : c0 = c := Option.some.inj e
    rw [← e2]
    rcases (Bool.or_eq_true _ _).mp h2.1 with q | q
    · exact (hI (by simpa using q)).elim
    · exact q
  | c0 :: t, b, h, i + 1, c, e, hI => by
    have h2 : (I.contains b || pnNoC a c0) = true ∧ pnOutC I a t (b + 1) = true := Bool.and_eq_true _ _ ▸ h
    exact pnOutC_of (h := t) (b := b + 1) h2.2 i c e (by rw [show b + 1 + i = b + (i + 1) by omega]; exact hI)
theorem pnFreeG_of {h : List pnE} {L : List (Option Value)} {st : List Value} {I : List Nat} : ∀ {hc : List pnE} {is : List Nat}, is.length = hc.length → pnFreeG h L st I hc is = true → ∀ k, pnAt5 hc k = true → pnOutC I (is.getD k 0) h 0 = true ∧ pnNoL (is.getD k 0) L = true ∧ st.all (pnNoV (is.getD k 0)) = true
  | [], is, _, _, k, e => by unfold pnAt5 at e; simp at e
  | c :: cs, [], hl, _, k, e => by cases hl
  | c :: cs, i :: is, hl, h9, 0, e => by
    unfold pnFreeG at h9
    have e : pnIs5 c = true := e
    rw [e, Bool.and_eq_true, Bool.and_eq_true, Bool.and_eq_true] at h9
    exact ⟨h9.1.1, h9.1.2.1, h9.1.2.2⟩
  | c :: cs, i :: is, hl, h9, k + 1, e => by
    unfold pnFreeG at h9
    rw [Bool.and_eq_true] at h9
    exact pnFreeG_of (hc := cs) (is := is) (by simpa using hl) h9.2 k e
theorem pnFree_b {h : List pnE} {L : List (Option Value)} {st : List Value} {I : List Nat} {hc : List pnE} (hl : I.length = hc.length) (e : pnFreeG h L st I hc I = true) : pnFree h L st I hc := by
  have key := pnFreeG_of hl e
  have hv : ∀ v, (∀ k, pnAt5 hc k = true → pnNoV (I.getD k 0) v = true) → pnRV' (fun x => ∀ k, pnAt5 hc k = true → x ≠ I.getD k 0) v := fun v q => by
    cases v <;> first | trivial | skip
    next x =>
      intro k hk
      exact pnNoV_of (q k hk)
  refine ⟨fun i c hi hI => ?_, fun i v hi => ?_, fun v hvs => ?_⟩
  · match c, hi with
    | .inl (_, _, .inr (.inr (.inr (.inr g)))), hi =>
      intro j x hx k hk
      have := pnOutC_of (key k hk).1 i _ hi (by rw [Nat.zero_add]; exact hI)
      cases this
    | .inr (_, fs), hi =>
      intro v hvf
      refine hv v (fun k hk => ?_)
      have := pnOutC_of (key k hk).1 i _ hi (by rw [Nat.zero_add]; exact hI)
      exact List.all_eq_true.mp this v hvf
    | .inl (_, _, .inl _), _ => trivial
    | .inl (_, _, .inr (.inl _)), _ => trivial
    | .inl (_, _, .inr (.inr (.inl _))), _ => trivial
    | .inl (_, _, .inr (.inr (.inr (.inl _)))), _ => trivial
  · cases v <;> first | trivial | skip
    next x =>
      intro k hk
      exact pnNoL_of (key k hk).2.1 i _ hi
  · exact hv v (fun k hk => List.all_eq_true.mp (key k hk).2.2 v hvs)
