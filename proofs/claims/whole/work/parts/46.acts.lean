/-! ===== rows of references ===== -/
theorem pn_newq {M : pnM} {adK : Nat → Nat} {d : Nat} {Q : pnR → List pnE → Prop} {bc bs : Nat} {h : List pnE} {L : List (Option Value)} {st : List Value} {pc q : Nat} {N index : Nat} {i : Int32} (hcl : Cond.classLink M.1.cls index "PartedNet$Net" ∈ pnG) (hov : Cond.arrayOver (.object "PartedNet$Net") ∈ pnN) (hd : decode M.2.1 pc = .ok (.anewarray index, 3)) (hq : pc + 3 = q) (hi : i = nI N) (hN : N ≤ 60000)
    (kk : pnWP M adK d Q bc bs (h ++ [.inl (3, N, .inr (.inr (.inr (.inr (fun _ => none)))))]) L (.ref h.length :: st) q) : pnWP M adK d Q (bc + 1) (bs + N) h L (.int i :: st) pc := by
  subst hq
  subst hi
  intro p l e R s m args below meth c D τ A b0 adV mc ms n0 σ0 σ mv0 H locs cells slots ls ok w
  have ok2 := ok
  obtain ⟨hx, hb, hr, hml, hown, hts, hlk, hnm, htab, hK, hA, hAb, hb0, hLow, hst, hfr, hlo, hRc, hRs⟩ := ok2
  obtain ⟨w1, w2, w3, w4, w5, w6, w7, w8, w9, w10, w11⟩ := w
  refine va_newq (own := M.1.cls) (C := "PartedNet$Net") (N' := N) hx hb hown (hts _ hcl) (hLow.2.2.2.2.1 _ hov) hK w1 w2 w3 hA (nI_pos (by omega)) (nI_clamp (by omega)) (by omega) (by omega) (by omega) hd (fun q9 cA H1 g0 g1 g2 g3 => ?_)
  have hcA : cA = τ 3 := by
    obtain ⟨_, _, _, _, _, h1⟩ := (g0.2 7 (cA, .object "PartedNet$Net") rfl).2
    obtain ⟨_, _, _, _, _, h2⟩ := (hK.2 3 (τ 3, .object "PartedNet$Net") rfl).2
    exact Option.some.inj (h1.symm.trans h2)
  subst hcA
  obtain ⟨σ', hσ, hσ2, w', hst'⟩ := pn_grow ⟨w1, w2, w3, w4, w5, w6, w7, w8.tail, w9, w10, w11⟩ (.inl (3, N, .inr (.inr (.inr (.inr (fun _ => none)))))) (fun j k e9 => by cases e9) q9 H1 (.inl (τ 3, N, .inr (.inr (.inr (.inr (fun _ => none)))))) (fun σ' _ _ => rfl) g1 g2 g3
  have k9 := kk p l e R s m args below meth c D τ A b0 adV mc ms n0 σ0 σ' mv0 H1 locs (cells + 1) (slots + N) ls ok w'
  rw [List.map_cons, hst', show pnV σ' (.ref h.length) = .ref q9 by show Value.ref (σ' h.length) = _; rw [hσ2]] at k9
  exact k9
def pnRefs : List pnE → List (Nat → Option Nat)
  | [] => []
  | .inl (_, _, .inr (.inr (.inr (.inr g)))) :: t => g :: pnRefs t
  | _ :: t => pnRefs t
theorem pnRefs_in {g : Nat → Option Nat} : ∀ {h : List pnE} {i t n : Nat}, h[i]? = some (.inl (t, n, .inr (.inr (.inr (.inr g))))) → g ∈ pnRefs h
  | [], i, t, n, e => by simp at e
  | c :: r, 0, t, n, e => by
    have e : c = .inl (t, n, .inr (.inr (.inr (.inr g)))) := Option.some.inj e
    rw [e]
    exact List.mem_cons_self
  | c :: r, i + 1, t, n, e => by
    have h1 := pnRefs_in (h := r) (i := i) e
    match c with
    | .inl (_, _, .inr (.inr (.inr (.inr g')))) => exact List.mem_cons_of_mem _ h1
    | .inr _ => exact h1
    | .inl (_, _, .inl _) => exact h1
    | .inl (_, _, .inr (.inl _)) => exact h1
    | .inl (_, _, .inr (.inr (.inl _))) => exact h1
    | .inl (_, _, .inr (.inr (.inr (.inl _)))) => exact h1
def pnCCq (n : Nat) : pnE → Bool
  | .inl _ => true
  | .inr (_, fs) => fs.all (pnCVb n)
theorem pnCH_q {h : List pnE} (e : h.all (pnCCq h.length) = true) (hg : ∀ g ∈ pnRefs h, ∀ j x, g j = some x → x < h.length) : pnCH h := fun k c hk => by
  have h1 := List.all_eq_true.mp e c (List.mem_of_getElem? hk)
  match c, h1, hk with
  | .inl (_, _, .inr (.inr (.inr (.inr g)))), _, hk => exact fun j x e9 => hg g (pnRefs_in hk) j x e9
  | .inr (_, fs), h1, _ => exact fun v hv => pnCV_b (List.all_eq_true.mp h1 v hv)
  | .inl (_, _, .inl _), _, _ => trivial
  | .inl (_, _, .inr (.inl _)), _, _ => trivial
  | .inl (_, _, .inr (.inr (.inl _))), _, _ => trivial
  | .inl (_, _, .inr (.inr (.inr (.inl _)))), _, _ => trivial
/-! no row of references refers to the callee's rows that may be laid anew -/
def pnNoQ (a : Nat) : pnE → Bool
  | .inr (_, fs) => fs.all (pnNoV a)
  | _ => true
def pnOutQ (I : List Nat) (a : Nat) : List pnE → Nat → Bool
  | [], _ => true
  | c :: t, i => (I.contains i || pnNoQ a c) && pnOutQ I a t (i + 1)
def pnFreeQ (h : List pnE) (L : List (Option Value)) (st : List Value) (I : List Nat) : List pnE → List Nat → Bool
  | c :: cs, i :: is => (match pnIs5 c with | true => pnOutQ I i h 0 && (pnNoL i L && st.all (pnNoV i)) | false => true) && pnFreeQ h L st I cs is
  | _, _ => true
def pn5s : List pnE → List Nat → List Nat
  | c :: cs, i :: is => (match pnIs5 c with | true => [i] | false => []) ++ pn5s cs is
  | _, _ => []
theorem pnOutQ_of {I : List Nat} {a : Nat} : ∀ {h : List pnE} {b : Nat}, pnOutQ I a h b = true → ∀ (i : Nat) (c : pnE), h[i]? = some c → b + i ∉ I → pnNoQ a c = true
  | [], b, _, i, c, e, _ => by simp at e
  | c0 :: t, b, h, 0, c, e, hI => by
    have h2 : (I.contains b || pnNoQ a c0) = true ∧ pnOutQ I a t (b + 1) = true := Bool.and_eq_true _ _ ▸ h
    have e2 : c0 = c := Option.some.inj e
    rw [← e2]
    rcases (Bool.or_eq_true _ _).mp h2.1 with q | q
    · exact (hI (by simpa using q)).elim
    · exact q
  | c0 :: t, b, h, i + 1, c, e, hI => by
    have h2 : (I.contains b || pnNoQ a c0) = true ∧ pnOutQ I a t (b + 1) = true := Bool.and_eq_true _ _ ▸ h
    exact pnOutQ_of (h := t) (b := b + 1) h2.2 i c e (by rw [show b + 1 + i = b + (i + 1) by omega]; exact hI)
theorem pnFreeQ_of {h : List pnE} {L : List (Option Value)} {st : List Value} {I : List Nat} : ∀ {hc : List pnE} {is : List Nat}, is.length = hc.length → pnFreeQ h L st I hc is = true → ∀ k, pnAt5 hc k = true → pnOutQ I (is.getD k 0) h 0 = true ∧ pnNoL (is.getD k 0) L = true ∧ st.all (pnNoV (is.getD k 0)) = true ∧ is.getD k 0 ∈ pn5s hc is
  | [], is, _, _, k, e => by unfold pnAt5 at e; simp at e
  | c :: cs, [], hl, _, k, e => by cases hl
  | c :: cs, i :: is, hl, h9, 0, e => by
    unfold pnFreeQ at h9
    have e : pnIs5 c = true := e
    rw [e, Bool.and_eq_true, Bool.and_eq_true, Bool.and_eq_true] at h9
    refine ⟨h9.1.1, h9.1.2.1, h9.1.2.2, ?_⟩
    unfold pn5s
    rw [e]
    exact List.mem_cons_self
  | c :: cs, i :: is, hl, h9, k + 1, e => by
    unfold pnFreeQ at h9
    rw [Bool.and_eq_true] at h9
    have := pnFreeQ_of (hc := cs) (is := is) (by simpa using hl) h9.2 k e
    refine ⟨this.1, this.2.1, this.2.2.1, ?_⟩
    unfold pn5s
    exact List.mem_append_right _ this.2.2.2
theorem pnFree_q {h : List pnE} {L : List (Option Value)} {st : List Value} {I : List Nat} {hc : List pnE} (hl : I.length = hc.length) (e : pnFreeQ h L st I hc I = true) (hg : ∀ g ∈ pnRefs h, ∀ j x, g j = some x → x ∉ pn5s hc I) : pnFree h L st I hc := by
  have key := pnFreeQ_of hl e
  have hv : ∀ v, (∀ k, pnAt5 hc k = true → pnNoV (I.getD k 0) v = true) → pnRV' (fun x => ∀ k, pnAt5 hc k = true → x ≠ I.getD k 0) v := fun v q => by
    cases v <;> first | trivial | skip
    next x =>
      intro k hk
      exact pnNoV_of (q k hk)
  refine ⟨fun i c hi hI => ?_, fun i v hi => ?_, fun v hvs => ?_⟩
  · match c, hi with
    | .inl (_, _, .inr (.inr (.inr (.inr g)))), hi =>
      intro j x hx k hk e9
      have h1 := hg g (pnRefs_in hi) j x hx
      rw [e9] at h1
      exact h1 (key k hk).2.2.2
    | .inr (_, fs), hi =>
      intro v hvf
      refine hv v (fun k hk => ?_)
      have := pnOutQ_of (key k hk).1 i _ hi (by rw [Nat.zero_add]; exact hI)
      exact List.all_eq_true.mp this v hvf
    | .inl (_, _, .inl _), _ => trivial
    | .inl (_, _, .inr (.inl _)), _ => trivial
    | .inl (_, _, .inr (.inr (.inl _))), _ => trivial
    | .inl (_, _, .inr (.inr (.inr (.inl _)))), _ => trivial
  · cases v <;> first | trivial | skip
    next x =>
      intro k hk
      exact pnNoL_of (key k hk).2.1 i _ hi
  · exact hv v (fun k hk => List.all_eq_true.mp (key k hk).2.2.1 v hvs)
