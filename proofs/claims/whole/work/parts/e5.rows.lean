/-! ===== a row of 8 rows of 90 longs, made at once. No state is named: what is known of the state goes along with the loop, and where the walk ends is found behind the run ===== -/
def mrO (cA : ClassId) (a i : Nat) : Cell := arrV cA 8 (fun j => va_rf (if j < i then some (a + 1 + j) else none))
def mrI (cI : ClassId) : Cell := arrV cI 90 (fun _ => .long 0)
theorem mrO_set (cA : ClassId) (a i : Nat) : (mrO cA a i).setSlot i (.ref (a + 1 + i)) = mrO cA a (i + 1) := by
  unfold mrO
  rw [arrV_store]
  congr 1
  funext j
  unfold updV
  by_cases e : j = i
  · rw [if_pos e, if_pos (by omega), e]; rfl
  · rw [if_neg e]
    show va_rf (if j < i then some (a + 1 + j) else none) = _
    by_cases e2 : j < i
    · rw [if_pos e2, if_pos (by omega)]
    · rw [if_neg e2, if_neg (by omega)]
theorem mrO_size (cA : ClassId) (a i : Nat) : (mrO cA a i).slots.size = 8 := arrV_size _ _ _
theorem mx_step {p : Program} {e : Env} {below : List Frame} {T : State} {g : JFrame} {c : Code} {i : Instr} {len : Nat} {Q : State → Prop} (h : At T g.method c below) (hd : decode c.code g.pc = .ok (i, len))
    (hw : wpRun (p.tables.exec i) (fun _ s1 _ => ∀ acts, ∃ t, Steps p.tables e below (afterInstr e len (.ok () s1 acts)).1 t ∧ Q t) (fun _ _ _ => False) e (T.setTop g)) :
    ∃ t, Steps p.tables e below (T.setTop g) t ∧ Q t := by
  have hw := (wpRun_iff_run _ _ _ _ _).mp hw
  cases hr : (p.tables.exec i).run e (T.setTop g) with
  | ok a s1 acts =>
    rw [hr] at hw
    obtain ⟨t, ht, hq⟩ := hw acts
    refine ⟨t, Steps.head ⟨h.running, by rw [State.curStatus?_setTop]; exact h.runnable, by rw [State.alone_setTop]; exact h.alone⟩ (h.within g) ?_, hq⟩
    rw [stepThread_java (State.frames_setTop' g h.top) h.plain h.code hd, hr]
    exact ht
  | ctl x s1 acts =>
    rw [hr] at hw
    cases x <;> exact hw.elim
theorem mx_for {E : CtlPost} {e : Env} {N : Nat} {J : Nat → State → Prop} {g : Nat → PUnit → Sem (ForInStep PUnit)} {Q : PUnit → Pre}
    (hg : ∀ (i : Nat) (S : State) (d : Bool) (acts : List Action) (Q' : ForInStep PUnit → Pre), i < N → J i S → (∀ S' d' acts', J (i + 1) S' → Q' (ForInStep.yield PUnit.unit) d' acts' S') → wp (g i PUnit.unit) Q' E e d acts S)
    (hq : ∀ S d acts, J N S → Q PUnit.unit d acts S) :
    ∀ (n i : Nat) (S : State) (d : Bool) (acts : List Action), i + n = N → J i S → wp (forIn (List.range' i n) PUnit.unit g) Q E e d acts S
  | 0, i, S, d, acts, hn, hJ => by
    have e0 : i = N := hn
    subst e0
    simp only [List.range'_zero, List.forIn_nil, wp_pure']
    exact hq _ _ _ hJ
  | n + 1, i, S, d, acts, hn, hJ => by
    simp only [List.range'_succ, List.forIn_cons, wp_bind']
    exact hg i S d acts _ (by omega) hJ (fun S' d' acts' hJ' => mx_for hg hq n (i + 1) S' d' acts' (by omega) hJ')
theorem mx_new {p : Program} {l : Launch} {e : Env} {R : Room} {s : State} {m : MethodId} {args : Array Value} {below : List Frame} {meth : Method} {c : Code} {T : State} {locs : List Loc} {cells slots : Nat} {E : CtlPost} {d : Bool} {acts : List Action} {f : JFrame} {cI cJ : ClassId} {kI : Class} {ty : FieldType} {n : Nat} {v : Value} (X : Stand p l e R s m args below meth c T locs cells slots) (hk : s.vm.classes[cI]? = some kI) (hkind : kI.kind = .array cJ ty) (hf : fits ty v = true) (hb : n * componentBytes ty ≤ 536870912) (hn : n ≤ 2147483645) (h1 : cells + 1 ≤ R.cells) (h2 : slots + n ≤ R.slots) {Q : Addr → Pre}
    (hq : ∀ acts', Stand p l e R s m args below meth c (T.pushCell (arrV cI n (fun _ => v))) locs (cells + 1) (slots + n) → Q T.heap.size d acts' ((T.pushCell (arrV cI n (fun _ => v))).setTop f)) : wp (Jvm.newArray cI n v) Q E e d acts (T.setTop f) := by
  obtain ⟨k1, hk1, e1⟩ := X.warmed.alike.2.2 _ _ hk
  obtain ⟨r1, r2⟩ := X.roomAbove h1 h2
  have X2 := X.pushed (arrV cI n (fun _ => v))
  rw [arrV_size] at X2
  refine W.newArray_of (k := k1) (comp := cJ) (type := ty) hk1 (by rw [e1]; exact hkind) (by rw [Launch.admits_arrayLengthLimit X.admits]; omega) (by rw [Launch.admits_maxHeapBytes X.admits]; omega) r1 r2 hf (fun acts' => ?_)
  have h9 := hq acts' X2
  rw [← arrV_new] at h9
  exact h9
def mxJ (p : Program) (l : Launch) (e : Env) (R : Room) (s : State) (m : MethodId) (args : Array Value) (below : List Frame) (meth : Method) (c : Code) (locs : List Loc) (cells slots : Nat) (H : Heap) (f : JFrame) (cA cI : ClassId) (i : Nat) (S : State) : Prop :=
  ∃ T : State, S = T.setTop f ∧ Stand p l e R s m args below meth c T (locs ++ (List.range i).map (fun j => ⟨H.size, j⟩)) (cells + (1 + i)) (slots + (8 + 90 * i)) ∧ T.heap.size = H.size + 1 + i ∧ T.heap[H.size]? = some (mrO cA H.size i) ∧ (∀ j, j < i → T.heap[H.size + 1 + j]? = some (mrI cI)) ∧ ∀ q : Nat, q < H.size → T.heap[q]? = H[q]?
theorem mx_next {p : Program} {l : Launch} {e : Env} {R : Room} {s : State} {m : MethodId} {args : Array Value} {below : List Frame} {meth : Method} {c : Code} {locs : List Loc} {cells slots : Nat} {E : CtlPost} {d : Bool} {acts : List Action} {f : JFrame} {H : Heap} {cA cI cJ : ClassId} {kA kI : Class} {i : Nat} {S : State} (hkA : s.vm.classes[cA]? = some kA) (hkindA : kA.kind = .array cI (.array .long)) (hkI : s.vm.classes[cI]? = some kI) (hkindI : kI.kind = .array cJ .long) (hc : cells + 9 ≤ R.cells) (hs : slots + 728 ≤ R.slots) (hi : i < 8) (hJ : mxJ p l e R s m args below meth c locs cells slots H f cA cI i S) {Q : Unit → Pre}
    (hq : ∀ S' d' acts', mxJ p l e R s m args below meth c locs cells slots H f cA cI (i + 1) S' → Q () d' acts' S') : wp (multianewarray.make cI [(90 : Int32)]) (fun a => wp (Jvm.writeLoc H.size i (.ref a)) Q E e) E e d acts S := by
  obtain ⟨T, rfl, X, g1, g2, g3, g4⟩ := hJ
  have n9 : ¬ (90 : Int32) < 0 := by decide
  obtain ⟨k1, hk1, e1⟩ := X.warmed.alike.2.2 _ _ hkI
  obtain ⟨k2, hk2, e2⟩ := X.warmed.alike.2.2 _ _ hkA
  have hk1' : (T.setTop f).vm.classes[cI]? = some k1 := hk1
  have e1' : k1.kind = .array cJ .long := by rw [e1]; exact hkindI
  have e2' : k2.kind = .array cI (.array .long) := by rw [e2]; exact hkindA
  unfold multianewarray.make
  simp only [wp_bind', W.theClass, W.ite, wp_pure', n9, if_false, hk1', e1', exists_eq_left', Option.some.injEq]
  refine mx_new (n := 90) X hkI hkindI rfl (by decide) (by decide) (by omega) (by omega) (fun acts' X2 => ?_)
  have hlt : H.size < T.heap.size := by omega
  have ho : (T.pushCell (mrI cI)).heap[H.size]? = some (mrO cA H.size i) := (State.heap_pushCell_of_lt _ _ hlt).trans g2
  have ew : (mrO cA H.size i).setSlot i (.ref T.heap.size) = mrO cA H.size (i + 1) := by rw [g1]; exact mrO_set cA H.size i
  have hsz : H.size < (T.pushCell (mrI cI)).heap.size := by rw [State.heap_pushCell, Array.size_push]; omega
  have X3 := X2.stored ho i (.ref T.heap.size)
  rw [ew] at X3
  refine (W.writeLoc _ _ _ _).mpr ⟨mrO cA H.size i, ho, (fun e9 => by cases e9), by rw [mrO_size]; exact hi, ?_, ?_⟩
  · show State.fitsSlot _ cA .none i (.ref T.heap.size) = true
    simp [State.fitsSlot, State.slotType?, hk2, e2']
    rfl
  · refine hq _ _ _ ⟨(T.pushCell (mrI cI)).setCell H.size (mrO cA H.size (i + 1)), by rw [ew]; rfl, ?_, ?_, heapAt_setCell_self _ hsz, fun j hj => ?_, fun q hq9 => ?_⟩
    · rw [List.range_succ, List.map_append, ← List.append_assoc, show cells + (1 + (i + 1)) = cells + (1 + i) + 1 by omega, show slots + (8 + 90 * (i + 1)) = slots + (8 + 90 * i) + 90 by omega]
      exact X3
    · rw [size_setCell, State.heap_pushCell, Array.size_push]; omega
    · rw [heapAt_setCell_ne _ (show H.size ≠ H.size + 1 + j by omega), State.heap_pushCell]
      by_cases ej : j = i
      · subst ej
        rw [← g1]
        exact Array.getElem?_push_size
      · exact (State.heap_pushCell_of_lt _ _ (show H.size + 1 + j < T.heap.size by omega)).trans (g3 j (by omega))
    · rw [heapAt_setCell_ne _ (show H.size ≠ q by omega)]
      exact (State.heap_pushCell_of_lt _ _ (show q < T.heap.size by omega)).trans (g4 q hq9)
theorem mx_make {p : Program} {l : Launch} {e : Env} {R : Room} {s : State} {m : MethodId} {args : Array Value} {below : List Frame} {meth : Method} {c : Code} {T : State} {locs : List Loc} {cells slots : Nat} {E : CtlPost} {d : Bool} {acts : List Action} {f : JFrame} {cA cI cJ : ClassId} {kA kI : Class} (X : Stand p l e R s m args below meth c T locs cells slots) (hkA : s.vm.classes[cA]? = some kA) (hkindA : kA.kind = .array cI (.array .long)) (hkI : s.vm.classes[cI]? = some kI) (hkindI : kI.kind = .array cJ .long) (hc : cells + 9 ≤ R.cells) (hs : slots + 728 ≤ R.slots) {Q : Addr → Pre}
    (hq : ∀ S' d' acts', mxJ p l e R s m args below meth c locs cells slots T.heap f cA cI 8 S' → Q T.heap.size d' acts' S') : wp (multianewarray.make cA [(8 : Int32), (90 : Int32)]) Q E e d acts (T.setTop f) := by
  have n8 : ¬ (8 : Int32) < 0 := by decide
  have z8 : ((8 : Int32) == 0) = false := by decide
  obtain ⟨k2, hk2, e2⟩ := X.warmed.alike.2.2 _ _ hkA
  have hk2' : (T.setTop f).vm.classes[cA]? = some k2 := hk2
  have e2' : k2.kind = .array cI (.array .long) := by rw [e2]; exact hkindA
  unfold multianewarray.make
  simp only [wp_bind', W.theClass, W.ite, wp_pure', n8, z8, if_false, Bool.false_eq_true, hk2', e2', exists_eq_left', Option.some.injEq]
  refine mx_new (n := 8) X hkA hkindA rfl (by decide) (by decide) (by omega) (by omega) (fun acts' X2 => ?_)
  rw [Std.Legacy.Range.forIn_eq_forIn_range', wp_bind']
  refine mx_for (N := 8) (Q := fun _ => Q T.heap.size) (J := mxJ p l e R s m args below meth c locs cells slots T.heap f cA cI) (fun i S d' acts2 Q' hi hJ next => ?_) (fun S d' acts2 hJ => hq S d' acts2 hJ) 8 0 ((T.pushCell (arrV cA 8 (fun _ => Value.null))).setTop f) d acts' rfl ?_
  · simp only [wp_bind', wp_pure']
    exact mx_next (Q := fun _ => Q' (ForInStep.yield PUnit.unit)) hkA hkindA hkI hkindI hc hs hi hJ next
  · refine ⟨T.pushCell (mrO cA T.heap.size 0), rfl, ?_, ?_, State.heap_pushCell_size _ _, fun j hj => absurd hj (Nat.not_lt_zero j), fun q hq9 => State.heap_pushCell_of_lt _ _ hq9⟩
    · rw [List.range_zero, List.map_nil, List.append_nil]
      exact X2
    · rw [State.heap_pushCell, Array.size_push]
theorem mx_W {p : Program} {l : Launch} {e : Env} {R : Room} {s : State} {m : MethodId} {args : Array Value} {below : List Frame} {meth : Method} {c : Code} {H : Heap} {locs : List Loc} {cells slots : Nat} {Q : State → Prop} {cc : ByteArray} {pc : Nat} {ls : Array Slot} {rest : List Value}
    (hexec : p.tables.exec = Jvm.exec) (hb : c.code = cc) {own : String} {index : Nat} (hown : s.vm.findClass own = some m.cls) (hcl : (Cond.classLink own index "[[J").before args s = true) (hov : (Cond.arrayOver (.array .long)).before #[] s = true) (har : (Cond.arrayClass .long).before args s = true) (hcells : cells + 9 ≤ R.cells) (hslots : slots + 728 ≤ R.slots) (hd : decode cc pc = .ok (.multianewarray index 2, 4))
    (kk : ∀ (cA cI : ClassId) (H1 : Heap), s.vm.findClass ("[" ++ (FieldType.array .long).toString) = some cA → s.vm.findClass ("[" ++ FieldType.long.toString) = some cI → H1.size = H.size + 9 → H1[H.size]? = some (mrO cA H.size 8) → (∀ j, j < 8 → H1[H.size + 1 + j]? = some (mrI cI)) → (∀ q : Nat, q < H.size → H1[q]? = H[q]?) → W p l e R s m args below meth c H1 (locs ++ (List.range 8).map (fun j => ⟨H.size, j⟩)) (cells + 9) (slots + 728) Q (F0 m (pc + 4) ls (.ref H.size :: rest))) :
    W p l e R s m args below meth c H locs cells slots Q (F0 m pc ls (.int 90 :: .int 8 :: rest)) := by
  intro T hT X
  subst hT
  subst hb
  obtain ⟨cI, kI, cJ, nI, hkI, hkindI⟩ := Cond.arrayClass_spec har
  obtain ⟨cI2, cA, kA, nI2, -, hkA, hkindA, nA⟩ := arrayOverA_spec hov
  obtain ⟨cB, nB, hent⟩ := Cond.classLink_spec hown hcl e.platform (by rw [X.admits.platform])
  have eI : cI2 = cI := Option.some.inj (nI2.symm.trans nI)
  have eA : cB = cA := Option.some.inj (nB.symm.trans nA)
  subst eI
  subst eA
  obtain ⟨gv, wm, -⟩ := State.classEntry (e := e) X.warmed hent
  refine mx_step X.here hd ?_
  rw [hexec]
  show wp (multianewarray.sem index 2) _ _ e false [] (T.setTop _)
  unfold multianewarray.sem
  rw [wp_bind', W.resolveClassAt_links (State.method?_setTop _ X.here.top) gv, wp_bind', State.setVm_setTop]
  have Y := X.noted wm
  refine (popN_top (args := [.int 8, .int 90]) (rest := rest) Y.here.top rfl).mpr ?_
  simp only [List.mapM_cons, List.mapM_nil, wp_bind', wp_pure']
  refine mx_make Y hkA hkindA hkI hkindI hcells hslots (fun S d' acts' hJ => ?_)
  obtain ⟨T1, rfl, X1, g1, g2, g3, g4⟩ := hJ
  rw [wp_bind', W.mark, W.pushRef]
  refine ⟨_, State.topJava?_setTop' _ X1.here.top, fun acts9 => ?_⟩
  rw [State.setTop_setTop, afterInstr_ok]
  exact kk cB cI2 T1.heap nA nI g1 g2 g3 g4 T1 rfl X1
/-! the same in the judgement -/
def mrW (n : Nat) : List pnE := .inl (4, 8, .inr (.inr (.inr (.inr (fun j => if j < 8 then some (n + 1 + j) else none))))) :: List.replicate 8 (.inl (1, 90, .inr (.inl (fun _ => 0))))
theorem mrW_len (n : Nat) : (mrW n).length = 9 := rfl
theorem mrW_in {n k : Nat} {c : pnE} (e : (mrW n)[k + 1]? = some c) : k < 8 ∧ c = .inl (1, 90, .inr (.inl (fun _ => 0))) := by
  have e : (List.replicate 8 (.inl (1, 90, .inr (.inl (fun _ => 0))) : pnE))[k]? = some c := e
  rw [List.getElem?_replicate] at e
  split at e
  · exact ⟨by assumption, (Option.some.inj e).symm⟩
  · cases e
theorem pnKeep.more {n0 : Nat} {σ0 σ σ' : Nat → Nat} {mv0 : Nat → Bool} {h cs : List pnE} (w : pnKeep n0 σ0 σ mv0 h) (hn : n0 ≤ h.length) (hσ : ∀ k, k < h.length → σ' k = σ k) : pnKeep n0 σ0 σ' mv0 (h ++ cs) := fun k hk => by
  have hkl : k < h.length := by omega
  rw [hσ k hkl]
  refine ⟨(w k hk).1, fun e => (w k hk).2.1 ?_, ?_⟩
  · unfold pnAt5 at e ⊢
    rwa [List.getElem?_append_left hkl] at e
  · have := (w k hk).2.2
    unfold pnAt6 at this ⊢
    rwa [List.getElem?_append_left hkl]
theorem pnCH_mr {h : List pnE} (hc : pnCH h) : pnCH (h ++ mrW h.length) := fun k c e => by
  rw [List.length_append, mrW_len]
  by_cases hk : k < h.length
  · rw [List.getElem?_append_left hk] at e
    exact (hc k c e).mono (by omega)
  · rw [List.getElem?_append_right (by omega)] at e
    generalize k - h.length = j at e
    match j, e with
    | 0, e =>
      cases e
      intro i x ex
      have ex : (if i < 8 then some (h.length + 1 + i) else none) = some x := ex
      split at ex
      · cases ex; omega
      · cases ex
    | j + 1, e =>
      rw [(mrW_in e).2]
      trivial
set_option maxRecDepth 100000 in
theorem pn_multi {M : pnM} {adK : Nat → Nat} {d : Nat} {Q : pnR → List pnE → Prop} {bc bs : Nat} {h : List pnE} {L : List (Option Value)} {st : List Value} {pc q : Nat} {index : Nat} {i1 i2 : Int32} (hcl : Cond.classLink M.1.cls index "[[J" ∈ pnG) (hov : Cond.arrayOver (.array .long) ∈ pnN) (har : Cond.arrayClass .long ∈ pnG) (hd : decode M.2.1 pc = .ok (.multianewarray index 2, 4)) (hq : pc + 4 = q) (h1 : i1 = 90) (h2 : i2 = 8)
    (kk : pnWP M adK d Q bc bs (h ++ mrW h.length) L (.ref h.length :: st) q) : pnWP M adK d Q (bc + 9) (bs + 728) h L (.int i1 :: .int i2 :: st) pc := by
  subst hq
  subst h1
  subst h2
  intro p l e R s m args below meth c D τ A b0 adV mc ms n0 σ0 σ mv0 H locs cells slots ls ok w
  have ok2 := ok
  obtain ⟨hx, hb, hr, hml, hown, hts, hlk, hnm, htab, hK, hA, hAb, hb0, hLow, hst, hfr, hlo, hRc, hRs⟩ := ok2
  obtain ⟨w1, w2, w3, w4, w5, w6, w7, w8, w9, w10, w11⟩ := w
  have r1 : cells + 9 ≤ R.cells := by rw [hRc]; omega
  have r2 : slots + 728 ≤ R.slots := by rw [hRs]; omega
  have r3 : (Cond.arrayOver (.array .long)).before #[] s = true := hLow.2.2.2.2.1 _ hov
  refine mx_W hx hb hown (hts _ hcl) r3 (hts _ har) r1 r2 hd (fun cA cI H1 g1 g2 g3 g4 g5 g6 => ?_)
  have hcA : cA = τ 4 := Option.some.inj (g1.symm.trans (show s.vm.findClass _ = some (τ 4) from (hK.2 4 (τ 4, .array .long) rfl).2))
  have hcI : cI = τ 1 := Option.some.inj (g2.symm.trans (show s.vm.findClass _ = some (τ 1) from (hK.2 1 (τ 1, .long) rfl).2))
  subst hcA
  subst hcI
  obtain ⟨σ', hσ, hσ2⟩ : ∃ σ' : Nat → Nat, (∀ k, k < h.length → σ' k = σ k) ∧ ∀ k, h.length ≤ k → σ' k = H.size + (k - h.length) := ⟨fun k => if k < h.length then σ k else H.size + (k - h.length), fun k hk => if_pos hk, fun k hk => if_neg (by omega)⟩
  have hlen : (h ++ mrW h.length).length = h.length + 9 := by rw [List.length_append, mrW_len]
  have hlt : ∀ k c, h[k]? = some c → σ k < H.size := fun k c e9 => (w1 k _ (pnW_at e9)).lt
  have hP : va_P D vwCl (pnW τ σ' (h ++ mrW h.length)) H1 := by
    intro k x hk
    obtain ⟨c9, hc, rfl⟩ := pnW_of hk
    by_cases hkl : k < h.length
    · rw [List.getElem?_append_left hkl] at hc
      rw [hσ k hkl, pnC_eq hσ (w6 k c9 hc)]
      exact (w1 k _ (pnW_at hc)).kept (g6 _ (hlt k c9 hc))
    · rw [List.getElem?_append_right (by omega)] at hc
      obtain ⟨j, rfl⟩ : ∃ j, k = h.length + j := ⟨k - h.length, by omega⟩
      rw [Nat.add_sub_cancel_left] at hc
      rw [hσ2 _ (by omega), Nat.add_sub_cancel_left]
      match j, hc with
      | 0, hc =>
        cases hc
        show H1[H.size + 0]? = some (vp_cell (τ 4) (8, .inr (.inr (.inr (.inr (fun j => (if j < 8 then some (h.length + 1 + j) else none).map σ'))))))
        rw [Nat.add_zero, g4, vp_cell_q]
        unfold mrO
        congr 2
        funext j
        by_cases hj : j < 8
        · rw [if_pos hj, if_pos hj, Option.map_some, hσ2 _ (by omega), show H.size + (h.length + 1 + j - h.length) = H.size + 1 + j by omega]
        · rw [if_neg hj, if_neg hj]; rfl
      | j + 1, hc =>
        obtain ⟨hj, rfl⟩ := mrW_in hc
        show H1[H.size + (j + 1)]? = some (vp_cell (τ 1) (90, .inr (.inl (fun _ => 0))))
        rw [show H.size + (j + 1) = H.size + 1 + j by omega, g5 j hj]
        rfl
  have hD : va_D A (pnW τ σ' (h ++ mrW h.length)) := by
    refine ⟨fun i j x y hi hj exy => ?_, fun k x hk => ?_⟩
    · obtain ⟨ci, hci, rfl⟩ := pnW_of hi
      obtain ⟨cj, hcj, rfl⟩ := pnW_of hj
      have exy : σ' i = σ' j := exy
      by_cases hil : i < h.length
      · rw [List.getElem?_append_left hil] at hci
        rw [hσ i hil] at exy
        have hi2 := hlt i ci hci
        by_cases hjl : j < h.length
        · rw [List.getElem?_append_left hjl] at hcj
          rw [hσ j hjl] at exy
          exact w2.1 i j _ _ (pnW_at hci) (pnW_at hcj) exy
        · rw [hσ2 j (by omega)] at exy
          omega
      · rw [hσ2 i (by omega)] at exy
        by_cases hjl : j < h.length
        · rw [List.getElem?_append_left hjl] at hcj
          have hj2 := hlt j cj hcj
          rw [hσ j hjl] at exy
          omega
        · rw [hσ2 j (by omega)] at exy
          omega
    · obtain ⟨ck, hck, rfl⟩ := pnW_of hk
      show A (σ' k)
      by_cases hkl : k < h.length
      · rw [List.getElem?_append_left hkl] at hck
        rw [hσ k hkl]
        exact w2.2 k _ (pnW_at hck)
      · rw [hσ2 k (by omega)]
        exact hA _ (Nat.le_trans w3.1 (Nat.le_add_right _ _))
  have hS : va_S A s.heap H1 (locs ++ (List.range 8).map (fun j => ⟨H.size, j⟩)) := by
    refine ⟨by have := w3.1; omega, fun x hx1 hx2 => (g6 x (Nat.lt_of_lt_of_le hx1 w3.1)).trans (w3.2.1 x hx1 hx2), fun x hx1 => ?_⟩
    rcases List.mem_append.mp hx1 with h9 | h9
    · exact w3.2.2 x h9
    · obtain ⟨j, -, rfl⟩ := List.mem_map.mp h9
      exact hA _ w3.1
  have k9 := kk p l e R s m args below meth c D τ A b0 adV mc ms n0 σ0 σ' mv0 H1 (locs ++ (List.range 8).map (fun j => ⟨H.size, j⟩)) (cells + 9) (slots + 728) ls ok ⟨hP, hD, hS, by omega, w5.more w4 hσ, pnCH_mr w6, by rw [hlen]; exact w7.mono (by omega), by rw [hlen]; exact (w8.tail.tail.mono (by omega)).cons (by show h.length < _; omega), w9.sub (fun _ _ e9 => e9) (fun i v e9 => pnV_eq hσ (w7 i v e9)), by omega, by omega⟩
  rw [List.map_cons, pnS_eq w8.tail.tail hσ, show pnV σ' (.ref h.length) = .ref H.size by show Value.ref (σ' h.length) = _; rw [hσ2 _ (Nat.le_refl _), Nat.sub_self]; rfl] at k9
  exact k9
