/-! ===== a row of 8 rows of 90 longs, made at once ===== -/
def mrO (cA : ClassId) (a i : Nat) : Cell := arrV cA 8 (fun j => va_rf (if j < i then some (a + 1 + j) else none))
def mrI (cI : ClassId) : Cell := arrV cI 90 (fun _ => .long 0)
theorem mrO_set (cA : ClassId) (a i : Nat) : (mrO cA a i).setSlot i (.ref (a + 1 + i)) = mrO cA a (i + 1) := by
  unfold mrO
  rw [arrV_store]
  congr 1
  funext j
  unfold updV
  by_cases e : j = i
  · rw [if_pos e, if_pos (by omega), e]; rfl
  · rw [if_neg e]
    show va_rf (if j < i then some (a + 1 + j) else none) = _
    by_cases e2 : j < i
    · rw [if_pos e2, if_pos (by omega)]
    · rw [if_neg e2, if_neg (by omega)]
theorem mrO_size (cA : ClassId) (a i : Nat) : (mrO cA a i).slots.size = 8 := arrV_size _ _ _
theorem mrI_size (cI : ClassId) : (mrI cI).slots.size = 90 := arrV_size _ _ _
def mrS (cA cI : ClassId) (T : State) : Nat → State
  | 0 => T.pushCell (mrO cA T.heap.size 0)
  | i + 1 => ((mrS cA cI T i).pushCell (mrI cI)).setCell T.heap.size (mrO cA T.heap.size (i + 1))
theorem mrS_sz (cA cI : ClassId) (T : State) : ∀ i, (mrS cA cI T i).heap.size = T.heap.size + 1 + i
  | 0 => by simp [mrS]
  | i + 1 => by
    have h := mrS_sz cA cI T i
    simp only [mrS, size_setCell]
    simp [h]
    omega
theorem mrS_vm (cA cI : ClassId) (T : State) : ∀ i, (mrS cA cI T i).vm = T.vm
  | 0 => rfl
  | i + 1 => by
    have h := mrS_vm cA cI T i
    simp [mrS, h]
theorem mrS_us (cA cI : ClassId) (T : State) : ∀ i, (mrS cA cI T i).slotsUsed = T.slotsUsed + 8 + 90 * i
  | 0 => by simp [mrS, mrO_size]
  | i + 1 => by
    have h := mrS_us cA cI T i
    simp [mrS, h, mrI_size]
    omega
theorem mrS_out (cA cI : ClassId) (T : State) : ∀ i, (mrS cA cI T i).heap[T.heap.size]? = some (mrO cA T.heap.size i)
  | 0 => State.heap_pushCell_size _ _
  | i + 1 => by
    show (((mrS cA cI T i).pushCell (mrI cI)).setCell T.heap.size (mrO cA T.heap.size (i + 1))).heap[T.heap.size]? = _
    have hlt : T.heap.size < (mrS cA cI T i).heap.size := by rw [mrS_sz]; omega
    refine State.heap_setCell_self (c := mrO cA T.heap.size i) ?_
    rw [State.heap_pushCell_of_lt (h := hlt)]
    exact mrS_out cA cI T i
theorem mrS_old (cA cI : ClassId) (T : State) {q : Nat} (hq : q < T.heap.size) : ∀ i, (mrS cA cI T i).heap[q]? = T.heap[q]?
  | 0 => State.heap_pushCell_of_lt _ _ hq
  | i + 1 => by
    show (((mrS cA cI T i).pushCell (mrI cI)).setCell T.heap.size (mrO cA T.heap.size (i + 1))).heap[q]? = _
    have hlt : q < (mrS cA cI T i).heap.size := by rw [mrS_sz]; omega
    rw [State.heap_setCell_other (show T.heap.size ≠ q by omega), State.heap_pushCell_of_lt (h := hlt)]
    exact mrS_old cA cI T hq i
theorem mrS_in (cA cI : ClassId) (T : State) : ∀ i j, j < i → (mrS cA cI T i).heap[T.heap.size + 1 + j]? = some (mrI cI)
  | 0, j, hj => by omega
  | i + 1, j, hj => by
    show (((mrS cA cI T i).pushCell (mrI cI)).setCell T.heap.size (mrO cA T.heap.size (i + 1))).heap[T.heap.size + 1 + j]? = _
    rw [State.heap_setCell_other (show T.heap.size ≠ T.heap.size + 1 + j by omega)]
    by_cases e : j = i
    · have h := State.heap_pushCell_size (mrS cA cI T i) (mrI cI)
      rw [mrS_sz] at h
      rw [e]
      exact h
    · have hlt : T.heap.size + 1 + j < (mrS cA cI T i).heap.size := by rw [mrS_sz]; omega
      rw [State.heap_pushCell_of_lt (h := hlt)]
      exact mrS_in cA cI T i j (by omega)
theorem mrS_top (cA cI : ClassId) (T : State) (f : JFrame) : ∀ i, mrS cA cI (T.setTop f) i = (mrS cA cI T i).setTop f
  | 0 => rfl
  | i + 1 => by
    have h := mrS_top cA cI T f i
    show ((mrS cA cI (T.setTop f) i).pushCell (mrI cI)).setCell _ _ = _
    rw [h]
    rfl
section MR
variable {E : CtlPost} {e : Env} {d : Bool} {acts : List Action} {s : State}
theorem mr_row {cI cJ : ClassId} {kI : Class} (hk : s.vm.classes[cI]? = some kI) (hkind : kI.kind = .array cJ .long) (hl : 90 ≤ e.platform.arrayLengthLimit) (hh : 720 ≤ e.platform.maxHeapBytes) (h1 : s.heap.size < e.platform.maxCells) (h2 : s.slotsUsed + 90 ≤ e.platform.maxSlots) {Q : Addr → Pre} (hq : ∀ acts', Q s.heap.size d acts' (s.pushCell (mrI cI))) : wp (multianewarray.make cI [(90 : Int32)]) Q E e d acts s := by
  have hn : ¬ (90 : Int32) < 0 := by decide
  rw [multianewarray.make]
  simp only [wp_bind', W.ite, hn, if_false, wp_pure', W.theClass, hk, hkind, Option.some.injEq, exists_eq_left']
  refine W.newArray_of hk hkind (by show ¬ 90 > _; omega) (by show ¬ 90 * 8 > _; omega) h1 h2 rfl (fun acts' => ?_)
  have e9 : ({ cls := cI, slots := Array.replicate (90 : Int32).toNatClampNeg (defaultValue .long) } : Cell) = mrI cI := arrV_new cI 90 (.long 0)
  rw [e9]
  exact hq acts'
theorem mr_make {cA cI cJ : ClassId} {kA kI : Class} (hkA : s.vm.classes[cA]? = some kA) (hkindA : kA.kind = .array cI (.array .long)) (hkI : s.vm.classes[cI]? = some kI) (hkindI : kI.kind = .array cJ .long) (hl : 90 ≤ e.platform.arrayLengthLimit) (hh : 720 ≤ e.platform.maxHeapBytes) (h1 : s.heap.size + 9 ≤ e.platform.maxCells) (h2 : s.slotsUsed + 728 ≤ e.platform.maxSlots) {Q : Addr → Pre} (hq : ∀ d' acts', Q s.heap.size d' acts' (mrS cA cI s 8)) : wp (multianewarray.make cA [(8 : Int32), (90 : Int32)]) Q E e d acts s := by
  have hn : ¬ (8 : Int32) < 0 := by decide
  have h0 : ((8 : Int32) == 0) = false := by decide
  rw [multianewarray.make]
  simp only [wp_bind', W.ite, hn, if_false, wp_pure', W.theClass, hkA, hkindA, Option.some.injEq, exists_eq_left', h0, Bool.false_eq_true]
  refine W.newArray_of hkA hkindA (by show ¬ 8 > _; omega) (by show ¬ 8 * 4 > _; omega) (by omega) (by show _ + 8 ≤ _; omega) rfl (fun acts' => ?_)
  have e9 : s.pushCell ({ cls := cA, slots := Array.replicate (8 : Int32).toNatClampNeg .null } : Cell) = mrS cA cI s 0 := congrArg s.pushCell (arrV_new cA 8 .null)
  rw [e9, Std.Legacy.Range.forIn_eq_forIn_range', wp_bind']
  show wp (forIn (List.range' 0 8 1) PUnit.unit _) _ E e d acts' _
  refine wp_forIn_inv (fun rest s' => ∃ i r, i + r = 8 ∧ rest = List.range' i r ∧ s' = mrS cA cI s i) _ _ ⟨0, 8, rfl, rfl, rfl⟩ ?_ ?_
  · rintro x rest s' d' acts2 Q' ⟨i, r, hi, hl9, rfl⟩ next
    match r, hl9, hi with
    | 0, hl9, hi => cases hl9
    | r + 1, hl9, hi =>
      rw [List.range'_succ] at hl9
      injection hl9 with hx hr
      subst hx
      simp only [wp_bind']
      have hv := mrS_vm cA cI s x
      refine mr_row (by rw [hv]; exact hkI) hkindI hl hh (by rw [mrS_sz]; omega) (by rw [mrS_us]; omega) (fun acts3 => ?_)
      simp only [wp_bind', W.writeLoc, wp_pure']
      refine ⟨mrO cA s.heap.size x, ?_, (fun e9 => by cases e9), by rw [mrO_size]; omega, ?_, next _ _ _ ⟨x + 1, r, by omega, hr, ?_⟩⟩
      · have hlt : s.heap.size < (mrS cA cI s x).heap.size := by rw [mrS_sz]; omega
        rw [State.heap_pushCell_of_lt (h := hlt)]
        exact mrS_out cA cI s x
      · show State.fitsSlot _ cA .none x _ = true
        simp [State.fitsSlot, State.slotType?, hv, hkA, hkindA]
        rfl
      · rw [mrS_sz, mrO_set]
        rfl
  · rintro s' d' acts2 ⟨i, r, hi, hl9, rfl⟩
    match r, hl9, hi with
    | 0, hl9, hi =>
      have : i = 8 := by omega
      subst this
      exact hq _ _
    | r + 1, hl9, hi => rw [List.range'_succ] at hl9; cases hl9
end MR
theorem mr_stand {p : Program} {l : Launch} {e : Env} {R : Room} {s : State} {m : MethodId} {args : Array Value} {below : List Frame} {meth : Method} {c : Code} {T : State} {locs : List Loc} {cells slots : Nat} (X : Stand p l e R s m args below meth c T locs cells slots) (cA cI : ClassId) :
    ∀ i, Stand p l e R s m args below meth c (mrS cA cI T i) (locs ++ (List.range i).map (fun j => ⟨T.heap.size, j⟩)) (cells + 1 + i) (slots + 8 + 90 * i)
  | 0 => by
    have h := X.pushed (mrO cA T.heap.size 0)
    rw [mrO_size] at h
    rw [List.range_zero, List.map_nil, List.append_nil]
    exact h
  | i + 1 => by
    have hX := mr_stand X cA cI i
    have hc : ((mrS cA cI T i).pushCell (mrI cI)).heap[T.heap.size]? = some (mrO cA T.heap.size i) := by
      have hlt : T.heap.size < (mrS cA cI T i).heap.size := by rw [mrS_sz]; omega
      rw [State.heap_pushCell_of_lt (h := hlt)]
      exact mrS_out cA cI T i
    have h := (hX.pushed (mrI cI)).stored hc i (.ref (T.heap.size + 1 + i))
    rw [mrO_set, mrI_size] at h
    rw [List.range_succ, List.map_append, ← List.append_assoc, show 90 * (i + 1) = 90 * i + 90 by omega]
    exact h
theorem mr_W {p : Program} {l : Launch} {e : Env} {R : Room} {s : State} {m : MethodId} {args : Array Value} {below : List Frame} {meth : Method} {c : Code} {H : Heap} {locs : List Loc} {cells slots : Nat} {Q : State → Prop} {cc : ByteArray} {pc : Nat} {ls : Array Slot} {rest : List Value}
    (hexec : p.tables.exec = Jvm.exec) (hb : c.code = cc) {own : String} {index : Nat} (hown : s.vm.findClass own = some m.cls) (hcl : (Cond.classLink own index "[[J").before args s = true) (hov : (Cond.arrayOver (.array .long)).before #[] s = true) (har : (Cond.arrayClass .long).before args s = true) (hcells : cells + 9 ≤ R.cells) (hslots : slots + 728 ≤ R.slots) (hd : decode cc pc = .ok (.multianewarray index 2, 4))
    (kk : ∀ (cA cI : ClassId) (H1 : Heap), s.vm.findClass ("[" ++ (FieldType.array .long).toString) = some cA → s.vm.findClass ("[" ++ FieldType.long.toString) = some cI → H1.size = H.size + 9 → H1[H.size]? = some (mrO cA H.size 8) → (∀ j, j < 8 → H1[H.size + 1 + j]? = some (mrI cI)) → (∀ q : Nat, q < H.size → H1[q]? = H[q]?) → W p l e R s m args below meth c H1 (locs ++ (List.range 8).map (fun j => ⟨H.size, j⟩)) (cells + 9) (slots + 728) Q (F0 m (pc + 4) ls (.ref H.size :: rest))) :
    W p l e R s m args below meth c H locs cells slots Q (F0 m pc ls (.int 90 :: .int 8 :: rest)) := by
  intro T hT X
  subst hT; subst hb
  have hpl : e.platform.magicAccessors = ({} : Platform).magicAccessors := by rw [X.admits.platform]
  obtain ⟨cI, cA, kA, hcI, -, hkA, hkindA, hcA⟩ := arrayOverA_spec hov
  obtain ⟨cI', kI, cJ, hcI', hkI, hkindI⟩ := Cond.arrayClass_spec har
  have e1 : cI' = cI := Option.some.inj (hcI'.symm.trans hcI)
  subst e1
  obtain ⟨cB, hcB, hlnk⟩ := Cond.classLink_spec hown hcl e.platform hpl
  have e2 : cB = cA := Option.some.inj (hcB.symm.trans (show s.vm.findClass "[[J" = some cA from hcA))
  subst e2
  obtain ⟨hgv, hwm, hrd⟩ := State.classEntry (e := e) X.warmed hlnk
  generalize T.vm.noted m.cls index (.cls cB) = vm1 at hgv hwm hrd
  have hal : s.vm.Alike vm1 := hwm.alike
  obtain ⟨kA1, hkA1, heA⟩ := hal.2.2 _ _ hkA
  obtain ⟨kI1, hkI1, heI⟩ := hal.2.2 _ _ hkI
  have hkindA1 : kA1.kind = .array cI' (.array .long) := by rw [heA]; exact hkindA
  have hkindI1 : kI1.kind = .array cJ .long := by rw [heI]; exact hkindI
  obtain ⟨r1, r2⟩ := X.roomAbove hcells hslots
  have XF := mr_stand (X.noted hwm) cB cI' 8
  obtain ⟨t, a1, b1⟩ := kk cB cI' (mrS cB cI' (T.setVm vm1) 8).heap hcA hcI (mrS_sz cB cI' (T.setVm vm1) 8) (mrS_out cB cI' (T.setVm vm1) 8) (fun j hj => mrS_in cB cI' (T.setVm vm1) 8 j hj) (fun q hq => mrS_old cB cI' (T.setVm vm1) hq 8) _ rfl XF
  refine ⟨t, ?_, b1⟩
  jvm_step X.here [hexec, hd]
  simp only [multianewarray.sem, wp_bind', W.resolveClassAt_links (State.method?_setTop (F0 m pc ls (.int 90 :: .int 8 :: rest)) X.here.top) hgv]
  rw [W.popN, if_neg (by decide)]
  refine ⟨F0 m pc ls (.int 90 :: .int 8 :: rest), State.topJava?_setTop' (s := T.setVm vm1) _ X.here.top, [.int 8, .int 90], rest, rfl, rfl, ?_⟩
  simp only [List.mapM_cons, List.mapM_nil, wp_bind', wp_pure']
  refine mr_make (kA := kA1) (kI := kI1) (cI := cI') (cJ := cJ) hkA1 hkindA1 hkI1 hkindI1 (by rw [Launch.admits_arrayLengthLimit X.admits]; omega) (by rw [Launch.admits_maxHeapBytes X.admits]; omega) (by show T.heap.size + 9 ≤ _; exact r1) (by show T.slotsUsed + 728 ≤ _; exact r2) (fun d' acts' => ?_)
  have eS : ((T.setTop (F0 m pc ls (.int 90 :: .int 8 :: rest))).setVm vm1).setTop (F0 m pc ls rest) = (T.setVm vm1).setTop (F0 m pc ls rest) := by
    show ((T.setVm vm1).setTop _).setTop _ = _
    rw [State.setTop_setTop]
  rw [eS, mrS_top]
  simp only [wp_bind', W.mark, W.pushRef, State.topJava?_setTop' _ XF.here.top, Option.some.injEq, exists_eq_left', State.setTop_setTop, State.heap_setTop]
  intro acts
  simp [jvm, XF.here.top]
  exact a1
/-! the same in the judgement -/
def mrW (n : Nat) : List pnE := .inl (4, 8, .inr (.inr (.inr (.inr (fun j => if j < 8 then some (n + 1 + j) else none))))) :: List.replicate 8 (.inl (1, 90, .inr (.inl (fun _ => 0))))
theorem mrW_len (n : Nat) : (mrW n).length = 9 := rfl
theorem mrW_in {n k : Nat} {c : pnE} (e : (mrW n)[k + 1]? = some c) : k < 8 ∧ c = .inl (1, 90, .inr (.inl (fun _ => 0))) := by
  have e : (List.replicate 8 (.inl (1, 90, .inr (.inl (fun _ => 0))) : pnE))[k]? = some c := e
  rw [List.getElem?_replicate] at e
  split at e
  · exact ⟨by assumption, (Option.some.inj e).symm⟩
  · cases e
theorem pnKeep.more {n0 : Nat} {σ0 σ σ' : Nat → Nat} {mv0 : Nat → Bool} {h cs : List pnE} (w : pnKeep n0 σ0 σ mv0 h) (hn : n0 ≤ h.length) (hσ : ∀ k, k < h.length → σ' k = σ k) : pnKeep n0 σ0 σ' mv0 (h ++ cs) := fun k hk => by
  have hkl : k < h.length := by omega
  rw [hσ k hkl]
  refine ⟨(w k hk).1, fun e => (w k hk).2.1 ?_, ?_⟩
  · unfold pnAt5 at e ⊢
    rwa [List.getElem?_append_left hkl] at e
  · have := (w k hk).2.2
    unfold pnAt6 at this ⊢
    rwa [List.getElem?_append_left hkl]
theorem pnCH_mr {h : List pnE} (hc : pnCH h) : pnCH (h ++ mrW h.length) := fun k c e => by
  rw [List.length_append, mrW_len]
  by_cases hk : k < h.length
  · rw [List.getElem?_append_left hk] at e
    exact (hc k c e).mono (by omega)
  · rw [List.getElem?_append_right (by omega)] at e
    generalize k - h.length = j at e
    match j, e with
    | 0, e =>
      cases e
      intro i x ex
      have ex : (if i < 8 then some (h.length + 1 + i) else none) = some x := ex
      split at ex
      · cases ex; omega
      · cases ex
    | j + 1, e =>
      rw [(mrW_in e).2]
      trivial
set_option maxRecDepth 100000 in
theorem pn_multi {M : pnM} {adK : Nat → Nat} {d : Nat} {Q : pnR → List pnE → Prop} {bc bs : Nat} {h : List pnE} {L : List (Option Value)} {st : List Value} {pc q : Nat} {index : Nat} {i1 i2 : Int32} (hcl : Cond.classLink M.1.cls index "[[J" ∈ pnG) (hov : Cond.arrayOver (.array .long) ∈ pnN) (har : Cond.arrayClass .long ∈ pnG) (hd : decode M.2.1 pc = .ok (.multianewarray index 2, 4)) (hq : pc + 4 = q) (h1 : i1 = 90) (h2 : i2 = 8)
    (kk : pnWP M adK d Q bc bs (h ++ mrW h.length) L (.ref h.length :: st) q) : pnWP M adK d Q (bc + 9) (bs + 728) h L (.int i1 :: .int i2 :: st) pc := by
  subst hq
  subst h1
  subst h2
  intro p l e R s m args below meth c D τ A b0 adV mc ms n0 σ0 σ mv0 H locs cells slots ls ok w
  have ok2 := ok
  obtain ⟨hx, hb, hr, hml, hown, hts, hlk, hnm, htab, hK, hA, hAb, hb0, hLow, hst, hfr, hlo, hRc, hRs⟩ := ok2
  obtain ⟨w1, w2, w3, w4, w5, w6, w7, w8, w9, w10, w11⟩ := w
  have r1 : cells + 9 ≤ R.cells := by rw [hRc]; omega
  have r2 : slots + 728 ≤ R.slots := by rw [hRs]; omega
  have r3 : (Cond.arrayOver (.array .long)).before #[] s = true := hLow.2.2.2.2.1 _ hov
  refine mr_W hx hb hown (hts _ hcl) r3 (hts _ har) r1 r2 hd (fun cA cI H1 g1 g2 g3 g4 g5 g6 => ?_)
  have hcA : cA = τ 4 := Option.some.inj (g1.symm.trans (show s.vm.findClass _ = some (τ 4) from (hK.2 4 (τ 4, .array .long) rfl).2))
  have hcI : cI = τ 1 := Option.some.inj (g2.symm.trans (show s.vm.findClass _ = some (τ 1) from (hK.2 1 (τ 1, .long) rfl).2))
  subst hcA
  subst hcI
  obtain ⟨σ', hσ, hσ2⟩ : ∃ σ' : Nat → Nat, (∀ k, k < h.length → σ' k = σ k) ∧ ∀ k, h.length ≤ k → σ' k = H.size + (k - h.length) := ⟨fun k => if k < h.length then σ k else H.size + (k - h.length), fun k hk => if_pos hk, fun k hk => if_neg (by omega)⟩
  have hlen : (h ++ mrW h.length).length = h.length + 9 := by rw [List.length_append, mrW_len]
  have hlt : ∀ k c, h[k]? = some c → σ k < H.size := fun k c e9 => (w1 k _ (pnW_at e9)).lt
  have hP : va_P D vwCl (pnW τ σ' (h ++ mrW h.length)) H1 := by
    intro k x hk
    obtain ⟨c9, hc, rfl⟩ := pnW_of hk
    by_cases hkl : k < h.length
    · rw [List.getElem?_append_left hkl] at hc
      rw [hσ k hkl, pnC_eq hσ (w6 k c9 hc)]
      exact (w1 k _ (pnW_at hc)).kept (g6 _ (hlt k c9 hc))
    · rw [List.getElem?_append_right (by omega)] at hc
      obtain ⟨j, rfl⟩ : ∃ j, k = h.length + j := ⟨k - h.length, by omega⟩
      rw [Nat.add_sub_cancel_left] at hc
      rw [hσ2 _ (by omega), Nat.add_sub_cancel_left]
      match j, hc with
      | 0, hc =>
        cases hc
        show H1[H.size + 0]? = some (vp_cell (τ 4) (8, .inr (.inr (.inr (.inr (fun j => (if j < 8 then some (h.length + 1 + j) else none).map σ'))))))
        rw [Nat.add_zero, g4, vp_cell_q]
        unfold mrO
        congr 2
        funext j
        by_cases hj : j < 8
        · rw [if_pos hj, if_pos hj, Option.map_some, hσ2 _ (by omega), show H.size + (h.length + 1 + j - h.length) = H.size + 1 + j by omega]
        · rw [if_neg hj, if_neg hj]; rfl
      | j + 1, hc =>
        obtain ⟨hj, rfl⟩ := mrW_in hc
        show H1[H.size + (j + 1)]? = some (vp_cell (τ 1) (90, .inr (.inl (fun _ => 0))))
        rw [show H.size + (j + 1) = H.size + 1 + j by omega, g5 j hj]
        rfl
  have hD : va_D A (pnW τ σ' (h ++ mrW h.length)) := by
    refine ⟨fun i j x y hi hj exy => ?_, fun k x hk => ?_⟩
    · obtain ⟨ci, hci, rfl⟩ := pnW_of hi
      obtain ⟨cj, hcj, rfl⟩ := pnW_of hj
      have exy : σ' i = σ' j := exy
      by_cases hil : i < h.length
      · rw [List.getElem?_append_left hil] at hci
        rw [hσ i hil] at exy
        have hi2 := hlt i ci hci
        by_cases hjl : j < h.length
        · rw [List.getElem?_append_left hjl] at hcj
          rw [hσ j hjl] at exy
          exact w2.1 i j _ _ (pnW_at hci) (pnW_at hcj) exy
        · rw [hσ2 j (by omega)] at exy
          omega
      · rw [hσ2 i (by omega)] at exy
        by_cases hjl : j < h.length
        · rw [List.getElem?_append_left hjl] at hcj
          have hj2 := hlt j cj hcj
          rw [hσ j hjl] at exy
          omega
        · rw [hσ2 j (by omega)] at exy
          omega
    · obtain ⟨ck, hck, rfl⟩ := pnW_of hk
      show A (σ' k)
      by_cases hkl : k < h.length
      · rw [List.getElem?_append_left hkl] at hck
        rw [hσ k hkl]
        exact w2.2 k _ (pnW_at hck)
      · rw [hσ2 k (by omega)]
        exact hA _ (Nat.le_trans w3.1 (Nat.le_add_right _ _))
  have hS : va_S A s.heap H1 (locs ++ (List.range 8).map (fun j => ⟨H.size, j⟩)) := by
    refine ⟨by have := w3.1; omega, fun x hx1 hx2 => (g6 x (Nat.lt_of_lt_of_le hx1 w3.1)).trans (w3.2.1 x hx1 hx2), fun x hx1 => ?_⟩
    rcases List.mem_append.mp hx1 with h9 | h9
    · exact w3.2.2 x h9
    · obtain ⟨j, -, rfl⟩ := List.mem_map.mp h9
      exact hA _ w3.1
  have k9 := kk p l e R s m args below meth c D τ A b0 adV mc ms n0 σ0 σ' mv0 H1 (locs ++ (List.range 8).map (fun j => ⟨H.size, j⟩)) (cells + 9) (slots + 728) ls ok ⟨hP, hD, hS, by omega, w5.more w4 hσ, pnCH_mr w6, by rw [hlen]; exact w7.mono (by omega), by rw [hlen]; exact (w8.tail.tail.mono (by omega)).cons (by show h.length < _; omega), w9.sub (fun _ _ e9 => e9) (fun i v e9 => pnV_eq hσ (w7 i v e9)), by omega, by omega⟩
  rw [List.map_cons, pnS_eq w8.tail.tail hσ, show pnV σ' (.ref h.length) = .ref H.size by show Value.ref (σ' h.length) = _; rw [hσ2 _ (Nat.le_refl _), Nat.sub_self]; rfl] at k9
  exact k9
