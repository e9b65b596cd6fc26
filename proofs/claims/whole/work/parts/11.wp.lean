/-! ===== what lies below: strings, statics, words that are no good words; what stays over a warming and over writes elsewhere ===== -/
def pnStr : List (String × Nat × String) := [("PartedNet", 84, "not so many bytes on the tape"), ("PartedNet$Reader", 86, "nodes"), ("PartedNet$Reader", 104, "all"), ("PartedNet$Reader", 114, "line"), ("PartedNet$Reader", 120, "less"), ("PartedNet$Reader", 122, "shape"), ("PartedNet$Reader", 144, "triangle"), ("PartedNet$Reader", 146, "path"), ("PartedNet$Reader", 152, "star"), ("PartedNet$Reader", 154, "ring"), ("PartedNet$Reader", 127, "part"), ("PartedNet$Reader", 132, "base"), ("PartedNet", 122, "no part of the shape"), ("PartedNet", 128, "a line of it is not left"), ("PartedNet", 171, "no such part"), ("PartedNet", 173, "both parts are one"), ("PartedNet", 161, "no such exchange"), ("PartedNet", 192, "the bases are not good"), ("PartedNet", 215, "nothing such is told"), ("PartedNet", 220, "no such node"), ("PartedNet", 225, "both nodes are one"), ("PartedNet", 266, "too many parts"), ("PartedNet", 280, "no such ring of nodes"), ("PartedNet", 275, "no such difference"), ("PartedNet", 286, "no such base"), ("PartedNetModel", 210, "nodes"), ("PartedNetModel", 176, "all"), ("PartedNetModel", 181, "part"), ("PartedNetModel", 186, "base"), ("PartedNetModel", 191, "shape"), ("PartedNetModel", 153, "triangle"), ("PartedNetModel", 159, "path"), ("PartedNetModel", 161, "star"), ("PartedNetModel", 163, "ring"), ("PartedNetModel", 196, "line"), ("PartedNetModel", 198, "less")]
def pnIsN : Cond → Bool
  | .methodLinkNest .. => true
  | .castable .. => true
  | .arrayOver t => (match t with | .object _ => true | .array _ => true | _ => false)
  | _ => false
def pnN : List Cond := lw_tbl.filter pnIsN
def pnLow (adK adV : Nat → Nat) (b0 : Nat) (U : State) (H : Heap) : Prop :=
  (∀ (j : Nat) (x : String × Nat × String), pnStr[j]? = some x → vk_R x.1 x.2.1 x.2.2 (adK j) U ∧ va_O "java/lang/String" (adK j) (fun q => b0 ≤ q) U H ∧ va_OF "java/lang/String" "coder" "B" (.int 0) (adK j) (fun q => b0 ≤ q) U H ∧ va_OF "java/lang/String" "value" "[B" (.ref (adK (j + 1000))) (adK j) (fun q => b0 ≤ q) U H ∧ va_T .byte (adK (j + 1000)) x.2.2.length (fun i => .int (nI ((x.2.2.toList.getD i 'a').toNat))) (fun q => b0 ≤ q) U H) ∧
  vx_Zq Bundle.tN "UNASSIGNED_STACK" Bundle.steD (fun q => b0 ≤ q) U H ∧ vx_Zq Bundle.tN "SUPPRESSED_SENTINEL" Bundle.listD (fun q => b0 ≤ q) U H ∧ va_Z "java/lang/String" "COMPACT_STRINGS" "Z" (.int 1) (fun q => b0 ≤ q) U H ∧ (∀ w ∈ pnN, va_Nw w U) ∧ va_Zq "jdk/internal/util/Preconditions" "SIOOBE_FORMATTER" "Ljava/util/function/BiFunction;" (fun q => b0 ≤ q) U H ∧ va_X (adK 2000) (adK 2001) (fun i => nI (adK (3000 + i))) U H ∧ ¬ b0 ≤ adK 2000 ∧ va_Nc "java/lang/IllegalArgumentException" "java/util/NoSuchElementException" U ∧ va_Nc "java/lang/IllegalStateException" "java/lang/IllegalArgumentException" U
theorem pnAOA_moved {ty : FieldType} {u U : State} (hvm : u.vm.Alike U.vm) (h : (Cond.arrayOver (.array ty)).before #[] u = true) : (Cond.arrayOver (.array ty)).before #[] U = true := by
  unfold Cond.before Cond.holds at h ⊢
  simp only [Cond.value, beq_iff_eq] at h ⊢
  cases hc : u.vm.findClass (FieldType.array ty).toString with
  | none => simp [hc] at h
  | some comp =>
    simp only [hc, Option.bind_some, Option.bind_eq_some_iff, Option.map_eq_some_iff] at h
    obtain ⟨c, hi, k, hk, hb⟩ := h
    obtain ⟨k', hk', he⟩ := hvm.2.2 _ _ hk
    have e1 := va_idx_bare U.vm comp
    have e2 := va_idx_bare u.vm comp
    have e3 : U.vm.bare = u.vm.bare := by first | exact hvm.bare_eq | exact hvm.bare_eq.symm
    rw [e3] at e1
    have hi' := e1.symm.trans (e2.trans hi)
    have f1 : U.vm.findClass (FieldType.array ty).toString = some comp := by rw [hvm.findClass]; exact hc
    rw [f1, Option.bind_some, Option.bind_eq_some_iff]
    refine ⟨c, hi', ?_⟩
    rw [hk', Option.map_some, he, hvm.findClass]
    exact congrArg some hb
theorem pnAO_moved {t : FieldType} {s U : State} (ht : (match t with | .object _ => true | .array _ => true | _ => false) = true) (hW : s.vm.Alike U.vm) (h : va_Nw (.arrayOver t) s) : va_Nw (.arrayOver t) U := by
  cases t <;> first | exact pnAOA_moved hW h | exact va_AO.moved hW h | cases ht
theorem pnN_same {s U : State} {w : Cond} (hw : w ∈ pnN) (hv : s.vm = U.vm) (h : va_Nw w s) : va_Nw w U := by
  have hi : pnIsN w = true := (List.mem_filter.mp hw).2
  have ha : s.vm.Alike U.vm := by rw [← hv]; exact Vm.Alike.refl s.vm
  cases w <;> first | exact va_Nw.same rfl hv h | exact pnAO_moved hi ha h | cases hi
theorem pnN_warm {s U : State} (hW : s.WarmedH U.vm) {w : Cond} (hw : w ∈ pnN) (h : va_Nw w s) : va_Nw w U := by
  have hi : pnIsN w = true := (List.mem_filter.mp hw).2
  cases w <;> first | exact va_Nw.warmM hW h | exact va_Nw.warmC hW h | exact pnAO_moved hi hW.alike h | cases hi
theorem pnLow.warm {adK adV : Nat → Nat} {b0 : Nat} {s U : State} {H H1 : Heap} (hW : s.WarmedH U.vm) (hk : ∀ q : Nat, q < H.size → ¬ b0 ≤ q → H1[q]? = H[q]?) (h : pnLow adK adV b0 s H) : pnLow adK adV b0 U H1 := by
  obtain ⟨h1, h2, h3, h4, h5, h6, h7, h8, h9, h10⟩ := h
  have ha := hW.alike
  have hb7 : adK 2000 < H.size := by obtain ⟨scr, e, -⟩ := h7; exact (Array.getElem?_eq_some_iff.mp e).1
  refine ⟨fun j x e => ?_, (h2.moved ha).kept hk, (h3.moved ha).kept hk, (h4.moved ha).kept hk, fun w hw => pnN_warm hW hw (h5 w hw), (va_Zq.moved ha h6).kept hk, (va_X.moved ha h7).kept (hk _ hb7 h8), h8, va_Nc.moved ha h9, va_Nc.moved ha h10⟩
  obtain ⟨g1, g2, g3, g4, g5⟩ := h1 j x e
  exact ⟨g1.warm hW, (g2.moved ha).kept hk, (g3.moved ha).kept hk, (g4.moved ha).kept hk, (g5.moved ha).kept hk⟩
/-! ===== the judgement ===== -/
def pnTab (hh : List (Nat × Nat × Nat × Nat)) (c : Code) : Prop := c.exceptionTable.toList = tableOf hh
def pnOk (M : pnM) (adK adV : Nat → Nat) (d mc ms : Nat) (p : Program) (l : Launch) (R : Room) (s : State) (m : MethodId) (args : Array Value) (meth : Method) (c : Code) (D : va_G) (τ : Nat → ClassId) (A : Nat → Prop) (b0 : Nat) : Prop :=
  p.tables.exec = Jvm.exec ∧ c.code = M.2.1 ∧ meth.sig.returnType = M.2.2.2.1 ∧ c.maxLocals = M.2.2.1 ∧ s.vm.findClass M.1.cls = some m.cls ∧ (∀ w ∈ pnG, w.before args s = true) ∧ meth.locks = false ∧ meth.name = M.1.name ∧ pnTab M.2.2.2.2 c ∧
  va_K D vwCl (pnT τ) s ∧ (∀ q, s.heap.size ≤ q → A q) ∧ (∀ q, A q → b0 ≤ q) ∧ b0 ≤ s.heap.size ∧ pnLow adK adV b0 s s.heap ∧ l.stackTraces = false ∧ d ≤ R.frames ∧ 64 * d ≤ R.locals ∧ R.cells = mc ∧ R.slots = ms
def pnIn (nL : Nat) (D : va_G) (τ : Nat → ClassId) (A : Nat → Prop) (H0 : Heap) (n0 : Nat) (σ0 σ : Nat → Nat) (mv0 : Nat → Bool) (mc ms bc bs : Nat) (h : List pnE) (L : List (Option Value)) (st : List Value) (H : Heap) (locs : List Loc) (cells slots : Nat) (ls : Array Slot) : Prop :=
  va_P D vwCl (pnW τ σ h) H ∧ va_D A (pnW τ σ h) ∧ va_S A H0 H locs ∧ n0 ≤ h.length ∧ pnKeep n0 σ0 σ mv0 h ∧ pnCH h ∧ pnCL h.length L ∧ pnCS h.length st ∧ pnLs σ ls nL L ∧ cells + bc ≤ mc ∧ slots + bs ≤ ms
def pnEnd (D : va_G) (τ : Nat → ClassId) (A : Nat → Prop) (n0 : Nat) (σ0 : Nat → Nat) (mv0 : Nat → Bool) (h' : List pnE) (σ' : Nat → Nat) (r : Option Value) (st t : State) : Prop :=
  pnCH h' ∧ (∀ v, r = some v → pnCV h'.length v) ∧ n0 ≤ h'.length ∧ pnKeep n0 σ0 σ' mv0 h' ∧ va_P D vwCl (pnW τ σ' h') t.heap ∧ va_D A (pnW τ σ' h') ∧ va_F A st t
def pnQc (Q : pnR → List pnE → Prop) (D : va_G) (τ : Nat → ClassId) (A : Nat → Prop) (n0 : Nat) (σ0 : Nat → Nat) (mv0 : Nat → Bool) : Array Value → State → Outcome → State → Prop := fun _ st o t =>
  ∃ (r : Option Value) (h' : List pnE) (σ' : Nat → Nat), o = .returned (r.map (pnV σ')) ∧ Q (.inl r) h' ∧ pnEnd D τ A n0 σ0 mv0 h' σ' r st t
def pnXC (Q : pnR → List pnE → Prop) (D : va_G) (τ : Nat → ClassId) (A : Nat → Prop) (n0 : Nat) (σ0 : Nat → Nat) (mv0 : Nat → Bool) : String → State → State → Prop := fun E st t =>
  ∃ (h' : List pnE) (σ' : Nat → Nat), Q (.inr E) h' ∧ pnEnd D τ A n0 σ0 mv0 h' σ' none st t
/-- from pc on, with these locals, this stack, this world, with room for bc cells of bs slots and d frames: the method ends, with Q -/
def pnWP (M : pnM) (adK : Nat → Nat) (d : Nat) (Q : pnR → List pnE → Prop) (bc bs : Nat) (h : List pnE) (L : List (Option Value)) (st : List Value) (pc : Nat) : Prop :=
  ∀ (p : Program) (l : Launch) (e : Env) (R : Room) (s : State) (m : MethodId) (args : Array Value) (below : List Frame) (meth : Method) (c : Code) (D : va_G) (τ : Nat → ClassId) (A : Nat → Prop) (b0 : Nat) (adV : Nat → Nat) (mc ms n0 : Nat) (σ0 σ : Nat → Nat) (mv0 : Nat → Bool) (H : Heap) (locs : List Loc) (cells slots : Nat) (ls : Array Slot),
    pnOk M adK adV d mc ms p l R s m args meth c D τ A b0 → pnIn M.2.2.1 D τ A s.heap n0 σ0 σ mv0 mc ms bc bs h L st H locs cells slots ls →
    W p l e R s m args below meth c H locs cells slots (vx_MQ below (pnQc Q D τ A n0 σ0 mv0) (pnXC Q D τ A n0 σ0 mv0) args s mc ms A) (F0 m pc ls (st.map (pnV σ)))
/-! ===== a method's contract ===== -/
def pnWs (M : pnM) : List Cond := (match M.2.2.2.2 with
  | [] => Cond.code M.1 M.2.1 M.2.2.1 M.2.2.2.1
  | hh => Cond.codeWith M.1 M.2.1 M.2.2.1 M.2.2.2.1 hh) :: pnG
def pnRoom (d mc ms : Nat) : Room := { frames := d, cells := mc, slots := ms, locals := 64 * d }
def pnB (adK adV : Nat → Nat) (D : va_G) (τ : Nat → ClassId) (b0 sz : Nat) (σ0 : Nat → Nat) (h0 : List pnE) : State → Prop := fun U =>
  U.heap.size = sz ∧ va_P D vwCl (pnW τ σ0 h0) U.heap ∧ va_K D vwCl (pnT τ) U ∧ va_D (fun q => b0 ≤ q) (pnW τ σ0 h0) ∧ b0 ≤ sz ∧ pnLow adK adV b0 U U.heap
def pnCt (M : pnM) (adK : Nat → Nat) (d mc ms : Nat) (av : List Value) (h0 : List pnE) (Q : pnR → List pnE → Prop) : Prop :=
  ∀ (l : Launch) (D : va_G) (τ : Nat → ClassId) (adV : Nat → Nat) (b0 sz : Nat) (σ0 : Nat → Nat), l.stackTraces = false →
    vx_Met l M.1 (pnWs M) (pnRoom d mc ms) (va_Pc (av.map (pnV σ0)) (pnB adK adV D τ b0 sz σ0 h0)) (pnQc Q D τ (va_A (pnW τ σ0 h0) sz) h0.length σ0 (pnAt5 h0)) (pnXC Q D τ (va_A (pnW τ σ0 h0) sz) h0.length σ0 (pnAt5 h0)) mc ms (va_A (pnW τ σ0 h0) sz)
theorem pnB_blind {adK adV : Nat → Nat} {D : va_G} {τ : Nat → ClassId} {b0 sz : Nat} {σ0 : Nat → Nat} {h0 : List pnE} {av : List Value} : FrameBlind (va_Pc av (pnB adK adV D τ b0 sz σ0 h0)) := by
  intro a U g mk q
  obtain ⟨q0, q1, qP, qK, qD, qb, qL⟩ := q
  refine ⟨q0, q1, qP, va_K.moved (u := U) (U := U.calling g mk a) (Vm.Alike.refl U.vm) qK, qD, qb, ?_⟩
  obtain ⟨h1, h2, h3, h4, h5, h6, h7, h8, h9, h10⟩ := qL
  have hv : (U.calling g mk a).vm = U.vm := rfl
  have ha : U.vm.Alike (U.calling g mk a).vm := Vm.Alike.refl U.vm
  refine ⟨fun j x e => ?_, h2.moved ha, h3.moved ha, h4.moved ha, fun w hw => pnN_same hw hv.symm (h5 w hw), va_Zq.moved ha h6, va_X.moved ha h7, h8, va_Nc.moved ha h9, va_Nc.moved ha h10⟩
  obtain ⟨g1, g2, g3, g4, g5⟩ := h1 j x e
  exact ⟨g1.same hv, g2.moved ha, g3.moved ha, g4.moved ha, g5.moved ha⟩
theorem pnSl_len (σ : Nat → Nat) : ∀ (av : List Value), (lg_sl (av.map (pnV σ))).length = (lg_sl av).length
  | [] => rfl
  | a :: t => by
    have ih := pnSl_len σ t
    unfold lg_sl at ih ⊢
    rw [List.map_cons, List.flatMap_cons, List.flatMap_cons, List.length_append, List.length_append, ih, pnCat]
    split <;> rfl
theorem pnArgs_cl {n : Nat} : ∀ {av : List Value}, pnCS n av → pnCL n (pnArgs av)
  | [], _ => fun i v e => by rw [show pnArgs [] = [] from rfl, pnGet_nil] at e; cases e
  | a :: t, h => fun i v e => by
    have ih := pnArgs_cl (av := t) h.tail
    unfold pnArgs at e
    cases hw : pnWide (some a) with
    | true =>
      rw [hw] at e
      match i, e with
      | 0, e => cases e; exact h.head
      | 1, e => cases e
      | i + 2, e => exact ih i v e
    | false =>
      rw [hw] at e
      match i, e with
      | 0, e => cases e; exact h.head
      | i + 1, e => exact ih i v e
theorem pnAt6_none {h : List pnE} (e : h.all (fun c => !pnIs6 c) = true) (k : Nat) : pnAt6 h k = false := by
  unfold pnAt6
  cases hg : h[k]? with
  | none => rfl
  | some c =>
    have := List.all_eq_true.mp e c (List.mem_of_getElem? hg)
    show pnIs6 c = false
    cases h9 : pnIs6 c with
    | false => rfl
    | true => rw [h9] at this; cases this
/-- a contract out of a walk -/
theorem pnCt_of {y : MethodName} {cc : ByteArray} {nL : Nat} {ret : Option FieldType} {adK : Nat → Nat} {d mc ms : Nat} {av : List Value} {h0 : List pnE} {Q : pnR → List pnE → Prop} (hy : plainName y.cls = true) (hin : Cond.code y cc nL ret ∈ pnG) (hlen : (lg_sl av).length ≤ nL) (h6 : h0.all (fun c => !pnIs6 c) = true) (hcl : pnCH h0) (hca : pnCS h0.length av)
    (k : pnWP (y, cc, nL, ret, []) adK d Q mc ms h0 (pnArgs av) [] 0) : pnCt (y, cc, nL, ret, []) adK d mc ms av h0 Q := by
  intro l D τ adV b0 sz σ0 hl
  refine vx_ofW (cc := cc) (maxL := nL) (ret := ret) hy rfl ?_
  intro p e s m args below meth c s₁ B hml hht hv
  obtain ⟨rfl, hsz, hP, hK, hD0, hb0, hLow⟩ := hv
  have hts0 := atoms_spec (ws := pnWs (y, cc, nL, ret, [])) B.pre
  have hts : ∀ w ∈ pnG, w.before _ s = true := fun w hw => hts0 w (List.mem_cons_of_mem _ hw)
  have hown : s.vm.findClass y.cls = some m.cls := findClass_of_methodNamed B.named
  subst hsz
  have hD := hD0.self (sz := s.heap.size)
  rw [lg_entry_eq]
  have hl0 := lv_entry (av.map (pnV σ0)) (n := nL) (by
    rw [pnSl_len]; exact hlen)
  refine k p l e (headSpec _ _).room s m _ below meth c D τ (va_A (pnW τ σ0 h0) s.heap.size) b0 adV mc ms h0.length σ0 σ0 (pnAt5 h0) s.heap [] 0 0 _ ?_ ?_
  · refine ⟨B.exec, B.bytes, B.returns, hml, hown, hts, B.notSynchronized, (name_of_methodNamed B.named B.method).1, ?_, hK, fun q h => Or.inr h, ?_, hb0, hLow, hl, Nat.le_refl _, Nat.le_refl _, rfl, rfl⟩
    · show c.exceptionTable.toList = []
      cases hx : c.exceptionTable.toList with
      | nil => rfl
      | cons x t => exact (hht x (by rw [hx]; exact List.mem_cons_self)).elim
    · intro q hq
      rcases hq with ⟨k9, e9, h9⟩ | h9
      · exact hD0.2 k9 _ h9
      · exact Nat.le_trans hb0 h9
  · refine ⟨hP, hD, va_S.rf, Nat.le_refl _, fun k _ => ⟨Or.inl rfl, fun e => e, pnAt6_none h6 k⟩, hcl, ?_, fun v hv => (nomatch hv), ?_, by omega, by omega⟩
    · exact pnArgs_cl hca
    · refine pnLs.of hl0 (fun i v e9 => ?_)
      have := pnArgs_in (σ := σ0) av 0 i v e9
      rw [Nat.zero_add] at this
      exact this
