/-! ===== the rules: a row an instruction ===== -/
theorem pn_pure {M : pnM} {adK : Nat → Nat} {d : Nat} {Q : pnR → List pnE → Prop} {bc bs : Nat} {h : List pnE} {L : List (Option Value)} {st : List Value} {pc q : Nat} {st' : List Value} (k : pnWP M adK d Q bc bs h L st' q) (hcl : ∀ n, pnCS n st → pnCS n st')
    (hstep : ∀ (p : Program) (l : Launch) (e : Env) (R : Room) (s : State) (m : MethodId) (args : Array Value) (below : List Frame) (meth : Method) (c : Code) (H : Heap) (locs : List Loc) (cells slots : Nat) (Q9 : State → Prop) (ls : Array Slot) (σ : Nat → Nat), p.tables.exec = Jvm.exec → c.code = M.2.1 → s.vm.findClass M.1.cls = some m.cls → (∀ w ∈ pnG, w.before args s = true) → W p l e R s m args below meth c H locs cells slots Q9 (F0 m q ls (st'.map (pnV σ))) → W p l e R s m args below meth c H locs cells slots Q9 (F0 m pc ls (st.map (pnV σ))))
    : pnWP M adK d Q bc bs h L st pc := by
  intro p l e R s m args below meth c D τ A b0 adV mc ms n0 σ0 σ mv0 H locs cells slots ls ok w
  have ok2 := ok
  obtain ⟨hx, hb, -, -, hown, hts, -⟩ := ok2
  obtain ⟨w1, w2, w3, w4, w5, w6, w7, w8, w9⟩ := w
  exact hstep _ _ _ _ _ _ _ _ _ _ _ _ _ _ _ _ _ hx hb hown hts (k p l e R s m args below meth c D τ A b0 adV mc ms n0 σ0 σ mv0 H locs cells slots ls ok ⟨w1, w2, w3, w4, w5, w6, w7, hcl _ w8, w9⟩)
theorem pn_pure2 {M : pnM} {adK : Nat → Nat} {d : Nat} {Q : pnR → List pnE → Prop} {bc bs : Nat} {h : List pnE} {L : List (Option Value)} {st : List Value} {pc q : Nat} {st1 st2 : List Value} {q1 q2 : Nat} {c1 c2 : Prop} (k1 : c1 → pnWP M adK d Q bc bs h L st1 q1) (k2 : c2 → pnWP M adK d Q bc bs h L st2 q2) (hcl1 : ∀ n, pnCS n st → pnCS n st1) (hcl2 : ∀ n, pnCS n st → pnCS n st2)
    (hstep : ∀ (p : Program) (l : Launch) (e : Env) (R : Room) (s : State) (m : MethodId) (args : Array Value) (below : List Frame) (meth : Method) (c : Code) (H : Heap) (locs : List Loc) (cells slots : Nat) (Q9 : State → Prop) (ls : Array Slot) (σ : Nat → Nat), p.tables.exec = Jvm.exec → c.code = M.2.1 → s.vm.findClass M.1.cls = some m.cls → (∀ w ∈ pnG, w.before args s = true) → (c1 → W p l e R s m args below meth c H locs cells slots Q9 (F0 m q1 ls (st1.map (pnV σ)))) → (c2 → W p l e R s m args below meth c H locs cells slots Q9 (F0 m q2 ls (st2.map (pnV σ)))) → W p l e R s m args below meth c H locs cells slots Q9 (F0 m pc ls (st.map (pnV σ))))
    : pnWP M adK d Q bc bs h L st pc := by
  intro p l e R s m args below meth c D τ A b0 adV mc ms n0 σ0 σ mv0 H locs cells slots ls ok w
  have ok2 := ok
  obtain ⟨hx, hb, -, -, hown, hts, -⟩ := ok2
  obtain ⟨w1, w2, w3, w4, w5, w6, w7, w8, w9⟩ := w
  exact hstep _ _ _ _ _ _ _ _ _ _ _ _ _ _ _ _ _ hx hb hown hts (fun hc => k1 hc p l e R s m args below meth c D τ A b0 adV mc ms n0 σ0 σ mv0 H locs cells slots ls ok ⟨w1, w2, w3, w4, w5, w6, w7, hcl1 _ w8, w9⟩) (fun hc => k2 hc p l e R s m args below meth c D τ A b0 adV mc ms n0 σ0 σ mv0 H locs cells slots ls ok ⟨w1, w2, w3, w4, w5, w6, w7, hcl2 _ w8, w9⟩)
theorem pn_load {M : pnM} {adK : Nat → Nat} {d : Nat} {Q : pnR → List pnE → Prop} {bc bs : Nat} {h : List pnE} {L : List (Option Value)} {st : List Value} {pc q : Nat} {v : Value} {i : Nat} (hl : pnGet L i = some v)
    (hstep : ∀ (p : Program) (l : Launch) (e : Env) (R : Room) (s : State) (m : MethodId) (args : Array Value) (below : List Frame) (meth : Method) (c : Code) (H : Heap) (locs : List Loc) (cells slots : Nat) (Q9 : State → Prop) (ls : Array Slot) (σ : Nat → Nat), p.tables.exec = Jvm.exec → c.code = M.2.1 → ls[i]? = some (.val (pnV σ v)) → W p l e R s m args below meth c H locs cells slots Q9 (F0 m q ls (pnV σ v :: st.map (pnV σ))) → W p l e R s m args below meth c H locs cells slots Q9 (F0 m pc ls (st.map (pnV σ))))
    (k : pnWP M adK d Q bc bs h L (v :: st) q) : pnWP M adK d Q bc bs h L st pc := by
  intro p l e R s m args below meth c D τ A b0 adV mc ms n0 σ0 σ mv0 H locs cells slots ls ok w
  have ok2 := ok
  obtain ⟨hx, hb, -⟩ := ok2
  obtain ⟨w1, w2, w3, w4, w5, w6, w7, w8, w9, w10⟩ := w
  exact hstep _ _ _ _ _ _ _ _ _ _ _ _ _ _ _ _ _ hx hb (w9.at hl) (k p l e R s m args below meth c D τ A b0 adV mc ms n0 σ0 σ mv0 H locs cells slots ls ok ⟨w1, w2, w3, w4, w5, w6, w7, w8.cons (w7 i v hl), w9, w10⟩)
theorem pn_store {M : pnM} {adK : Nat → Nat} {d : Nat} {Q : pnR → List pnE → Prop} {bc bs : Nat} {h : List pnE} {L : List (Option Value)} {st : List Value} {pc q : Nat} {v : Value} {i : Nat} (hi : i < M.2.2.1 ∧ (v.category = 2 → i + 1 < M.2.2.1))
    (hstep : ∀ (p : Program) (l : Launch) (e : Env) (R : Room) (s : State) (m : MethodId) (args : Array Value) (below : List Frame) (meth : Method) (c : Code) (H : Heap) (locs : List Loc) (cells slots : Nat) (Q9 : State → Prop) (ls : Array Slot) (σ : Nat → Nat), p.tables.exec = Jvm.exec → c.code = M.2.1 → pnLs σ ls M.2.2.1 L → (∀ ls', pnLs σ ls' M.2.2.1 (pnSet L i v) → W p l e R s m args below meth c H locs cells slots Q9 (F0 m q ls' (st.map (pnV σ)))) → W p l e R s m args below meth c H locs cells slots Q9 (F0 m pc ls (pnV σ v :: st.map (pnV σ))))
    (k : pnWP M adK d Q bc bs h (pnSet L i v) st q) : pnWP M adK d Q bc bs h L (v :: st) pc := by
  intro p l e R s m args below meth c D τ A b0 adV mc ms n0 σ0 σ mv0 H locs cells slots ls ok w
  have ok2 := ok
  obtain ⟨hx, hb, -⟩ := ok2
  obtain ⟨w1, w2, w3, w4, w5, w6, w7, w8, w9, w10⟩ := w
  exact hstep _ _ _ _ _ _ _ _ _ _ _ _ _ _ _ _ _ hx hb w9 (fun ls' h9 => k p l e R s m args below meth c D τ A b0 adV mc ms n0 σ0 σ mv0 H locs cells slots ls' ok ⟨w1, w2, w3, w4, w5, w6, w7.set i w8.head, w8.tail, h9, w10⟩)
theorem pn_iconst {M : pnM} {adK : Nat → Nat} {d : Nat} {Q : pnR → List pnE → Prop} {bc bs : Nat} {h : List pnE} {L : List (Option Value)} {st : List Value} {pc q : Nat} {n : Int} {v : Int32} (hd : decode M.2.1 pc = .ok (.iconst n, 1)) (hq : pc + 1 = q) (hv : Int32.ofInt n = v) (k : pnWP M adK d Q bc bs h L (.int v :: st) q) : pnWP M adK d Q bc bs h L st pc := by
  subst hq
  exact pn_pure k (fun n hc => hc.cons trivial) (fun _ _ _ _ _ _ _ _ _ _ _ _ _ _ _ _ _ hx hb _ _ k9 => lv_iconst hx hb hd hv k9)
theorem pn_bipush {M : pnM} {adK : Nat → Nat} {d : Nat} {Q : pnR → List pnE → Prop} {bc bs : Nat} {h : List pnE} {L : List (Option Value)} {st : List Value} {pc q : Nat} {n : Int} {v : Int32} (hd : decode M.2.1 pc = .ok (.bipush n, 2)) (hq : pc + 2 = q) (hv : (Int8.ofInt n).toInt32 = v) (k : pnWP M adK d Q bc bs h L (.int v :: st) q) : pnWP M adK d Q bc bs h L st pc := by
  subst hq
  exact pn_pure k (fun n hc => hc.cons trivial) (fun _ _ _ _ _ _ _ _ _ _ _ _ _ _ _ _ _ hx hb _ _ k9 => lv_bipush hx hb hd hv k9)
theorem pn_sipush {M : pnM} {adK : Nat → Nat} {d : Nat} {Q : pnR → List pnE → Prop} {bc bs : Nat} {h : List pnE} {L : List (Option Value)} {st : List Value} {pc q : Nat} {n : Int} {v : Int32} (hd : decode M.2.1 pc = .ok (.sipush n, 3)) (hq : pc + 3 = q) (hv : (Int16.ofInt n).toInt32 = v) (k : pnWP M adK d Q bc bs h L (.int v :: st) q) : pnWP M adK d Q bc bs h L st pc := by
  subst hq
  exact pn_pure k (fun n hc => hc.cons trivial) (fun _ _ _ _ _ _ _ _ _ _ _ _ _ _ _ _ _ hx hb _ _ k9 => lv_sipush hx hb hd hv k9)
theorem pn_lconst {M : pnM} {adK : Nat → Nat} {d : Nat} {Q : pnR → List pnE → Prop} {bc bs : Nat} {h : List pnE} {L : List (Option Value)} {st : List Value} {pc q : Nat} {n : Fin 2} {v : Int64} (hd : decode M.2.1 pc = .ok (.lconst n, 1)) (hq : pc + 1 = q) (hv : Int64.ofNat (n : Nat) = v) (k : pnWP M adK d Q bc bs h L (.long v :: st) q) : pnWP M adK d Q bc bs h L st pc := by
  subst hq
  exact pn_pure k (fun n hc => hc.cons trivial) (fun _ _ _ _ _ _ _ _ _ _ _ _ _ _ _ _ _ hx hb _ _ k9 => lv_lconst hx hb hd hv k9)
theorem pn_null {M : pnM} {adK : Nat → Nat} {d : Nat} {Q : pnR → List pnE → Prop} {bc bs : Nat} {h : List pnE} {L : List (Option Value)} {st : List Value} {pc q : Nat} (hd : decode M.2.1 pc = .ok (.aconst_null, 1)) (hq : pc + 1 = q) (k : pnWP M adK d Q bc bs h L (.null :: st) q) : pnWP M adK d Q bc bs h L st pc := by
  subst hq
  exact pn_pure k (fun n hc => hc.cons trivial) (fun _ _ _ _ _ _ _ _ _ _ _ _ _ _ _ _ _ hx hb _ _ k9 => lv_null hx hb hd k9)
theorem pn_ldc {M : pnM} {adK : Nat → Nat} {d : Nat} {Q : pnR → List pnE → Prop} {bc bs : Nat} {h : List pnE} {L : List (Option Value)} {st : List Value} {pc q : Nat} {index : Nat} {v : Int32} (hw : Cond.constant M.1.cls index v ∈ pnG) (hd : decode M.2.1 pc = .ok (.ldc index, 2)) (hq : pc + 2 = q) (k : pnWP M adK d Q bc bs h L (.int v :: st) q) : pnWP M adK d Q bc bs h L st pc := by
  subst hq
  exact pn_pure k (fun n hc => hc.cons trivial) (fun _ _ _ _ _ _ _ _ _ _ _ _ _ _ _ _ _ hx hb ho ht k9 => lv_ldc hx hb ho (ht _ hw) hd k9)
theorem pn_ldcw {M : pnM} {adK : Nat → Nat} {d : Nat} {Q : pnR → List pnE → Prop} {bc bs : Nat} {h : List pnE} {L : List (Option Value)} {st : List Value} {pc q : Nat} {index : Nat} {v : Int32} (hw : Cond.constant M.1.cls index v ∈ pnG) (hd : decode M.2.1 pc = .ok (.ldc_w index, 3)) (hq : pc + 3 = q) (k : pnWP M adK d Q bc bs h L (.int v :: st) q) : pnWP M adK d Q bc bs h L st pc := by
  subst hq
  exact pn_pure k (fun n hc => hc.cons trivial) (fun _ _ _ _ _ _ _ _ _ _ _ _ _ _ _ _ _ hx hb ho ht k9 => lv_ldcw hx hb ho (ht _ hw) hd k9)
theorem pn_ldc2 {M : pnM} {adK : Nat → Nat} {d : Nat} {Q : pnR → List pnE → Prop} {bc bs : Nat} {h : List pnE} {L : List (Option Value)} {st : List Value} {pc q : Nat} {index : Nat} {v : Int64} (hw : Cond.constantLong M.1.cls index v ∈ pnG) (hd : decode M.2.1 pc = .ok (.ldc2_w index, 3)) (hq : pc + 3 = q) (k : pnWP M adK d Q bc bs h L (.long v :: st) q) : pnWP M adK d Q bc bs h L st pc := by
  subst hq
  exact pn_pure k (fun n hc => hc.cons trivial) (fun _ _ _ _ _ _ _ _ _ _ _ _ _ _ _ _ _ hx hb ho ht k9 => lv_ldc2 hx hb ho (ht _ hw) hd k9)
theorem pn_iload_n {M : pnM} {adK : Nat → Nat} {d : Nat} {Q : pnR → List pnE → Prop} {bc bs : Nat} {h : List pnE} {L : List (Option Value)} {st : List Value} {pc q : Nat} {i : Fin 4} {x : Int32} (hd : decode M.2.1 pc = .ok (.iload_n i, 1)) (hq : pc + 1 = q) (hl : pnGet L i = some (.int x)) (k : pnWP M adK d Q bc bs h L (.int x :: st) q) : pnWP M adK d Q bc bs h L st pc := by
  subst hq
  exact pn_load hl (fun _ _ _ _ _ _ _ _ _ _ _ _ _ _ _ _ _ hx hb h9 k9 => lv_iload_n hx hb hd rfl h9 k9) k
theorem pn_iload {M : pnM} {adK : Nat → Nat} {d : Nat} {Q : pnR → List pnE → Prop} {bc bs : Nat} {h : List pnE} {L : List (Option Value)} {st : List Value} {pc q : Nat} {i : Nat} {x : Int32} (hd : decode M.2.1 pc = .ok (.iload i, 2)) (hq : pc + 2 = q) (hl : pnGet L i = some (.int x)) (k : pnWP M adK d Q bc bs h L (.int x :: st) q) : pnWP M adK d Q bc bs h L st pc := by
  subst hq
  exact pn_load hl (fun _ _ _ _ _ _ _ _ _ _ _ _ _ _ _ _ _ hx hb h9 k9 => lv_iload hx hb hd h9 k9) k
theorem pn_lload_n {M : pnM} {adK : Nat → Nat} {d : Nat} {Q : pnR → List pnE → Prop} {bc bs : Nat} {h : List pnE} {L : List (Option Value)} {st : List Value} {pc q : Nat} {i : Fin 4} {x : Int64} (hd : decode M.2.1 pc = .ok (.lload_n i, 1)) (hq : pc + 1 = q) (hl : pnGet L i = some (.long x)) (k : pnWP M adK d Q bc bs h L (.long x :: st) q) : pnWP M adK d Q bc bs h L st pc := by
  subst hq
  exact pn_load hl (fun _ _ _ _ _ _ _ _ _ _ _ _ _ _ _ _ _ hx hb h9 k9 => lv_lload_n hx hb hd rfl h9 k9) k
theorem pn_lload {M : pnM} {adK : Nat → Nat} {d : Nat} {Q : pnR → List pnE → Prop} {bc bs : Nat} {h : List pnE} {L : List (Option Value)} {st : List Value} {pc q : Nat} {i : Nat} {x : Int64} (hd : decode M.2.1 pc = .ok (.lload i, 2)) (hq : pc + 2 = q) (hl : pnGet L i = some (.long x)) (k : pnWP M adK d Q bc bs h L (.long x :: st) q) : pnWP M adK d Q bc bs h L st pc := by
  subst hq
  exact pn_load hl (fun _ _ _ _ _ _ _ _ _ _ _ _ _ _ _ _ _ hx hb h9 k9 => lv_lload hx hb hd h9 k9) k
def pnIsR : Value → Bool
  | .ref _ => true
  | .retAddr _ => true
  | .null => true
  | _ => false
theorem pnIsR_of {v : Value} (h : pnIsR v = true) (σ : Nat → Nat) : pnV σ v = .null ∨ ∃ a, pnV σ v = .ref a := by
  cases v <;> first | exact Or.inr ⟨_, rfl⟩ | exact Or.inl rfl | cases h
theorem pn_aload_n {M : pnM} {adK : Nat → Nat} {d : Nat} {Q : pnR → List pnE → Prop} {bc bs : Nat} {h : List pnE} {L : List (Option Value)} {st : List Value} {pc q : Nat} {i : Fin 4} {v : Value} (hd : decode M.2.1 pc = .ok (.aload_n i, 1)) (hq : pc + 1 = q) (hl : pnGet L i = some v) (hr : pnIsR v = true) (k : pnWP M adK d Q bc bs h L (v :: st) q) : pnWP M adK d Q bc bs h L st pc := by
  subst hq
  refine pn_load hl (fun p l e R s m args below meth c H locs cells slots Q9 ls σ hx hb h9 k9 => ?_) k
  rcases pnIsR_of hr σ with e1 | ⟨a, e1⟩
  · rw [e1] at h9 k9; exact lv_aload_nN hx hb hd rfl h9 k9
  · rw [e1] at h9 k9; exact lv_aload_n hx hb hd rfl h9 k9
theorem pn_aload {M : pnM} {adK : Nat → Nat} {d : Nat} {Q : pnR → List pnE → Prop} {bc bs : Nat} {h : List pnE} {L : List (Option Value)} {st : List Value} {pc q : Nat} {i : Nat} {v : Value} (hd : decode M.2.1 pc = .ok (.aload i, 2)) (hq : pc + 2 = q) (hl : pnGet L i = some v) (hr : pnIsR v = true) (k : pnWP M adK d Q bc bs h L (v :: st) q) : pnWP M adK d Q bc bs h L st pc := by
  subst hq
  refine pn_load hl (fun p l e R s m args below meth c H locs cells slots Q9 ls σ hx hb h9 k9 => ?_) k
  rcases pnIsR_of hr σ with e1 | ⟨a, e1⟩
  · rw [e1] at h9 k9; exact lv_aloadN hx hb hd h9 k9
  · rw [e1] at h9 k9; exact lv_aload hx hb hd h9 k9
theorem pn_istore_n {M : pnM} {adK : Nat → Nat} {d : Nat} {Q : pnR → List pnE → Prop} {bc bs : Nat} {h : List pnE} {L : List (Option Value)} {st : List Value} {pc q : Nat} {i : Fin 4} {x : Int32} (hd : decode M.2.1 pc = .ok (.istore_n i, 1)) (hq : pc + 1 = q) (hi : (i : Nat) < M.2.2.1) (k : pnWP M adK d Q bc bs h (pnSet L i (.int x)) st q) : pnWP M adK d Q bc bs h L (.int x :: st) pc := by
  subst hq
  exact pn_store ⟨hi, fun h => by cases h⟩ (fun _ _ _ _ _ _ _ _ _ _ _ _ _ _ _ _ _ hx hb h9 k9 => lv_istore_n hx hb hd rfl h9 hi rfl (fun ls' h8 => k9 ls' (pnLs.store1 rfl h8))) k
theorem pn_istore {M : pnM} {adK : Nat → Nat} {d : Nat} {Q : pnR → List pnE → Prop} {bc bs : Nat} {h : List pnE} {L : List (Option Value)} {st : List Value} {pc q : Nat} {i : Nat} {x : Int32} (hd : decode M.2.1 pc = .ok (.istore i, 2)) (hq : pc + 2 = q) (hi : i < M.2.2.1) (k : pnWP M adK d Q bc bs h (pnSet L i (.int x)) st q) : pnWP M adK d Q bc bs h L (.int x :: st) pc := by
  subst hq
  exact pn_store ⟨hi, fun h => by cases h⟩ (fun _ _ _ _ _ _ _ _ _ _ _ _ _ _ _ _ _ hx hb h9 k9 => lv_istore hx hb hd h9 hi rfl (fun ls' h8 => k9 ls' (pnLs.store1 rfl h8))) k
theorem pn_lstore_n {M : pnM} {adK : Nat → Nat} {d : Nat} {Q : pnR → List pnE → Prop} {bc bs : Nat} {h : List pnE} {L : List (Option Value)} {st : List Value} {pc q : Nat} {i : Fin 4} {x : Int64} (hd : decode M.2.1 pc = .ok (.lstore_n i, 1)) (hq : pc + 1 = q) (hi : (i : Nat) + 1 < M.2.2.1) (k : pnWP M adK d Q bc bs h (pnSet L i (.long x)) st q) : pnWP M adK d Q bc bs h L (.long x :: st) pc := by
  subst hq
  exact pn_store ⟨Nat.lt_of_succ_lt hi, fun _ => hi⟩ (fun _ _ _ _ _ _ _ _ _ _ _ _ _ _ _ _ _ hx hb h9 k9 => lv_lstore_n hx hb hd rfl h9 hi rfl (fun ls' h8 => k9 ls' (pnLs.store2 rfl h8))) k
theorem pn_lstore {M : pnM} {adK : Nat → Nat} {d : Nat} {Q : pnR → List pnE → Prop} {bc bs : Nat} {h : List pnE} {L : List (Option Value)} {st : List Value} {pc q : Nat} {i : Nat} {x : Int64} (hd : decode M.2.1 pc = .ok (.lstore i, 2)) (hq : pc + 2 = q) (hi : i + 1 < M.2.2.1) (k : pnWP M adK d Q bc bs h (pnSet L i (.long x)) st q) : pnWP M adK d Q bc bs h L (.long x :: st) pc := by
  subst hq
  exact pn_store ⟨Nat.lt_of_succ_lt hi, fun _ => hi⟩ (fun _ _ _ _ _ _ _ _ _ _ _ _ _ _ _ _ _ hx hb h9 k9 => lv_lstore hx hb hd h9 hi rfl (fun ls' h8 => k9 ls' (pnLs.store2 rfl h8))) k
theorem pnIsR_cat {v : Value} (h : pnIsR v = true) : v.category = 1 := by cases v <;> first | rfl | cases h
theorem pn_astore_n {M : pnM} {adK : Nat → Nat} {d : Nat} {Q : pnR → List pnE → Prop} {bc bs : Nat} {h : List pnE} {L : List (Option Value)} {st : List Value} {pc q : Nat} {i : Fin 4} {v : Value} (hd : decode M.2.1 pc = .ok (.astore_n i, 1)) (hq : pc + 1 = q) (hi : (i : Nat) < M.2.2.1) (hr : pnIsR v = true) (k : pnWP M adK d Q bc bs h (pnSet L i v) st q) : pnWP M adK d Q bc bs h L (v :: st) pc := by
  subst hq
  refine pn_store ⟨hi, fun h => by rw [pnIsR_cat hr] at h; cases h⟩ (fun p l e R s m args below meth c H locs cells slots Q9 ls σ hx hb h9 k9 => ?_) k
  have k8 := fun ls' h8 => k9 ls' (pnLs.store1 (pnIsR_cat hr) h8)
  rcases pnIsR_of hr σ with e1 | ⟨a, e1⟩
  · rw [e1] at k8 ⊢; exact lv_astore_nN hx hb hd rfl h9 hi rfl k8
  · rw [e1] at k8 ⊢; exact lv_astore_n hx hb hd rfl h9 hi rfl k8
theorem pn_astore {M : pnM} {adK : Nat → Nat} {d : Nat} {Q : pnR → List pnE → Prop} {bc bs : Nat} {h : List pnE} {L : List (Option Value)} {st : List Value} {pc q : Nat} {i : Nat} {v : Value} (hd : decode M.2.1 pc = .ok (.astore i, 2)) (hq : pc + 2 = q) (hi : i < M.2.2.1) (hr : pnIsR v = true) (k : pnWP M adK d Q bc bs h (pnSet L i v) st q) : pnWP M adK d Q bc bs h L (v :: st) pc := by
  subst hq
  refine pn_store ⟨hi, fun h => by rw [pnIsR_cat hr] at h; cases h⟩ (fun p l e R s m args below meth c H locs cells slots Q9 ls σ hx hb h9 k9 => ?_) k
  have k8 := fun ls' h8 => k9 ls' (pnLs.store1 (pnIsR_cat hr) h8)
  rcases pnIsR_of hr σ with e1 | ⟨a, e1⟩
  · rw [e1] at k8 ⊢; exact lv_astoreN hx hb hd h9 hi rfl k8
  · rw [e1] at k8 ⊢; exact lv_astore hx hb hd h9 hi rfl k8
theorem pn_iinc {M : pnM} {adK : Nat → Nat} {d : Nat} {Q : pnR → List pnE → Prop} {bc bs : Nat} {h : List pnE} {L : List (Option Value)} {st : List Value} {pc q : Nat} {i : Nat} {n : Int} {x mm : Int32} (hd : decode M.2.1 pc = .ok (.iinc i n, 3)) (hq : pc + 3 = q) (hl : pnGet L i = some (.int x)) (hm : Int32.ofInt n = mm) (hi : i < M.2.2.1) (k : pnWP M adK d Q bc bs h (pnSet L i (.int (x + mm))) st q) : pnWP M adK d Q bc bs h L st pc := by
  subst hq
  intro p l e R s m args below meth c D τ A b0 adV mc ms n0 σ0 σ mv0 H locs cells slots ls ok w
  have ok2 := ok
  obtain ⟨hx, hb, -⟩ := ok2
  obtain ⟨w1, w2, w3, w4, w5, w6, w7, w8, w9, w10⟩ := w
  obtain ⟨j, hj⟩ := List.getElem?_of_mem (pnAs_in (σ := σ) hl)
  exact lv_iinc hx hb hd w9 hj (by rw [hm]) hi rfl (fun ls' h8 => k p l e R s m args below meth c D τ A b0 adV mc ms n0 σ0 σ mv0 H locs cells slots ls' ok ⟨w1, w2, w3, w4, w5, w6, w7.set i trivial, w8, pnLs.store1 rfl h8, w10⟩)
theorem pn_iadd {M : pnM} {adK : Nat → Nat} {d : Nat} {Q : pnR → List pnE → Prop} {bc bs : Nat} {h : List pnE} {L : List (Option Value)} {st : List Value} {pc q : Nat} {x y : Int32} (hd : decode M.2.1 pc = .ok (.iadd, 1)) (hq : pc + 1 = q) (k : pnWP M adK d Q bc bs h L (.int (x + y) :: st) q) : pnWP M adK d Q bc bs h L (.int y :: .int x :: st) pc := by
  subst hq
  exact pn_pure k (fun n hc => hc.tail.tail.cons trivial) (fun _ _ _ _ _ _ _ _ _ _ _ _ _ _ _ _ _ hx hb _ _ k9 => lv_iadd hx hb hd k9)
theorem pn_isub {M : pnM} {adK : Nat → Nat} {d : Nat} {Q : pnR → List pnE → Prop} {bc bs : Nat} {h : List pnE} {L : List (Option Value)} {st : List Value} {pc q : Nat} {x y : Int32} (hd : decode M.2.1 pc = .ok (.isub, 1)) (hq : pc + 1 = q) (k : pnWP M adK d Q bc bs h L (.int (x - y) :: st) q) : pnWP M adK d Q bc bs h L (.int y :: .int x :: st) pc := by
  subst hq
  exact pn_pure k (fun n hc => hc.tail.tail.cons trivial) (fun _ _ _ _ _ _ _ _ _ _ _ _ _ _ _ _ _ hx hb _ _ k9 => lv_isub hx hb hd k9)
theorem pn_imul {M : pnM} {adK : Nat → Nat} {d : Nat} {Q : pnR → List pnE → Prop} {bc bs : Nat} {h : List pnE} {L : List (Option Value)} {st : List Value} {pc q : Nat} {x y : Int32} (hd : decode M.2.1 pc = .ok (.imul, 1)) (hq : pc + 1 = q) (k : pnWP M adK d Q bc bs h L (.int (x * y) :: st) q) : pnWP M adK d Q bc bs h L (.int y :: .int x :: st) pc := by
  subst hq
  exact pn_pure k (fun n hc => hc.tail.tail.cons trivial) (fun _ _ _ _ _ _ _ _ _ _ _ _ _ _ _ _ _ hx hb _ _ k9 => lv_imul hx hb hd k9)
theorem pn_iand {M : pnM} {adK : Nat → Nat} {d : Nat} {Q : pnR → List pnE → Prop} {bc bs : Nat} {h : List pnE} {L : List (Option Value)} {st : List Value} {pc q : Nat} {x y : Int32} (hd : decode M.2.1 pc = .ok (.iand, 1)) (hq : pc + 1 = q) (k : pnWP M adK d Q bc bs h L (.int (x &&& y) :: st) q) : pnWP M adK d Q bc bs h L (.int y :: .int x :: st) pc := by
  subst hq
  exact pn_pure k (fun n hc => hc.tail.tail.cons trivial) (fun _ _ _ _ _ _ _ _ _ _ _ _ _ _ _ _ _ hx hb _ _ k9 => lv_iand hx hb hd k9)
theorem pn_ior {M : pnM} {adK : Nat → Nat} {d : Nat} {Q : pnR → List pnE → Prop} {bc bs : Nat} {h : List pnE} {L : List (Option Value)} {st : List Value} {pc q : Nat} {x y : Int32} (hd : decode M.2.1 pc = .ok (.ior, 1)) (hq : pc + 1 = q) (k : pnWP M adK d Q bc bs h L (.int (x ||| y) :: st) q) : pnWP M adK d Q bc bs h L (.int y :: .int x :: st) pc := by
  subst hq
  exact pn_pure k (fun n hc => hc.tail.tail.cons trivial) (fun _ _ _ _ _ _ _ _ _ _ _ _ _ _ _ _ _ hx hb _ _ k9 => lv_ior hx hb hd k9)
theorem pn_ixor {M : pnM} {adK : Nat → Nat} {d : Nat} {Q : pnR → List pnE → Prop} {bc bs : Nat} {h : List pnE} {L : List (Option Value)} {st : List Value} {pc q : Nat} {x y : Int32} (hd : decode M.2.1 pc = .ok (.ixor, 1)) (hq : pc + 1 = q) (k : pnWP M adK d Q bc bs h L (.int (x ^^^ y) :: st) q) : pnWP M adK d Q bc bs h L (.int y :: .int x :: st) pc := by
  subst hq
  exact pn_pure k (fun n hc => hc.tail.tail.cons trivial) (fun _ _ _ _ _ _ _ _ _ _ _ _ _ _ _ _ _ hx hb _ _ k9 => lv_ixor hx hb hd k9)
theorem pn_ishl {M : pnM} {adK : Nat → Nat} {d : Nat} {Q : pnR → List pnE → Prop} {bc bs : Nat} {h : List pnE} {L : List (Option Value)} {st : List Value} {pc q : Nat} {x y : Int32} (hd : decode M.2.1 pc = .ok (.ishl, 1)) (hq : pc + 1 = q) (k : pnWP M adK d Q bc bs h L (.int (x <<< (y &&& 31)) :: st) q) : pnWP M adK d Q bc bs h L (.int y :: .int x :: st) pc := by
  subst hq
  exact pn_pure k (fun n hc => hc.tail.tail.cons trivial) (fun _ _ _ _ _ _ _ _ _ _ _ _ _ _ _ _ _ hx hb _ _ k9 => lv_ishl hx hb hd k9)
theorem pn_ishr {M : pnM} {adK : Nat → Nat} {d : Nat} {Q : pnR → List pnE → Prop} {bc bs : Nat} {h : List pnE} {L : List (Option Value)} {st : List Value} {pc q : Nat} {x y : Int32} (hd : decode M.2.1 pc = .ok (.ishr, 1)) (hq : pc + 1 = q) (k : pnWP M adK d Q bc bs h L (.int (x >>> (y &&& 31)) :: st) q) : pnWP M adK d Q bc bs h L (.int y :: .int x :: st) pc := by
  subst hq
  exact pn_pure k (fun n hc => hc.tail.tail.cons trivial) (fun _ _ _ _ _ _ _ _ _ _ _ _ _ _ _ _ _ hx hb _ _ k9 => lv_ishr hx hb hd k9)
theorem pn_iushr {M : pnM} {adK : Nat → Nat} {d : Nat} {Q : pnR → List pnE → Prop} {bc bs : Nat} {h : List pnE} {L : List (Option Value)} {st : List Value} {pc q : Nat} {x y : Int32} (hd : decode M.2.1 pc = .ok (.iushr, 1)) (hq : pc + 1 = q) (k : pnWP M adK d Q bc bs h L (.int ((x.toUInt32 >>> (y.toUInt32 &&& Int32.toUInt32 31)).toInt32) :: st) q) : pnWP M adK d Q bc bs h L (.int y :: .int x :: st) pc := by
  subst hq
  exact pn_pure k (fun n hc => hc.tail.tail.cons trivial) (fun _ _ _ _ _ _ _ _ _ _ _ _ _ _ _ _ _ hx hb _ _ k9 => lv_iushr hx hb hd rfl k9)
theorem pn_idiv {M : pnM} {adK : Nat → Nat} {d : Nat} {Q : pnR → List pnE → Prop} {bc bs : Nat} {h : List pnE} {L : List (Option Value)} {st : List Value} {pc q : Nat} {x y : Int32} (hd : decode M.2.1 pc = .ok (.idiv, 1)) (hq : pc + 1 = q) (hne : ¬ y = 0) (k : pnWP M adK d Q bc bs h L (.int (x / y) :: st) q) : pnWP M adK d Q bc bs h L (.int y :: .int x :: st) pc := by
  subst hq
  exact pn_pure k (fun n hc => hc.tail.tail.cons trivial) (fun _ _ _ _ _ _ _ _ _ _ _ _ _ _ _ _ _ hx hb _ _ k9 => lv_idiv hx hb hd hne k9)
theorem pn_irem {M : pnM} {adK : Nat → Nat} {d : Nat} {Q : pnR → List pnE → Prop} {bc bs : Nat} {h : List pnE} {L : List (Option Value)} {st : List Value} {pc q : Nat} {x y : Int32} (hd : decode M.2.1 pc = .ok (.irem, 1)) (hq : pc + 1 = q) (hne : ¬ y = 0) (k : pnWP M adK d Q bc bs h L (.int (x - x / y * y) :: st) q) : pnWP M adK d Q bc bs h L (.int y :: .int x :: st) pc := by
  subst hq
  exact pn_pure k (fun n hc => hc.tail.tail.cons trivial) (fun _ _ _ _ _ _ _ _ _ _ _ _ _ _ _ _ _ hx hb _ _ k9 => lv_irem hx hb hd hne k9)
theorem pn_ladd {M : pnM} {adK : Nat → Nat} {d : Nat} {Q : pnR → List pnE → Prop} {bc bs : Nat} {h : List pnE} {L : List (Option Value)} {st : List Value} {pc q : Nat} {x y : Int64} (hd : decode M.2.1 pc = .ok (.ladd, 1)) (hq : pc + 1 = q) (k : pnWP M adK d Q bc bs h L (.long (x + y) :: st) q) : pnWP M adK d Q bc bs h L (.long y :: .long x :: st) pc := by
  subst hq
  exact pn_pure k (fun n hc => hc.tail.tail.cons trivial) (fun _ _ _ _ _ _ _ _ _ _ _ _ _ _ _ _ _ hx hb _ _ k9 => lv_ladd hx hb hd k9)
theorem pn_lsub {M : pnM} {adK : Nat → Nat} {d : Nat} {Q : pnR → List pnE → Prop} {bc bs : Nat} {h : List pnE} {L : List (Option Value)} {st : List Value} {pc q : Nat} {x y : Int64} (hd : decode M.2.1 pc = .ok (.lsub, 1)) (hq : pc + 1 = q) (k : pnWP M adK d Q bc bs h L (.long (x - y) :: st) q) : pnWP M adK d Q bc bs h L (.long y :: .long x :: st) pc := by
  subst hq
  exact pn_pure k (fun n hc => hc.tail.tail.cons trivial) (fun _ _ _ _ _ _ _ _ _ _ _ _ _ _ _ _ _ hx hb _ _ k9 => lv_lsub hx hb hd k9)
theorem pn_lmul {M : pnM} {adK : Nat → Nat} {d : Nat} {Q : pnR → List pnE → Prop} {bc bs : Nat} {h : List pnE} {L : List (Option Value)} {st : List Value} {pc q : Nat} {x y : Int64} (hd : decode M.2.1 pc = .ok (.lmul, 1)) (hq : pc + 1 = q) (k : pnWP M adK d Q bc bs h L (.long (x * y) :: st) q) : pnWP M adK d Q bc bs h L (.long y :: .long x :: st) pc := by
  subst hq
  exact pn_pure k (fun n hc => hc.tail.tail.cons trivial) (fun _ _ _ _ _ _ _ _ _ _ _ _ _ _ _ _ _ hx hb _ _ k9 => lv_lmul hx hb hd k9)
theorem pn_land {M : pnM} {adK : Nat → Nat} {d : Nat} {Q : pnR → List pnE → Prop} {bc bs : Nat} {h : List pnE} {L : List (Option Value)} {st : List Value} {pc q : Nat} {x y : Int64} (hd : decode M.2.1 pc = .ok (.land, 1)) (hq : pc + 1 = q) (k : pnWP M adK d Q bc bs h L (.long (x &&& y) :: st) q) : pnWP M adK d Q bc bs h L (.long y :: .long x :: st) pc := by
  subst hq
  exact pn_pure k (fun n hc => hc.tail.tail.cons trivial) (fun _ _ _ _ _ _ _ _ _ _ _ _ _ _ _ _ _ hx hb _ _ k9 => lv_land hx hb hd k9)
theorem pn_lor {M : pnM} {adK : Nat → Nat} {d : Nat} {Q : pnR → List pnE → Prop} {bc bs : Nat} {h : List pnE} {L : List (Option Value)} {st : List Value} {pc q : Nat} {x y : Int64} (hd : decode M.2.1 pc = .ok (.lor, 1)) (hq : pc + 1 = q) (k : pnWP M adK d Q bc bs h L (.long (x ||| y) :: st) q) : pnWP M adK d Q bc bs h L (.long y :: .long x :: st) pc := by
  subst hq
  exact pn_pure k (fun n hc => hc.tail.tail.cons trivial) (fun _ _ _ _ _ _ _ _ _ _ _ _ _ _ _ _ _ hx hb _ _ k9 => lv_lor hx hb hd k9)
theorem pn_lxor {M : pnM} {adK : Nat → Nat} {d : Nat} {Q : pnR → List pnE → Prop} {bc bs : Nat} {h : List pnE} {L : List (Option Value)} {st : List Value} {pc q : Nat} {x y : Int64} (hd : decode M.2.1 pc = .ok (.lxor, 1)) (hq : pc + 1 = q) (k : pnWP M adK d Q bc bs h L (.long (x ^^^ y) :: st) q) : pnWP M adK d Q bc bs h L (.long y :: .long x :: st) pc := by
  subst hq
  exact pn_pure k (fun n hc => hc.tail.tail.cons trivial) (fun _ _ _ _ _ _ _ _ _ _ _ _ _ _ _ _ _ hx hb _ _ k9 => lv_lxor hx hb hd k9)
theorem pn_ldiv {M : pnM} {adK : Nat → Nat} {d : Nat} {Q : pnR → List pnE → Prop} {bc bs : Nat} {h : List pnE} {L : List (Option Value)} {st : List Value} {pc q : Nat} {x y : Int64} (hd : decode M.2.1 pc = .ok (.ldiv, 1)) (hq : pc + 1 = q) (hne : ¬ y = 0) (k : pnWP M adK d Q bc bs h L (.long (x / y) :: st) q) : pnWP M adK d Q bc bs h L (.long y :: .long x :: st) pc := by
  subst hq
  exact pn_pure k (fun n hc => hc.tail.tail.cons trivial) (fun _ _ _ _ _ _ _ _ _ _ _ _ _ _ _ _ _ hx hb _ _ k9 => lv_ldiv hx hb hd hne k9)
theorem pn_lshl {M : pnM} {adK : Nat → Nat} {d : Nat} {Q : pnR → List pnE → Prop} {bc bs : Nat} {h : List pnE} {L : List (Option Value)} {st : List Value} {pc q : Nat} {x : Int64} {y : Int32} (hd : decode M.2.1 pc = .ok (.lshl, 1)) (hq : pc + 1 = q) (k : pnWP M adK d Q bc bs h L (.long (x <<< (y.toInt64 &&& 63)) :: st) q) : pnWP M adK d Q bc bs h L (.int y :: .long x :: st) pc := by
  subst hq
  exact pn_pure k (fun n hc => hc.tail.tail.cons trivial) (fun _ _ _ _ _ _ _ _ _ _ _ _ _ _ _ _ _ hx hb _ _ k9 => lv_lshl hx hb hd rfl k9)
theorem pn_lshr {M : pnM} {adK : Nat → Nat} {d : Nat} {Q : pnR → List pnE → Prop} {bc bs : Nat} {h : List pnE} {L : List (Option Value)} {st : List Value} {pc q : Nat} {x : Int64} {y : Int32} (hd : decode M.2.1 pc = .ok (.lshr, 1)) (hq : pc + 1 = q) (k : pnWP M adK d Q bc bs h L (.long (x >>> (y.toInt64 &&& 63)) :: st) q) : pnWP M adK d Q bc bs h L (.int y :: .long x :: st) pc := by
  subst hq
  exact pn_pure k (fun n hc => hc.tail.tail.cons trivial) (fun _ _ _ _ _ _ _ _ _ _ _ _ _ _ _ _ _ hx hb _ _ k9 => lv_lshr hx hb hd rfl k9)
theorem pn_lushr {M : pnM} {adK : Nat → Nat} {d : Nat} {Q : pnR → List pnE → Prop} {bc bs : Nat} {h : List pnE} {L : List (Option Value)} {st : List Value} {pc q : Nat} {x : Int64} {y : Int32} (hd : decode M.2.1 pc = .ok (.lushr, 1)) (hq : pc + 1 = q) (k : pnWP M adK d Q bc bs h L (.long ((x.toUInt64 >>> (y.toInt64.toUInt64 &&& Int64.toUInt64 63)).toInt64) :: st) q) : pnWP M adK d Q bc bs h L (.int y :: .long x :: st) pc := by
  subst hq
  exact pn_pure k (fun n hc => hc.tail.tail.cons trivial) (fun _ _ _ _ _ _ _ _ _ _ _ _ _ _ _ _ _ hx hb _ _ k9 => lv_lushr hx hb hd rfl k9)
theorem pn_lneg {M : pnM} {adK : Nat → Nat} {d : Nat} {Q : pnR → List pnE → Prop} {bc bs : Nat} {h : List pnE} {L : List (Option Value)} {st : List Value} {pc q : Nat} {x : Int64} (hd : decode M.2.1 pc = .ok (.lneg, 1)) (hq : pc + 1 = q) (k : pnWP M adK d Q bc bs h L (.long (-x) :: st) q) : pnWP M adK d Q bc bs h L (.long x :: st) pc := by
  subst hq
  exact pn_pure k (fun n hc => hc.tail.cons trivial) (fun _ _ _ _ _ _ _ _ _ _ _ _ _ _ _ _ _ hx hb _ _ k9 => lv_lneg hx hb hd k9)
theorem pn_i2l {M : pnM} {adK : Nat → Nat} {d : Nat} {Q : pnR → List pnE → Prop} {bc bs : Nat} {h : List pnE} {L : List (Option Value)} {st : List Value} {pc q : Nat} {x : Int32} (hd : decode M.2.1 pc = .ok (.i2l, 1)) (hq : pc + 1 = q) (k : pnWP M adK d Q bc bs h L (.long (x.toInt64) :: st) q) : pnWP M adK d Q bc bs h L (.int x :: st) pc := by
  subst hq
  exact pn_pure k (fun n hc => hc.tail.cons trivial) (fun _ _ _ _ _ _ _ _ _ _ _ _ _ _ _ _ _ hx hb _ _ k9 => lv_i2l hx hb hd rfl k9)
theorem pn_l2i {M : pnM} {adK : Nat → Nat} {d : Nat} {Q : pnR → List pnE → Prop} {bc bs : Nat} {h : List pnE} {L : List (Option Value)} {st : List Value} {pc q : Nat} {x : Int64} (hd : decode M.2.1 pc = .ok (.l2i, 1)) (hq : pc + 1 = q) (k : pnWP M adK d Q bc bs h L (.int (x.toInt32) :: st) q) : pnWP M adK d Q bc bs h L (.long x :: st) pc := by
  subst hq
  exact pn_pure k (fun n hc => hc.tail.cons trivial) (fun _ _ _ _ _ _ _ _ _ _ _ _ _ _ _ _ _ hx hb _ _ k9 => lv_l2i hx hb hd rfl k9)
theorem pn_i2b {M : pnM} {adK : Nat → Nat} {d : Nat} {Q : pnR → List pnE → Prop} {bc bs : Nat} {h : List pnE} {L : List (Option Value)} {st : List Value} {pc q : Nat} {x : Int32} (hd : decode M.2.1 pc = .ok (.i2b, 1)) (hq : pc + 1 = q) (k : pnWP M adK d Q bc bs h L (.int (x.toInt8.toInt32) :: st) q) : pnWP M adK d Q bc bs h L (.int x :: st) pc := by
  subst hq
  exact pn_pure k (fun n hc => hc.tail.cons trivial) (fun _ _ _ _ _ _ _ _ _ _ _ _ _ _ _ _ _ hx hb _ _ k9 => lv_i2b hx hb hd rfl k9)
theorem pn_lcmp {M : pnM} {adK : Nat → Nat} {d : Nat} {Q : pnR → List pnE → Prop} {bc bs : Nat} {h : List pnE} {L : List (Option Value)} {st : List Value} {pc q : Nat} {x y : Int64} (hd : decode M.2.1 pc = .ok (.lcmp, 1)) (hq : pc + 1 = q) (k : pnWP M adK d Q bc bs h L (.int (lg_cmp x y) :: st) q) : pnWP M adK d Q bc bs h L (.long y :: .long x :: st) pc := by
  subst hq
  exact pn_pure k (fun n hc => hc.tail.tail.cons trivial) (fun _ _ _ _ _ _ _ _ _ _ _ _ _ _ _ _ _ hx hb _ _ k9 => W.lcmp hx hb hd k9)
theorem pn_dup {M : pnM} {adK : Nat → Nat} {d : Nat} {Q : pnR → List pnE → Prop} {bc bs : Nat} {h : List pnE} {L : List (Option Value)} {st : List Value} {pc q : Nat} {v : Value} (hd : decode M.2.1 pc = .ok (.dup, 1)) (hq : pc + 1 = q) (hc1 : v.category = 1) (k : pnWP M adK d Q bc bs h L (v :: v :: st) q) : pnWP M adK d Q bc bs h L (v :: st) pc := by
  subst hq
  exact pn_pure k (fun n hc => hc.cons hc.head) (fun _ _ _ _ _ _ _ _ _ _ _ _ _ _ _ _ _ hx hb _ _ k9 => lv_dup hx hb hd (by rw [pnCat]; exact hc1) k9)
theorem pn_pop {M : pnM} {adK : Nat → Nat} {d : Nat} {Q : pnR → List pnE → Prop} {bc bs : Nat} {h : List pnE} {L : List (Option Value)} {st : List Value} {pc q : Nat} {v : Value} (hd : decode M.2.1 pc = .ok (.pop, 1)) (hq : pc + 1 = q) (hc1 : v.category = 1) (k : pnWP M adK d Q bc bs h L st q) : pnWP M adK d Q bc bs h L (v :: st) pc := by
  subst hq
  exact pn_pure k (fun n hc => hc.tail) (fun _ _ _ _ _ _ _ _ _ _ _ _ _ _ _ _ _ hx hb _ _ k9 => lv_pop hx hb hd (by rw [pnCat]; exact hc1) k9)
theorem pn_dup2 {M : pnM} {adK : Nat → Nat} {d : Nat} {Q : pnR → List pnE → Prop} {bc bs : Nat} {h : List pnE} {L : List (Option Value)} {st : List Value} {pc q : Nat} {v u : Value} (hd : decode M.2.1 pc = .ok (.dup2, 1)) (hq : pc + 1 = q) (hc1 : v.category = 1) (hc2 : u.category = 1) (k : pnWP M adK d Q bc bs h L (v :: u :: v :: u :: st) q) : pnWP M adK d Q bc bs h L (v :: u :: st) pc := by
  subst hq
  exact pn_pure k (fun n hc => ((hc.cons hc.tail.head).cons hc.head)) (fun _ _ _ _ _ _ _ _ _ _ _ _ _ _ _ _ _ hx hb _ _ k9 => lv_dup2_11 hx hb hd (by rw [pnCat]; exact hc1) (by rw [pnCat]; exact hc2) k9)
theorem pn_dup2l {M : pnM} {adK : Nat → Nat} {d : Nat} {Q : pnR → List pnE → Prop} {bc bs : Nat} {h : List pnE} {L : List (Option Value)} {st : List Value} {pc q : Nat} {x : Int64} (hd : decode M.2.1 pc = .ok (.dup2, 1)) (hq : pc + 1 = q) (k : pnWP M adK d Q bc bs h L (.long x :: .long x :: st) q) : pnWP M adK d Q bc bs h L (.long x :: st) pc := by
  subst hq
  exact pn_pure k (fun n hc => hc.cons trivial) (fun _ _ _ _ _ _ _ _ _ _ _ _ _ _ _ _ _ hx hb _ _ k9 => lv_dup2_2 hx hb hd rfl k9)
theorem pn_if_eq {M : pnM} {adK : Nat → Nat} {d : Nat} {Q : pnR → List pnE → Prop} {bc bs : Nat} {h : List pnE} {L : List (Option Value)} {st : List Value} {pc q : Nat} {x : Int32} {off : Int} {tgt : Nat} (hd : decode M.2.1 pc = .ok (.ifCond .eq off, 3)) (ht : (pc : Int) + off = (tgt : Int)) (hq : pc + 3 = q) (kt : x = 0 → pnWP M adK d Q bc bs h L st tgt) (kf : ¬ x = 0 → pnWP M adK d Q bc bs h L st q) : pnWP M adK d Q bc bs h L (.int x :: st) pc := by
  subst hq
  exact pn_pure2 (q := 0) kt kf (fun n hc => hc.tail) (fun n hc => hc.tail) (fun _ _ _ _ _ _ _ _ _ _ _ _ _ _ _ _ _ hx hb _ _ k8 k9 => lv_if_eq hx hb hd ht k8 k9)
theorem pn_icmp_eq {M : pnM} {adK : Nat → Nat} {d : Nat} {Q : pnR → List pnE → Prop} {bc bs : Nat} {h : List pnE} {L : List (Option Value)} {st : List Value} {pc q : Nat} {x y : Int32} {off : Int} {tgt : Nat} (hd : decode M.2.1 pc = .ok (.if_icmp .eq off, 3)) (ht : (pc : Int) + off = (tgt : Int)) (hq : pc + 3 = q) (kt : x = y → pnWP M adK d Q bc bs h L st tgt) (kf : ¬ x = y → pnWP M adK d Q bc bs h L st q) : pnWP M adK d Q bc bs h L (.int y :: .int x :: st) pc := by
  subst hq
  exact pn_pure2 (q := 0) kt kf (fun n hc => hc.tail.tail) (fun n hc => hc.tail.tail) (fun _ _ _ _ _ _ _ _ _ _ _ _ _ _ _ _ _ hx hb _ _ k8 k9 => lv_icmp_eq hx hb hd ht k8 k9)
theorem pn_if_ne {M : pnM} {adK : Nat → Nat} {d : Nat} {Q : pnR → List pnE → Prop} {bc bs : Nat} {h : List pnE} {L : List (Option Value)} {st : List Value} {pc q : Nat} {x : Int32} {off : Int} {tgt : Nat} (hd : decode M.2.1 pc = .ok (.ifCond .ne off, 3)) (ht : (pc : Int) + off = (tgt : Int)) (hq : pc + 3 = q) (kt : ¬ x = 0 → pnWP M adK d Q bc bs h L st tgt) (kf : x = 0 → pnWP M adK d Q bc bs h L st q) : pnWP M adK d Q bc bs h L (.int x :: st) pc := by
  subst hq
  exact pn_pure2 (q := 0) kt kf (fun n hc => hc.tail) (fun n hc => hc.tail) (fun _ _ _ _ _ _ _ _ _ _ _ _ _ _ _ _ _ hx hb _ _ k8 k9 => lv_if_ne hx hb hd ht k8 k9)
theorem pn_icmp_ne {M : pnM} {adK : Nat → Nat} {d : Nat} {Q : pnR → List pnE → Prop} {bc bs : Nat} {h : List pnE} {L : List (Option Value)} {st : List Value} {pc q : Nat} {x y : Int32} {off : Int} {tgt : Nat} (hd : decode M.2.1 pc = .ok (.if_icmp .ne off, 3)) (ht : (pc : Int) + off = (tgt : Int)) (hq : pc + 3 = q) (kt : ¬ x = y → pnWP M adK d Q bc bs h L st tgt) (kf : x = y → pnWP M adK d Q bc bs h L st q) : pnWP M adK d Q bc bs h L (.int y :: .int x :: st) pc := by
  subst hq
  exact pn_pure2 (q := 0) kt kf (fun n hc => hc.tail.tail) (fun n hc => hc.tail.tail) (fun _ _ _ _ _ _ _ _ _ _ _ _ _ _ _ _ _ hx hb _ _ k8 k9 => lv_icmp_ne hx hb hd ht k8 k9)
theorem pn_if_lt {M : pnM} {adK : Nat → Nat} {d : Nat} {Q : pnR → List pnE → Prop} {bc bs : Nat} {h : List pnE} {L : List (Option Value)} {st : List Value} {pc q : Nat} {x : Int32} {off : Int} {tgt : Nat} (hd : decode M.2.1 pc = .ok (.ifCond .lt off, 3)) (ht : (pc : Int) + off = (tgt : Int)) (hq : pc + 3 = q) (kt : x < 0 → pnWP M adK d Q bc bs h L st tgt) (kf : ¬ x < 0 → pnWP M adK d Q bc bs h L st q) : pnWP M adK d Q bc bs h L (.int x :: st) pc := by
  subst hq
  exact pn_pure2 (q := 0) kt kf (fun n hc => hc.tail) (fun n hc => hc.tail) (fun _ _ _ _ _ _ _ _ _ _ _ _ _ _ _ _ _ hx hb _ _ k8 k9 => lv_if_lt hx hb hd ht k8 k9)
theorem pn_icmp_lt {M : pnM} {adK : Nat → Nat} {d : Nat} {Q : pnR → List pnE → Prop} {bc bs : Nat} {h : List pnE} {L : List (Option Value)} {st : List Value} {pc q : Nat} {x y : Int32} {off : Int} {tgt : Nat} (hd : decode M.2.1 pc = .ok (.if_icmp .lt off, 3)) (ht : (pc : Int) + off = (tgt : Int)) (hq : pc + 3 = q) (kt : x < y → pnWP M adK d Q bc bs h L st tgt) (kf : ¬ x < y → pnWP M adK d Q bc bs h L st q) : pnWP M adK d Q bc bs h L (.int y :: .int x :: st) pc := by
  subst hq
  exact pn_pure2 (q := 0) kt kf (fun n hc => hc.tail.tail) (fun n hc => hc.tail.tail) (fun _ _ _ _ _ _ _ _ _ _ _ _ _ _ _ _ _ hx hb _ _ k8 k9 => lv_icmp_lt hx hb hd ht k8 k9)
theorem pn_if_ge {M : pnM} {adK : Nat → Nat} {d : Nat} {Q : pnR → List pnE → Prop} {bc bs : Nat} {h : List pnE} {L : List (Option Value)} {st : List Value} {pc q : Nat} {x : Int32} {off : Int} {tgt : Nat} (hd : decode M.2.1 pc = .ok (.ifCond .ge off, 3)) (ht : (pc : Int) + off = (tgt : Int)) (hq : pc + 3 = q) (kt : 0 ≤ x → pnWP M adK d Q bc bs h L st tgt) (kf : ¬ 0 ≤ x → pnWP M adK d Q bc bs h L st q) : pnWP M adK d Q bc bs h L (.int x :: st) pc := by
  subst hq
  exact pn_pure2 (q := 0) kt kf (fun n hc => hc.tail) (fun n hc => hc.tail) (fun _ _ _ _ _ _ _ _ _ _ _ _ _ _ _ _ _ hx hb _ _ k8 k9 => lv_if_ge hx hb hd ht k8 k9)
theorem pn_icmp_ge {M : pnM} {adK : Nat → Nat} {d : Nat} {Q : pnR → List pnE → Prop} {bc bs : Nat} {h : List pnE} {L : List (Option Value)} {st : List Value} {pc q : Nat} {x y : Int32} {off : Int} {tgt : Nat} (hd : decode M.2.1 pc = .ok (.if_icmp .ge off, 3)) (ht : (pc : Int) + off = (tgt : Int)) (hq : pc + 3 = q) (kt : y ≤ x → pnWP M adK d Q bc bs h L st tgt) (kf : ¬ y ≤ x → pnWP M adK d Q bc bs h L st q) : pnWP M adK d Q bc bs h L (.int y :: .int x :: st) pc := by
  subst hq
  exact pn_pure2 (q := 0) kt kf (fun n hc => hc.tail.tail) (fun n hc => hc.tail.tail) (fun _ _ _ _ _ _ _ _ _ _ _ _ _ _ _ _ _ hx hb _ _ k8 k9 => lv_icmp_ge hx hb hd ht k8 k9)
theorem pn_if_gt {M : pnM} {adK : Nat → Nat} {d : Nat} {Q : pnR → List pnE → Prop} {bc bs : Nat} {h : List pnE} {L : List (Option Value)} {st : List Value} {pc q : Nat} {x : Int32} {off : Int} {tgt : Nat} (hd : decode M.2.1 pc = .ok (.ifCond .gt off, 3)) (ht : (pc : Int) + off = (tgt : Int)) (hq : pc + 3 = q) (kt : 0 < x → pnWP M adK d Q bc bs h L st tgt) (kf : ¬ 0 < x → pnWP M adK d Q bc bs h L st q) : pnWP M adK d Q bc bs h L (.int x :: st) pc := by
  subst hq
  exact pn_pure2 (q := 0) kt kf (fun n hc => hc.tail) (fun n hc => hc.tail) (fun _ _ _ _ _ _ _ _ _ _ _ _ _ _ _ _ _ hx hb _ _ k8 k9 => lv_if_gt hx hb hd ht k8 k9)
theorem pn_icmp_gt {M : pnM} {adK : Nat → Nat} {d : Nat} {Q : pnR → List pnE → Prop} {bc bs : Nat} {h : List pnE} {L : List (Option Value)} {st : List Value} {pc q : Nat} {x y : Int32} {off : Int} {tgt : Nat} (hd : decode M.2.1 pc = .ok (.if_icmp .gt off, 3)) (ht : (pc : Int) + off = (tgt : Int)) (hq : pc + 3 = q) (kt : y < x → pnWP M adK d Q bc bs h L st tgt) (kf : ¬ y < x → pnWP M adK d Q bc bs h L st q) : pnWP M adK d Q bc bs h L (.int y :: .int x :: st) pc := by
  subst hq
  exact pn_pure2 (q := 0) kt kf (fun n hc => hc.tail.tail) (fun n hc => hc.tail.tail) (fun _ _ _ _ _ _ _ _ _ _ _ _ _ _ _ _ _ hx hb _ _ k8 k9 => lv_icmp_gt hx hb hd ht k8 k9)
theorem pn_if_le {M : pnM} {adK : Nat → Nat} {d : Nat} {Q : pnR → List pnE → Prop} {bc bs : Nat} {h : List pnE} {L : List (Option Value)} {st : List Value} {pc q : Nat} {x : Int32} {off : Int} {tgt : Nat} (hd : decode M.2.1 pc = .ok (.ifCond .le off, 3)) (ht : (pc : Int) + off = (tgt : Int)) (hq : pc + 3 = q) (kt : x ≤ 0 → pnWP M adK d Q bc bs h L st tgt) (kf : ¬ x ≤ 0 → pnWP M adK d Q bc bs h L st q) : pnWP M adK d Q bc bs h L (.int x :: st) pc := by
  subst hq
  exact pn_pure2 (q := 0) kt kf (fun n hc => hc.tail) (fun n hc => hc.tail) (fun _ _ _ _ _ _ _ _ _ _ _ _ _ _ _ _ _ hx hb _ _ k8 k9 => lv_if_le hx hb hd ht k8 k9)
theorem pn_icmp_le {M : pnM} {adK : Nat → Nat} {d : Nat} {Q : pnR → List pnE → Prop} {bc bs : Nat} {h : List pnE} {L : List (Option Value)} {st : List Value} {pc q : Nat} {x y : Int32} {off : Int} {tgt : Nat} (hd : decode M.2.1 pc = .ok (.if_icmp .le off, 3)) (ht : (pc : Int) + off = (tgt : Int)) (hq : pc + 3 = q) (kt : x ≤ y → pnWP M adK d Q bc bs h L st tgt) (kf : ¬ x ≤ y → pnWP M adK d Q bc bs h L st q) : pnWP M adK d Q bc bs h L (.int y :: .int x :: st) pc := by
  subst hq
  exact pn_pure2 (q := 0) kt kf (fun n hc => hc.tail.tail) (fun n hc => hc.tail.tail) (fun _ _ _ _ _ _ _ _ _ _ _ _ _ _ _ _ _ hx hb _ _ k8 k9 => lv_icmp_le hx hb hd ht k8 k9)
theorem pn_goto {M : pnM} {adK : Nat → Nat} {d : Nat} {Q : pnR → List pnE → Prop} {bc bs : Nat} {h : List pnE} {L : List (Option Value)} {st : List Value} {pc q : Nat} {off : Int} (hd : decode M.2.1 pc = .ok (.goto off, 3)) (ht : (pc : Int) + off = (q : Int)) (k : pnWP M adK d Q bc bs h L st q) : pnWP M adK d Q bc bs h L st pc := pn_pure k (fun n hc => hc) (fun _ _ _ _ _ _ _ _ _ _ _ _ _ _ _ _ _ hx hb _ _ k9 => lv_goto hx hb hd ht k9)
theorem pn_ifnull_ref {M : pnM} {adK : Nat → Nat} {d : Nat} {Q : pnR → List pnE → Prop} {bc bs : Nat} {h : List pnE} {L : List (Option Value)} {st : List Value} {pc q : Nat} {a : Nat} {off : Int} (hd : decode M.2.1 pc = .ok (.ifnull off, 3)) (hq : pc + 3 = q) (k : pnWP M adK d Q bc bs h L st q) : pnWP M adK d Q bc bs h L (.ref a :: st) pc := by
  subst hq
  exact pn_pure k (fun n hc => hc.tail) (fun _ _ _ _ _ _ _ _ _ _ _ _ _ _ _ _ _ hx hb _ _ k9 => lv_ifnull hx hb hd k9)
theorem pn_ifnull_null {M : pnM} {adK : Nat → Nat} {d : Nat} {Q : pnR → List pnE → Prop} {bc bs : Nat} {h : List pnE} {L : List (Option Value)} {st : List Value} {pc q : Nat} {off : Int} (hd : decode M.2.1 pc = .ok (.ifnull off, 3)) (ht : (pc : Int) + off = (q : Int)) (k : pnWP M adK d Q bc bs h L st q) : pnWP M adK d Q bc bs h L (.null :: st) pc := pn_pure k (fun n hc => hc.tail) (fun _ _ _ _ _ _ _ _ _ _ _ _ _ _ _ _ _ hx hb _ _ k9 => lv_ifnullN hx hb hd ht k9)
theorem pn_tabIn {M : pnM} {adK : Nat → Nat} {d : Nat} {Q : pnR → List pnE → Prop} {bc bs : Nat} {h : List pnE} {L : List (Option Value)} {st : List Value} {pc q : Nat} {dflt lo hi : Int} {offs : Array Int} {len : Nat} {x : Int32} {off : Int} (hd : decode M.2.1 pc = .ok (.tableswitch dflt lo hi offs, len)) (h1 : ¬ x.toInt < lo) (h2 : ¬ hi < x.toInt) (ho : offs[(x.toInt - lo).toNat]? = some off) (ht : (pc : Int) + off = (q : Int)) (k : pnWP M adK d Q bc bs h L st q) : pnWP M adK d Q bc bs h L (.int x :: st) pc := pn_pure k (fun n hc => hc.tail) (fun _ _ _ _ _ _ _ _ _ _ _ _ _ _ _ _ _ hx hb _ _ k9 => lv_tableIn hx hb hd h1 h2 ho ht k9)
theorem pn_tabOut {M : pnM} {adK : Nat → Nat} {d : Nat} {Q : pnR → List pnE → Prop} {bc bs : Nat} {h : List pnE} {L : List (Option Value)} {st : List Value} {pc q : Nat} {dflt lo hi : Int} {offs : Array Int} {len : Nat} {x : Int32} (hd : decode M.2.1 pc = .ok (.tableswitch dflt lo hi offs, len)) (h1 : x.toInt < lo ∨ hi < x.toInt) (ht : (pc : Int) + dflt = (q : Int)) (k : pnWP M adK d Q bc bs h L st q) : pnWP M adK d Q bc bs h L (.int x :: st) pc := pn_pure k (fun n hc => hc.tail) (fun _ _ _ _ _ _ _ _ _ _ _ _ _ _ _ _ _ hx hb _ _ k9 => lv_tableOut hx hb hd h1 ht k9)
theorem pn_lookup {M : pnM} {adK : Nat → Nat} {d : Nat} {Q : pnR → List pnE → Prop} {bc bs : Nat} {h : List pnE} {L : List (Option Value)} {st : List Value} {pc q : Nat} {dflt : Int} {ps : Array (Int × Int)} {len : Nat} {x : Int32} {off : Int} (hd : decode M.2.1 pc = .ok (.lookupswitch dflt ps, len)) (hp : (ps.toList.zip (ps.toList.drop 1)).all (fun (a, next) => a.1 < next.1) = true) (ho : Op.lookupswitch.offset ps.toList dflt x.toInt = off) (ht : (pc : Int) + off = (q : Int)) (k : pnWP M adK d Q bc bs h L st q) : pnWP M adK d Q bc bs h L (.int x :: st) pc := pn_pure k (fun n hc => hc.tail) (fun _ _ _ _ _ _ _ _ _ _ _ _ _ _ _ _ _ hx hb _ _ k9 => lv_lookup hx hb hd hp ho ht k9)
/-- fewer locals known, another post, less room -/
def pnSub : List (Option Value) → List (Option Value) → Prop
  | [], _ => True
  | none :: t, [] => pnSub t []
  | some _ :: _, [] => False
  | none :: t, _ :: u => pnSub t u
  | some v :: t, b :: u => b = some v ∧ pnSub t u
theorem pnSub_get : ∀ {L' L : List (Option Value)}, pnSub L' L → ∀ i v, pnGet L' i = some v → pnGet L i = some v
  | [], L, _, i, v, e => by rw [pnGet_nil] at e; cases e
  | none :: t, [], h, 0, v, e => by cases e
  | none :: t, [], h, i + 1, v, e => by have := pnSub_get (L' := t) (L := []) h i v e; rw [pnGet_nil] at this; cases this
  | some _ :: _, [], h, _, _, _ => h.elim
  | none :: t, _ :: u, h, 0, v, e => by cases e
  | none :: t, _ :: u, h, i + 1, v, e => pnSub_get (L' := t) (L := u) h i v e
  | some x :: t, b :: u, h, 0, v, e => by cases e; exact h.1
  | some x :: t, b :: u, h, i + 1, v, e => pnSub_get (L' := t) (L := u) h.2 i v e
theorem pn_locs {M : pnM} {adK : Nat → Nat} {d : Nat} {Q : pnR → List pnE → Prop} {bc bs : Nat} {h : List pnE} {L L' : List (Option Value)} {st : List Value} {pc : Nat} (hs : pnSub L' L) (k : pnWP M adK d Q bc bs h L' st pc) : pnWP M adK d Q bc bs h L st pc := by
  intro p l e R s m args below meth c D τ A b0 adV mc ms n0 σ0 σ mv0 H locs cells slots ls ok w
  obtain ⟨w1, w2, w3, w4, w5, w6, w7, w8, w9, w10⟩ := w
  exact k p l e R s m args below meth c D τ A b0 adV mc ms n0 σ0 σ mv0 H locs cells slots ls ok ⟨w1, w2, w3, w4, w5, w6, fun i v e9 => w7 i v (pnSub_get hs i v e9), w8, w9.sub (pnSub_get hs) (fun _ _ _ => rfl), w10⟩
theorem pn_room {M : pnM} {adK : Nat → Nat} {d : Nat} {Q : pnR → List pnE → Prop} {bc bs bc' bs' : Nat} {h : List pnE} {L : List (Option Value)} {st : List Value} {pc : Nat} (h1 : bc' ≤ bc) (h2 : bs' ≤ bs) (k : pnWP M adK d Q bc' bs' h L st pc) : pnWP M adK d Q bc bs h L st pc := by
  intro p l e R s m args below meth c D τ A b0 adV mc ms n0 σ0 σ mv0 H locs cells slots ls ok w
  obtain ⟨w1, w2, w3, w4, w5, w6, w7, w8, w9, w10, w11⟩ := w
  exact k p l e R s m args below meth c D τ A b0 adV mc ms n0 σ0 σ mv0 H locs cells slots ls ok ⟨w1, w2, w3, w4, w5, w6, w7, w8, w9, by omega, by omega⟩
theorem pn_eq {M : pnM} {adK : Nat → Nat} {d : Nat} {Q : pnR → List pnE → Prop} {bc bs : Nat} {h h' : List pnE} {L : List (Option Value)} {st st' : List Value} {pc : Nat} (h1 : h = h') (h2 : st = st') (k : pnWP M adK d Q bc bs h' L st' pc) : pnWP M adK d Q bc bs h L st pc := by
  subst h1; subst h2; exact k
