/-! ===== what the start gives ===== -/
def R_law : String := "PartedNetLaw"
def lw_P (b : Addr) (xs : List Int32) (args : Array Value) (s : State) : Prop := args = #[.ref b] ∧ s.IntsAt b xs ∧ xs.length ≤ 3072 ∧ (Jvm.Cond.and given_1 narrow_1).before args s = true
def lw_Q (_ : Array Value) (s : State) (o : Outcome) (t : State) : Prop := o = .returned (some (.int 1)) ∧ Framed s o t [] 601024 7293034
def lw_Z (below : List Frame) (a : Array Value) (s : State) : State → Prop := fun t => ∃ o, t.status = .running ∧ Ended t below o ∧ lw_Q a s o t
def nrF : List Cond := flatC (Jvm.Cond.and given_1 narrow_1)
def nrB : List Nat := [41, 74, 83, 90, 98, 106, 115, 127, 135, 143, 151, 159, 167, 191, 219, 235, 257, 277, 303, 327, 343, 365, 383, 408, 430, 446, 456, 464, 473, 482, 492, 505, 514, 523, 532, 541]
def nrX : List Nat := [608, 657, 730, 735, 742, 743, 748, 749, 754, 755, 756, 765, 807, 818, 850, 873, 882, 918, 935, 951, 952, 1021, 1048, 1049, 1066, 1207, 1251, 1259, 1268, 1274, 1279, 1280, 1281, 1282, 1284, 1285]
abbrev nrV (x : String × Nat × String) : Term := .field (.string x.1 x.2.1) "java/lang/String" "value" "[B"
def nrW (x : String × Nat × String) : List Cond := Cond.exactly (.string x.1 x.2.1) "java/lang/String" :: Cond.eq (.field (.string x.1 x.2.1) "java/lang/String" "coder" "B") (.int 0) :: Cond.arrayOf (nrV x) .byte :: Cond.eq (.length (nrV x)) (.int (Int32.ofNat x.2.2.length)) :: (List.range x.2.2.length).map (fun j => Cond.eq (.elem (nrV x) (.int (Int32.ofNat j))) (.int (nI ((x.2.2.toList.getD j 'a').toNat))))
theorem nr_all : (pnStr.zip nrB).all (fun q => decide ((nrF.drop q.2).take (4 + q.1.2.2.length) = nrW q.1)) = true := by decide +kernel
theorem nr_ref : (pnStr.zip nrX).all (fun q => decide (lw_tbl[q.2]? = some (Cond.stringRef q.1.1 q.1.2.1 q.1.2.2))) = true := by decide +kernel
theorem nr_len : pnStr.all (fun x => decide (x.2.2.length < 1000)) = true := by decide +kernel
theorem nr_at {j : Nat} {x : String × Nat × String} {B : List Nat} (hl : pnStr.length = B.length) (h : pnStr[j]? = some x) : ∃ b, (x, b) ∈ pnStr.zip B := by
  have hj : j < pnStr.length := (List.getElem?_eq_some_iff.mp h).1
  have hb : B[j]? = some B[j] := List.getElem?_eq_getElem (by omega)
  exact ⟨B[j], List.mem_of_getElem? (List.getElem?_zip_eq_some.mpr ⟨h, hb⟩)⟩
theorem nr_in {j : Nat} {x : String × Nat × String} (h : pnStr[j]? = some x) : ∀ w ∈ nrW x, w ∈ nrF := fun w hw => by
  obtain ⟨b, hb⟩ := nr_at (B := nrB) (by decide) h
  have h1 := of_decide_eq_true (List.all_eq_true.mp nr_all _ hb)
  rw [← h1] at hw
  exact List.mem_of_mem_drop (List.mem_of_mem_take hw)
theorem nr_rf {j : Nat} {x : String × Nat × String} (h : pnStr[j]? = some x) : Cond.stringRef x.1 x.2.1 x.2.2 ∈ lw_tbl := by
  obtain ⟨b, hb⟩ := nr_at (B := nrX) (by decide) h
  exact List.mem_of_getElem? (of_decide_eq_true (List.all_eq_true.mp nr_ref _ hb))
/-- a string of the program, at the start -/
theorem nr_str {args : Array Value} {s : State} {A : Nat → Prop} (hts : ∀ w ∈ lw_tbl, w.before args s = true) (hgv : (Jvm.Cond.and given_1 narrow_1).before args s = true) (hA : ∀ a : Nat, a < s.heap.size → ¬ A a) {j : Nat} {x : String × Nat × String} (h : pnStr[j]? = some x) :
    ∃ q : Nat × Nat, vk_R x.1 x.2.1 x.2.2 q.1 s ∧ va_O "java/lang/String" q.1 A s s.heap ∧ va_OF "java/lang/String" "coder" "B" (.int 0) q.1 A s s.heap ∧ va_OF "java/lang/String" "value" "[B" (.ref q.2) q.1 A s s.heap ∧ va_T .byte q.2 x.2.2.length (fun i => .int (nI ((x.2.2.toList.getD i 'a').toNat))) A s s.heap := by
  have hs := flat_of_before _ hgv
  have hw : ∀ w ∈ nrW x, w.before args s = true := fun w hw => hs w (nr_in h w hw)
  have h1 := hw _ (List.mem_cons_self)
  have h2 := hw _ (List.mem_cons_of_mem _ List.mem_cons_self)
  have h3 := hw _ (List.mem_cons_of_mem _ (List.mem_cons_of_mem _ List.mem_cons_self))
  have h4 := hw _ (List.mem_cons_of_mem _ (List.mem_cons_of_mem _ (List.mem_cons_of_mem _ List.mem_cons_self)))
  have h5 : ∀ i, i < x.2.2.length → (Cond.eq (.elem (nrV x) (.int (Int32.ofNat i))) (.int (nI ((x.2.2.toList.getD i 'a').toNat)))).before args s = true := fun i hi => hw _ (List.mem_cons_of_mem _ (List.mem_cons_of_mem _ (List.mem_cons_of_mem _ (List.mem_cons_of_mem _ (List.mem_map.mpr ⟨i, List.mem_range.mpr hi, rfl⟩)))))
  have hl : x.2.2.length < 1000 := of_decide_eq_true (List.all_eq_true.mp nr_len x (List.mem_of_getElem? h))
  obtain ⟨a, c, cA, kA, q1, -⟩ := Cond.exactly_spec (args := args) (first := s) (o := none) (s := s) (idx := []) (t := .string x.1 x.2.1) (cls := "java/lang/String") h1
  obtain ⟨t, ht, hT⟩ := va_Tof (tm := nrV x) (ty := .byte) (N := x.2.2.length) (f := fun i => .int (nI ((x.2.2.toList.getD i 'a').toNat))) (A := A) (by omega) h3 (va_eqt h4) (fun i hi => va_eqt (h5 i hi)) hA
  exact ⟨(a, t), vk_R.of (hts _ (nr_rf h)) q1, va_Oof h1 q1 hA, vk_OFof q1 (va_eqt h2) hA, vk_OFof q1 ht hA, hT⟩
theorem nr_ad {args : Array Value} {s : State} {A : Nat → Prop} (hts : ∀ w ∈ lw_tbl, w.before args s = true) (hgv : (Jvm.Cond.and given_1 narrow_1).before args s = true) (hA : ∀ a : Nat, a < s.heap.size → ¬ A a) :
    ∃ ad : Nat → Nat × Nat, ∀ (j : Nat) (x : String × Nat × String), pnStr[j]? = some x → vk_R x.1 x.2.1 x.2.2 (ad j).1 s ∧ va_O "java/lang/String" (ad j).1 A s s.heap ∧ va_OF "java/lang/String" "coder" "B" (.int 0) (ad j).1 A s s.heap ∧ va_OF "java/lang/String" "value" "[B" (.ref (ad j).2) (ad j).1 A s s.heap ∧ va_T .byte (ad j).2 x.2.2.length (fun i => .int (nI ((x.2.2.toList.getD i 'a').toNat))) A s s.heap := by
  have h0 : ∀ j : Nat, ∃ q : Nat × Nat, ∀ x : String × Nat × String, pnStr[j]? = some x → vk_R x.1 x.2.1 x.2.2 q.1 s ∧ va_O "java/lang/String" q.1 A s s.heap ∧ va_OF "java/lang/String" "coder" "B" (.int 0) q.1 A s s.heap ∧ va_OF "java/lang/String" "value" "[B" (.ref q.2) q.1 A s s.heap ∧ va_T .byte q.2 x.2.2.length (fun i => .int (nI ((x.2.2.toList.getD i 'a').toNat))) A s s.heap := fun j => by
    cases hj : pnStr[j]? with
    | none => exact ⟨(0, 0), fun x e => by cases e⟩
    | some y =>
      obtain ⟨q, hq⟩ := nr_str hts hgv hA hj
      exact ⟨q, fun x e => by cases e; exact hq⟩
  obtain ⟨ad, had⟩ := Classical.axiomOfChoice h0
  exact ⟨ad, fun j x e => had j x e⟩
/-- the classes and the kinds of rows -/
theorem nr_row {args : Array Value} {s : State} {ty : FieldType} (h : (Cond.arrayClass ty).before args s = true) : ∃ c : ClassId, ArrOfT s c ty ∧ s.vm.findClass ("[" ++ ty.toString) = some c := by
  obtain ⟨c, k, comp, h1, h2, h3⟩ := Cond.arrayClass_spec h
  exact ⟨c, fun N z => ⟨(fun k h => by cases h), k, h2, comp, h3⟩, h1⟩
theorem nr_K {args : Array Value} {s : State} (hts : ∀ w ∈ pnG, w.before args s = true) (hN : ∀ w ∈ pnN, va_Nw w s) : ∃ (D : va_G) (τ : Nat → ClassId), va_K D vwCl (pnT τ) s := by
  have h0 : ∀ c : Nat, ∃ q : ClassId × (Nat → Nat), ∀ r : vw_C, vwCl[c]? = some r → u_Kn s r.1 r.2.1 r.2.2 q.1 q.2 := fun c => by
    have mk : ∀ {C : String} {T : u_T} {N : Nat}, (∀ w ∈ u_ws C T N, w ∈ pnG) → Cond.instantiable C N ∈ pnG → ∃ q : ClassId × (Nat → Nat), u_Kn s C T N q.1 q.2 := fun {C T N} h1 h2 => by
      obtain ⟨cC, iS, h⟩ := u_known hts h1 (hts _ h2)
      exact ⟨(cC, iS), h⟩
    match c with
    | 0 => obtain ⟨q, h⟩ := mk ow_X0 (pnG_in (by decide +kernel) rfl : Cond.instantiable RX0 3 ∈ pnG); exact ⟨q, fun r e => by cases e; exact h⟩
    | 1 => obtain ⟨q, h⟩ := mk ow_X1 (pnG_in (by decide +kernel) rfl : Cond.instantiable RX1 10 ∈ pnG); exact ⟨q, fun r e => by cases e; exact h⟩
    | 2 => obtain ⟨q, h⟩ := mk ow_X2 (pnG_in (by decide +kernel) rfl : Cond.instantiable RX2 9 ∈ pnG); exact ⟨q, fun r e => by cases e; exact h⟩
    | 3 => obtain ⟨q, h⟩ := mk ow_X3 (pnG_in (by decide +kernel) rfl : Cond.instantiable RX3 15 ∈ pnG); exact ⟨q, fun r e => by cases e; exact h⟩
    | 4 => obtain ⟨q, h⟩ := mk ow_X4 (pnG_in (by decide +kernel) rfl : Cond.instantiable RX4 3 ∈ pnG); exact ⟨q, fun r e => by cases e; exact h⟩
    | 5 => obtain ⟨q, h⟩ := mk ow_X5 (pnG_in (by decide +kernel) rfl : Cond.instantiable RX5 11 ∈ pnG); exact ⟨q, fun r e => by cases e; exact h⟩
    | 6 => obtain ⟨q, h⟩ := mk ow_X6 (pnG_in (by decide +kernel) rfl : Cond.instantiable RX6 11 ∈ pnG); exact ⟨q, fun r e => by cases e; exact h⟩
    | 7 => obtain ⟨q, h⟩ := mk ow_X7 (pnG_in (by decide +kernel) rfl : Cond.instantiable RX7 36 ∈ pnG); exact ⟨q, fun r e => by cases e; exact h⟩
    | k + 8 => exact ⟨(0, fun _ => 0), fun r e => by cases e⟩
  obtain ⟨q, hq⟩ := Classical.axiomOfChoice h0
  obtain ⟨cI, i1, i2⟩ := nr_row (hts _ (pnG_in (by decide +kernel) rfl : Cond.arrayClass .int ∈ pnG))
  obtain ⟨cL, l1, l2⟩ := nr_row (hts _ (pnG_in (by decide +kernel) rfl : Cond.arrayClass .long ∈ pnG))
  obtain ⟨cB, b1, b2⟩ := nr_row (hts _ (pnG_in (by decide +kernel) rfl : Cond.arrayClass .byte ∈ pnG))
  obtain ⟨cN, cQ, kQ, n1, -, n2, n3, n4⟩ := Cond.arrayOver_spec (hN _ pq_172)
  obtain ⟨cM, cR, kR, m1, -, m2, m3, m4⟩ := arrayOverA_spec (hN _ pq_1076)
  refine ⟨(fun c => (q c).1, fun c => (q c).2), fun k => match k with | 0 => cI | 1 => cL | 2 => cB | 3 => cQ | 4 => cR | _ => cL, fun c r e => hq c r e, fun k r e => ?_⟩
  match k, e with
  | 0, e => cases e; exact ⟨i1, i2⟩
  | 1, e => cases e; exact ⟨l1, l2⟩
  | 2, e => cases e; exact ⟨b1, b2⟩
  | 3, e => cases e; exact ⟨fun N z => ⟨(fun k h => by cases h), kQ, n2, cN, n3⟩, kQ, cN, n2, n3, n1, n4⟩
  | 4, e => cases e; exact ⟨fun N z => ⟨(fun k h => by cases h), kR, m2, cM, m3⟩, m4⟩
  | 5, e => cases e; exact ⟨l1, l2⟩
  | 6, e => cases e; exact ⟨l1, l2⟩
  | k + 7, e => cases e
theorem lw_noh {p : Program} {l : Launch} {S : Spec} {e : Env} {s s₁ : State} {m : MethodId} {args : Array Value} {below : List Frame} {meth : Method} {c : Code} (B : BodyLoose p l x S code maxLocals ret e s m args below meth c s₁) (h : (Jvm.Cond.code x code maxLocals ret).before args s = true) : c.exceptionTable.toList = [] := by
  obtain ⟨meth9, c9, h1, h2, -, -, -, -, h7, -⟩ := Cond.code_spec B.named h
  cases Option.some.inj (h1.symm.trans B.method)
  cases Option.some.inj (h2.symm.trans (Stand.of_body B).code)
  rw [Array.isEmpty_iff.mp h7]
/-- what holds at the law's entry -/
def lw_At (p : Program) (s : State) (m : MethodId) (meth : Method) (c : Code) (b L : Nat) (xs : Nat → Int32) : Prop :=
  p.tables.exec = Jvm.exec ∧ c.code = code ∧ meth.sig.returnType = ret ∧ c.maxLocals = 8 ∧ s.vm.findClass R_law = some m.cls ∧ (∀ w ∈ lw_tbl, w.before #[Value.ref b] s = true) ∧ va_X b L xs s s.heap ∧ b < s.heap.size ∧ meth.locks = false ∧ (Jvm.Cond.and given_1 narrow_1).before #[Value.ref b] s = true ∧ meth.name = x.name ∧ c.exceptionTable.toList = []
/-- all addresses and the script in one function -/
def nrAd (ad : Nat → Nat × Nat) (b L : Nat) (xs : Nat → Int32) : Nat → Nat := fun k => if k < 1000 then (ad k).1 else if k < 2000 then (ad (k - 1000)).2 else if k = 2000 then b else if k = 2001 then L else (xs (k - 3000)).toUInt32.toNat
theorem nI_u (x : Int32) : nI x.toUInt32.toNat = x := by
  apply Int32.toBitVec_inj.mp
  show BitVec.ofNat 32 x.toBitVec.toNat = x.toBitVec
  rw [BitVec.ofNat_toNat, BitVec.setWidth_eq]
theorem nrS_len {j : Nat} {x : String × Nat × String} (h : pnStr[j]? = some x) : j < 1000 := by
  have h1 : j < pnStr.length := (List.getElem?_eq_some_iff.mp h).1
  have h2 : pnStr.length = 36 := rfl
  omega
theorem whole_start {p : Program} {e : Env} {s : State} {m : MethodId} {below : List Frame} {meth : Method} {c : Code} (l : Launch) (hflags : l.flags = flags0) {b L : Nat} {xs : Nat → Int32} (hL : L ≤ 3072) (C0 : lw_At p s m meth c b L xs) : W p l e room_1 s m #[Value.ref b] below meth c s.heap [] 0 0 (lw_Z below #[Value.ref b] s) (entryFrame m ([Value.ref b] : List Value).toArray 8) := by
  obtain ⟨hx, hb, hr, hml, hown, hts, hX, hbl, hlk, hgv, hnm, htab⟩ := C0
  have hs := flat_of_before _ hgv
  have hA0 : ∀ a : Nat, a < s.heap.size → ¬ s.heap.size ≤ a := fun a h => Nat.not_le.mpr h
  obtain ⟨ad, had⟩ := nr_ad (A := fun q => s.heap.size ≤ q) hts hgv hA0
  have htG : ∀ w ∈ pnG, w.before #[Value.ref b] s = true := fun w hw => hts w (List.mem_filter.mp hw).1
  have htN : ∀ w ∈ pnN, va_Nw w s := fun w hw => by
    have h1 := hts w (List.mem_filter.mp hw).1
    have hi : pnIsN w = true := (List.mem_filter.mp hw).2
    cases w <;> first | exact va_Nw.of rfl h1 | exact h1 | cases hi
  obtain ⟨D, τ, hK⟩ := nr_K htG htN
  have hst : l.stackTraces = false := by
    unfold Launch.stackTraces
    rw [hflags]
    decide
  have hLow : pnLow (nrAd ad b L xs) (nrAd ad b L xs) s.heap.size s s.heap := by
    have z1 : nrAd ad b L xs 2000 = b := rfl
    have z2 : nrAd ad b L xs 2001 = L := rfl
    have z3 : (fun i => nI (nrAd ad b L xs (3000 + i))) = xs := by
      funext i
      unfold nrAd
      rw [if_neg (by omega), if_neg (by omega), if_neg (by omega), if_neg (by omega), Nat.add_sub_cancel_left, nI_u]
    refine ⟨fun j y hj => ?_, vx_Zqof (hts _ (by decide +kernel)) (hts _ (by decide +kernel)) (hs _ (by decide +kernel)) hA0, vx_Zqof (hts _ (by decide +kernel)) (hts _ (by decide +kernel)) (hs _ (by decide +kernel)) hA0, va_Zof (hts _ (by decide +kernel)) (hts _ (by decide +kernel)) (va_eqi (hs _ (by decide +kernel))) hA0, htN, va_Zqof (hts _ (by decide +kernel)) (hts _ (by decide +kernel)) (hs _ (by decide +kernel)) hA0, ?_, ?_, va_Nc.of (args := #[Value.ref b]) (hs _ (by decide +kernel)), va_Nc.of (args := #[Value.ref b]) (hs _ (by decide +kernel))⟩
    · have hj9 := nrS_len hj
      have e1 : nrAd ad b L xs j = (ad j).1 := by unfold nrAd; rw [if_pos hj9]
      have e2 : nrAd ad b L xs (j + 1000) = (ad j).2 := by unfold nrAd; rw [if_neg (by omega), if_pos (by omega), Nat.add_sub_cancel]
      rw [e1, e2]
      exact had j y hj
    · rw [z1, z2, z3]; exact hX
    · rw [z1]; exact Nat.not_le.mpr hbl
  have run := lw_start (adK := nrAd ad b L xs) (show nrAd ad b L xs 2001 ≤ 3072 from hL)
  rw [lg_entry_eq]
  have hl0 := lv_entry [Value.ref b] (n := 8) (Nat.le_of_ble_eq_true rfl)
  refine pn_Wm (Q1 := vx_MQ below (pnQc QL D τ (fun q => s.heap.size ≤ q) 0 id (fun _ => false)) (pnXC QL D τ (fun q => s.heap.size ≤ q) 0 id (fun _ => false)) _ s 601024 7293034 (fun q => s.heap.size ≤ q)) (fun t ht => ?_) (run p l e room_1 s m _ below meth c D τ (fun q => s.heap.size ≤ q) s.heap.size (nrAd ad b L xs) 601024 7293034 0 id id (fun _ => false) s.heap [] 0 0 _ ?_ ?_)
  · obtain ⟨o, b1, b2, b3⟩ := ht
    rcases b3 with ⟨⟨r, h', σ', ho, hq, -⟩, L9, ⟨f1, f2, f3⟩, f4⟩ | ⟨q, -, E, ce, L9, ⟨h', σ', hq, -⟩, -⟩
    · have hr9 : (Sum.inl r : pnR) = .inl (some (.int (nB true))) := hq
      cases hr9
      refine ⟨o, b1, b2, ho, f1, f2, f3.weaken (fun y hy hlt => absurd hlt (Nat.not_lt.mpr (f4 y hy))) (Nat.le_refl _) (Nat.le_refl _)⟩
    · have hr9 : (Sum.inr E : pnR) = .inl (some (.int (nB true))) := hq
      cases hr9
  · exact ⟨hx, hb, hr, hml, hown, htG, hlk, hnm, htab, hK, fun q h => h, fun q h => h, Nat.le_refl _, hLow, hst, by decide, by decide, rfl, rfl⟩
  · have e0 : ∀ (k : Nat) (q : Nat × va_E), (pnW τ id [])[k]? = some q → False := fun k q h => by
      obtain ⟨c, hc, -⟩ := pnW_of h
      simp at hc
    refine ⟨fun k q h => (e0 k q h).elim, ⟨fun i j p q h => (e0 i p h).elim, fun k q h => (e0 k q h).elim⟩, va_S.rf, Nat.le_refl _, fun k hk => absurd hk (Nat.not_lt_zero _), (fun k q h => by simp at h), ?_, fun v hv => (nomatch hv), ?_, ?_, ?_⟩
    · intro i v e9
      match i, e9 with
      | 0, e9 => cases e9; trivial
      | i + 1, e9 => rw [show pnGet [some (.retAddr (nrAd ad b L xs 2000))] (i + 1) = pnGet [] i from rfl, pnGet_nil] at e9; cases e9
    · refine pnLs.of hl0 (fun i v e9 => ?_)
      match i, e9 with
      | 0, e9 => cases e9; exact List.mem_cons_self
      | i + 1, e9 => rw [show pnGet [some (.retAddr (nrAd ad b L xs 2000))] (i + 1) = pnGet [] i from rfl, pnGet_nil] at e9; cases e9
    · decide
    · decide
set_option maxHeartbeats 4000000 in
theorem lw_walk (l : Launch) (hflags : l.flags = flags0) (b : Addr) (xs : List Int32) : MetFree l x (headSpec (Jvm.Cond.code x code maxLocals ret :: tables_1) room_1) (lw_P b xs) (fun _ _ _ _ _ => True) lw_Q := by
  refine MetFree.of_bodyS (code := code) (maxLocals := maxLocals) (ret := ret) (by decide) ?_ ?_
  · intro args s m h hn
    obtain ⟨meth, c, h1, h2, h3, h4, h5, h6, -, -⟩ := Cond.code_spec hn (atoms_spec (ws := Jvm.Cond.code x code maxLocals ret :: tables_1) h _ List.mem_cons_self)
    exact ⟨meth, c, h1, h2, h3, h4, h5, h6⟩
  · intro p e s m args below meth c s₁ B hml0 hP _
    obtain ⟨rfl, hx, hbd, hgv⟩ := hP
    obtain ⟨scr, harrAt, hlist, hof, hsmall⟩ := hx
    obtain ⟨hcb, hkn, -, -⟩ := State.arrayAt?_spec harrAt
    have hown : s.vm.findClass R_law = some m.cls := findClass_of_methodNamed B.named
    have hts0 : ∀ c ∈ (Jvm.Cond.code x code maxLocals ret :: tables_1), c.before #[Value.ref b] s = true := atoms_spec (ws := Jvm.Cond.code x code maxLocals ret :: tables_1) B.pre
    have hts : ∀ w ∈ lw_tbl, w.before #[Value.ref b] s = true := k2_hts_sels lw_privs (fun w hw => hts0 w (List.mem_cons_of_mem _ hw)) lw_privs_ok
    have hml : c.maxLocals = 8 := B.maxLocals_eq (hts0 _ List.mem_cons_self)
    have X₀ : Stand p l e room_1 s m #[Value.ref b] below meth c s₁ [] 0 0 := Stand.of_body B
    have hh0 : s₁.heap = s.heap := by rw [B.state]; rfl
    have hsz : scr.slots.size = xs.length := by rw [← Array.length_toList, hlist, List.length_map]
    have hval : ∀ j : Nat, j < xs.length → scr.slots[j]? = some (.int (xs.getD j 0)) := fun j hj => by
      rw [← Array.getElem?_toList, hlist]
      simp [hj]
    have hbl : b < s.heap.size := (Array.getElem?_eq_some_iff.mp hcb).1
    have hX : va_X b xs.length (fun j => xs.getD j 0) s s.heap := ⟨scr, hcb, hof, hkn, hsz, hval⟩
    have K : W p l e room_1 s m #[Value.ref b] below meth c s₁.heap [] 0 0 (lw_Z below #[Value.ref b] s) (entryFrame m ([Value.ref b] : List Value).toArray 8) := by
      rw [hh0]
      exact whole_start l hflags hbd ⟨B.exec, B.bytes, B.returns, hml, hown, hts, hX, hbl, B.notSynchronized, hgv, (name_of_methodNamed B.named B.method).1, lw_noh B (hts0 _ List.mem_cons_self)⟩
    obtain ⟨t, a1, o, b1, b2, b3⟩ := K s₁ rfl X₀
    exact ⟨t, o, a1, b1, b2, b3⟩
theorem lw_pre_spec {args : Array Value} {s : State} (h : (Jvm.Cond.and given_1 narrow_1).before args s = true) (hr : rest_1_c.before args s = true) : ∃ (b : Addr) (xs : List Int32), lw_P b xs args s := by
  have hs := flat_of_before _ h
  have hq := flat_of_before _ hr
  have hc : (Cond.count 1).before args s = true := hs _ (by decide +kernel)
  have harr : (Cond.arrayOf (.arg 0) .int).before args s = true := hs _ (by decide +kernel)
  have hle : (Cond.le (.length (.arg 0)) (.int 3072)).before args s = true := hs _ (by decide +kernel)
  have hlen : (Cond.isInt (.length (.arg 0))).before args s = true := hq _ (by decide +kernel)
  have hall : (Cond.all (.arg 0) (.isInt (.elem (.arg 0) (.index 0)))).before args s = true := hq _ (by decide +kernel)
  obtain ⟨b, xs, hb, hx⟩ := State.ints_of_pre rfl harr hlen hall
  have hsm : xs.length < 2 ^ 31 := hx.choose_spec.2.2.2
  have hev : (Term.length (.arg 0)).eval args s none [] s = some (.int xs.length.toInt32) := hx.length_eval hb
  have hv := Cond.le_ints hev (show (Term.int 3072).eval args s none [] s = some (.int 3072) from rfl)
  have hd : xs.length.toInt32 ≤ 3072 := by
    simpa [Cond.before, Cond.holds, hv] using hle
  have hN : xs.length ≤ 3072 := (Int32.ofNat_le_ofNat hsm (by decide)).mp (show Int32.ofNat xs.length ≤ Int32.ofNat 3072 from hd)
  exact ⟨b, xs, Cond.one_arg hc (show args[0]? = some (.ref b) from hb), hx, hN, h⟩
theorem lw_comes (l : Launch) (hflags : l.flags = flags0) : Comes l x (Jvm.Cond.code x code maxLocals ret :: tables_1) room_1 (fun tb e args s => Calls_1 tb e args s ∧ rest_1 tb e args s ∧ Pre_1 tb e args s)
    (fun _ _ args s o t => lw_Q args s o t) := by
  intro p e ha hc hk s m args below hf hfit hheap happ hpre
  obtain ⟨b, xs, hP⟩ := lw_pre_spec hpre.2.2 hpre.2.1
  obtain ⟨k, o, h1, h2, h3, hQ⟩ := lw_walk l hflags b xs p e ha hc hk s m args below hf ((Spec.applies_iff_loose hf).mp happ).1 hP trivial
  exact ⟨k, o, h1, h2, h3, hQ⟩
theorem lw_frame {s t : State} {o : Outcome} {args : Array Value} (h : Framed s o t [] 601024 7293034) :
    Framed s o t (fieldLocs frame_1_writes args s ++ arrayLocs frame_1_arrays args s ++ staticLocs frame_1_statics s) 601024 7293034 := h
theorem lw_limb (L : Cond) (hL : ∀ (args : Array Value) (s t : State), L.after args s (.returned (some (.int 1))) t = true) :
    ArmFor flags0 classFile x code maxLocals ret World_1 tables_1 room_1 Calls_1 rest_1 Pre_1
      (fun tb e a s o t => postC L tb e a s o t ∧ Framed s o t (fieldLocs frame_1_writes a s ++ arrayLocs frame_1_arrays a s ++ staticLocs frame_1_statics s) 601024 7293034) := by
  intro l hflags _ _ p e ha hc hk s m args below hf hfit hheap happ hpre
  obtain ⟨k, o, h1, h2, h3, rfl, hF⟩ := lw_comes l hflags p e ha hc hk s m args below hf hfit hheap happ hpre
  exact ⟨k, _, h1, h2, h3, hL args s _, lw_frame hF⟩
theorem i_vc : Claimed_1_1 ∧ Claimed_1_2 := ⟨lw_limb limb_1_1 (fun args s t => by simp [limb_1_1, Cond.after, Cond.holds, Cond.value]), lw_limb limb_1_2 (fun args s t => Cond.after_iff.mpr (by
  first | (rw [show limb_1_2 = Cond.eq .result (.int 1) from rfl, Cond.eq_ints (x := 1) (y := 1) rfl rfl]; simp; done) | (simp [limb_1_2, Cond.value, Term.eval]; done)))⟩

