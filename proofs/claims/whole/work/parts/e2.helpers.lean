/-! ===== the law's helpers ===== -/
theorem cst_13 : Cond.castable "java/lang/IllegalArgumentException" "java/lang/IllegalArgumentException" ∈ pnN := List.mem_filter.mpr ⟨List.mem_of_getElem? (i := 569) (by decide +kernel), rfl⟩
theorem cst_19 : Cond.castable "java/lang/IllegalStateException" "java/lang/IllegalStateException" ∈ pnN := List.mem_filter.mpr ⟨List.mem_of_getElem? (i := 811) (by decide +kernel), rfl⟩
theorem cst_24 : Cond.castable "java/util/NoSuchElementException" "java/util/NoSuchElementException" ∈ pnN := List.mem_filter.mpr ⟨List.mem_of_getElem? (i := 843) (by decide +kernel), rfl⟩
theorem pwL_559 : (Jvm.Cond.methodLink "PartedNetLaw" (80 : Nat) ({ cls := "PartedNetLaw", name := "text", desc := "(LPartedNet;I[J)I" } : Jvm.MethodName)) ∈ pnG := pnG_in (List.mem_of_getElem? (i := 559) (by decide +kernel)) rfl
theorem pwL_561 : (Jvm.Cond.codeWith ({ cls := "PartedNetLaw", name := "text", desc := "(LPartedNet;I[J)I" } : Jvm.MethodName) method_3_code (4 : Nat) (Option.some Jvm.ClassFile.FieldType.int) [((0 : Nat), (9 : Nat), (12 : Nat), (13 : Nat))]) ∈ pnG := pnG_in (List.mem_of_getElem? (i := 561) (by decide +kernel)) rfl
theorem pwL_560 : (Jvm.Cond.static ({ cls := "PartedNetLaw", name := "text", desc := "(LPartedNet;I[J)I" } : Jvm.MethodName)) ∈ pnG := pnG_in (List.mem_of_getElem? (i := 560) (by decide +kernel)) rfl
theorem lkH_text : pnLkSW RL 80 mL_text 3 := ⟨pw_77, pwL_561, List.cons_ne_nil _ _, ⟨by decide, by decide, by decide +kernel⟩, by decide, pwL_559, pwL_560⟩
theorem hn_text_0 : pnHan mL_text 4 "java/lang/IllegalArgumentException" 12 := ⟨[], [], ⟨0, 9, 12, 13⟩, _, rfl, fun z hz => (nomatch hz), by decide, by decide, pw_562, cst_13, rfl⟩
set_option maxRecDepth 100000 in
theorem hl_text {adK : Nat → Nat} {hX : List pnE} {o : Nat → Int64} {Qx : pnR → List pnE → Prop} {mx sx : Nat} (x1 : Int32) (hC : pnCt mX6_text adK 100 mx sx (.ref 0 :: [.int x1]) hX Qx) (wx : WX hX) (hq : ∀ r h', Qx r h' → WX h' ∧ ((∃ v, r = .inl (some v) ∧ okI v) ∨ ∃ E, r = .inr E ∧ (E = "java/lang/IllegalArgumentException"))) : pnMt mL_text adK 101 mx sx (.ref 0 :: ([.int x1] ++ [.ref 61])) (hX ++ [oW o]) (hlQ (cd1 "java/lang/IllegalArgumentException") Qx o wI) := by
  refine pnMt_of (List.cons_ne_nil _ _) (by decide) (Nat.le_of_ble_eq_true rfl) (hl_6 wx) (hl_cl wx) (hl_cs (av := [.int x1]) wx rfl) hl_no ?_
  refine pn_aload_n (q := 1) dL_text_0 rfl rfl rfl ?_
  refine pn_iconst (q := 2) (v := nI 0) dL_text_1 rfl (by decide) ?_
  refine pn_aload_n (q := 3) dL_text_2 rfl rfl rfl ?_
  refine pn_iload_n (q := 4) dL_text_3 rfl rfl ?_
  refine hl_call (av := [.int x1]) lkL_7 dL_text_4 rfl hC rfl wx rfl rfl rfl rfl (fun r h' hh => hl_fI (hq r h' hh)) (fun v h' hv w' => ?_) (fun E h' hv w' => ?_)
  · obtain ⟨x, rfl⟩ := hl_oI (hq _ _ hv)
    refine pn_i2l (q := 8) dL_text_7 rfl ?_
    refine hl_store (q := 9) w' dL_text_8 rfl ?_
    refine pn_goto (q := 15) dL_text_9 (by decide) ?_
    refine pn_iconst (q := 16) (v := nI 0) dL_text_15 rfl (by decide) ?_
    refine pn_iret dL_text_16 rfl ?_
    exact ⟨h', w', Or.inl ⟨_, hv, rfl, rfl⟩⟩
  · have hE := hl_e (hq _ _ hv)
    subst hE
    refine ⟨12, hn_text_0, fun q => ?_⟩
    refine pn_astore_n (q := 13) dL_text_12 rfl (by decide) rfl ?_
    refine pn_iconst (q := 14) (v := nI 1) dL_text_13 rfl (by decide) ?_
    refine pn_iret dL_text_14 rfl ?_
    exact ⟨h', w', Or.inr ⟨_, hv, by rw [cd1_s "java/lang/IllegalArgumentException"], rfl⟩⟩
theorem pwL_794 : (Jvm.Cond.methodLink "PartedNetLaw" (93 : Nat) ({ cls := "PartedNetLaw", name := "put", desc := "(LPartedNet;IIIII[J)I" } : Jvm.MethodName)) ∈ pnG := pnG_in (List.mem_of_getElem? (i := 794) (by decide +kernel)) rfl
theorem pwL_796 : (Jvm.Cond.codeWith ({ cls := "PartedNetLaw", name := "put", desc := "(LPartedNet;IIIII[J)I" } : Jvm.MethodName) method_4_code (8 : Nat) (Option.some Jvm.ClassFile.FieldType.int) [((0 : Nat), (16 : Nat), (19 : Nat), (13 : Nat)), ((0 : Nat), (16 : Nat), (23 : Nat), (19 : Nat))]) ∈ pnG := pnG_in (List.mem_of_getElem? (i := 796) (by decide +kernel)) rfl
theorem pwL_795 : (Jvm.Cond.static ({ cls := "PartedNetLaw", name := "put", desc := "(LPartedNet;IIIII[J)I" } : Jvm.MethodName)) ∈ pnG := pnG_in (List.mem_of_getElem? (i := 795) (by decide +kernel)) rfl
theorem lkH_put : pnLkSW RL 93 mL_put 7 := ⟨pw_77, pwL_796, List.cons_ne_nil _ _, ⟨by decide, by decide, by decide +kernel⟩, by decide, pwL_794, pwL_795⟩
theorem hn_put_0 : pnHan mL_put 11 "java/lang/IllegalArgumentException" 19 := ⟨[], [⟨0, 16, 23, 19⟩], ⟨0, 16, 19, 13⟩, _, rfl, fun z hz => (nomatch hz), by decide, by decide, pw_562, cst_13, rfl⟩
theorem hn_put_1 : pnHan mL_put 11 "java/lang/IllegalStateException" 23 := ⟨[⟨0, 16, 19, 13⟩], [], ⟨0, 16, 23, 19⟩, _, rfl, fun z hz => by rw [List.mem_singleton.mp hz]; exact ⟨by decide, _, pw_562, Or.inr ⟨rfl, rfl⟩⟩, by decide, by decide, pw_797, cst_19, rfl⟩
set_option maxRecDepth 100000 in
theorem hl_put {adK : Nat → Nat} {hX : List pnE} {o : Nat → Int64} {Qx : pnR → List pnE → Prop} {mx sx : Nat} (x1 x2 x3 x4 x5 : Int32) (hC : pnCt mX6_put adK 100 mx sx (.ref 0 :: [.int x1, .int x2, .int x3, .int x4, .int x5]) hX Qx) (wx : WX hX) (hq : ∀ r h', Qx r h' → WX h' ∧ ((∃ v, r = .inl (some v) ∧ okI v) ∨ ∃ E, r = .inr E ∧ (E = "java/lang/IllegalArgumentException" ∨ E = "java/lang/IllegalStateException"))) : pnMt mL_put adK 101 mx sx (.ref 0 :: ([.int x1, .int x2, .int x3, .int x4, .int x5] ++ [.ref 61])) (hX ++ [oW o]) (hlQ (cd2 "java/lang/IllegalArgumentException" "java/lang/IllegalStateException") Qx o wI) := by
  refine pnMt_of (List.cons_ne_nil _ _) (by decide) (Nat.le_of_ble_eq_true rfl) (hl_6 wx) (hl_cl wx) (hl_cs (av := [.int x1, .int x2, .int x3, .int x4, .int x5]) wx rfl) hl_no ?_
  refine pn_aload (q := 2) dL_put_0 rfl rfl rfl ?_
  refine pn_iconst (q := 3) (v := nI 0) dL_put_2 rfl (by decide) ?_
  refine pn_aload_n (q := 4) dL_put_3 rfl rfl rfl ?_
  refine pn_iload_n (q := 5) dL_put_4 rfl rfl ?_
  refine pn_iload_n (q := 6) dL_put_5 rfl rfl ?_
  refine pn_iload_n (q := 7) dL_put_6 rfl rfl ?_
  refine pn_iload (q := 9) dL_put_7 rfl rfl ?_
  refine pn_iload (q := 11) dL_put_9 rfl rfl ?_
  refine hl_call (av := [.int x1, .int x2, .int x3, .int x4, .int x5]) lkL_15 dL_put_11 rfl hC rfl wx rfl rfl rfl rfl (fun r h' hh => hl_fI (hq r h' hh)) (fun v h' hv w' => ?_) (fun E h' hv w' => ?_)
  · obtain ⟨x, rfl⟩ := hl_oI (hq _ _ hv)
    refine pn_i2l (q := 15) dL_put_14 rfl ?_
    refine hl_store (q := 16) w' dL_put_15 rfl ?_
    refine pn_goto (q := 27) dL_put_16 (by decide) ?_
    refine pn_iconst (q := 28) (v := nI 0) dL_put_27 rfl (by decide) ?_
    refine pn_iret dL_put_28 rfl ?_
    exact ⟨h', w', Or.inl ⟨_, hv, rfl, rfl⟩⟩
  · have hE := hl_e (hq _ _ hv)
    rcases hE with hE | hE
    · subst hE
      refine ⟨19, hn_put_0, fun q => ?_⟩
      refine pn_astore (q := 21) dL_put_19 rfl (by decide) rfl ?_
      refine pn_iconst (q := 22) (v := nI 1) dL_put_21 rfl (by decide) ?_
      refine pn_iret dL_put_22 rfl ?_
      exact ⟨h', w', Or.inr ⟨_, hv, by rw [cd2_a "java/lang/IllegalArgumentException" "java/lang/IllegalStateException"], rfl⟩⟩
    · subst hE
      refine ⟨23, hn_put_1, fun q => ?_⟩
      refine pn_astore (q := 25) dL_put_23 rfl (by decide) rfl ?_
      refine pn_iconst (q := 26) (v := nI 2) dL_put_25 rfl (by decide) ?_
      refine pn_iret dL_put_26 rfl ?_
      exact ⟨h', w', Or.inr ⟨_, hv, by rw [(show cd2 "java/lang/IllegalArgumentException" "java/lang/IllegalStateException" "java/lang/IllegalStateException" = 2 by decide +kernel)], rfl⟩⟩
theorem pwL_825 : (Jvm.Cond.methodLink "PartedNetLaw" (97 : Nat) ({ cls := "PartedNetLaw", name := "take", desc := "(LPartedNet;I[J)I" } : Jvm.MethodName)) ∈ pnG := pnG_in (List.mem_of_getElem? (i := 825) (by decide +kernel)) rfl
theorem pwL_827 : (Jvm.Cond.codeWith ({ cls := "PartedNetLaw", name := "take", desc := "(LPartedNet;I[J)I" } : Jvm.MethodName) method_5_code (4 : Nat) (Option.some Jvm.ClassFile.FieldType.int) [((0 : Nat), (9 : Nat), (12 : Nat), (24 : Nat))]) ∈ pnG := pnG_in (List.mem_of_getElem? (i := 827) (by decide +kernel)) rfl
theorem pwL_826 : (Jvm.Cond.static ({ cls := "PartedNetLaw", name := "take", desc := "(LPartedNet;I[J)I" } : Jvm.MethodName)) ∈ pnG := pnG_in (List.mem_of_getElem? (i := 826) (by decide +kernel)) rfl
theorem lkH_take : pnLkSW RL 97 mL_take 3 := ⟨pw_77, pwL_827, List.cons_ne_nil _ _, ⟨by decide, by decide, by decide +kernel⟩, by decide, pwL_825, pwL_826⟩
theorem hn_take_0 : pnHan mL_take 4 "java/util/NoSuchElementException" 12 := ⟨[], [], ⟨0, 9, 12, 24⟩, _, rfl, fun z hz => (nomatch hz), by decide, by decide, pw_828, cst_24, rfl⟩
set_option maxRecDepth 100000 in
theorem hl_take {adK : Nat → Nat} {hX : List pnE} {o : Nat → Int64} {Qx : pnR → List pnE → Prop} {mx sx : Nat} (x1 : Int32) (hC : pnCt mX6_take adK 100 mx sx (.ref 0 :: [.int x1]) hX Qx) (wx : WX hX) (hq : ∀ r h', Qx r h' → WX h' ∧ ((∃ v, r = .inl (some v) ∧ okI v) ∨ ∃ E, r = .inr E ∧ (E = "java/util/NoSuchElementException"))) : pnMt mL_take adK 101 mx sx (.ref 0 :: ([.int x1] ++ [.ref 61])) (hX ++ [oW o]) (hlQ (cd1 "java/util/NoSuchElementException") Qx o wI) := by
  refine pnMt_of (List.cons_ne_nil _ _) (by decide) (Nat.le_of_ble_eq_true rfl) (hl_6 wx) (hl_cl wx) (hl_cs (av := [.int x1]) wx rfl) hl_no ?_
  refine pn_aload_n (q := 1) dL_take_0 rfl rfl rfl ?_
  refine pn_iconst (q := 2) (v := nI 0) dL_take_1 rfl (by decide) ?_
  refine pn_aload_n (q := 3) dL_take_2 rfl rfl rfl ?_
  refine pn_iload_n (q := 4) dL_take_3 rfl rfl ?_
  refine hl_call (av := [.int x1]) lkL_21 dL_take_4 rfl hC rfl wx rfl rfl rfl rfl (fun r h' hh => hl_fI (hq r h' hh)) (fun v h' hv w' => ?_) (fun E h' hv w' => ?_)
  · obtain ⟨x, rfl⟩ := hl_oI (hq _ _ hv)
    refine pn_i2l (q := 8) dL_take_7 rfl ?_
    refine hl_store (q := 9) w' dL_take_8 rfl ?_
    refine pn_goto (q := 15) dL_take_9 (by decide) ?_
    refine pn_iconst (q := 16) (v := nI 0) dL_take_15 rfl (by decide) ?_
    refine pn_iret dL_take_16 rfl ?_
    exact ⟨h', w', Or.inl ⟨_, hv, rfl, rfl⟩⟩
  · have hE := hl_e (hq _ _ hv)
    subst hE
    refine ⟨12, hn_take_0, fun q => ?_⟩
    refine pn_astore_n (q := 13) dL_take_12 rfl (by decide) rfl ?_
    refine pn_iconst (q := 14) (v := nI 1) dL_take_13 rfl (by decide) ?_
    refine pn_iret dL_take_14 rfl ?_
    exact ⟨h', w', Or.inr ⟨_, hv, by rw [cd1_s "java/util/NoSuchElementException"], rfl⟩⟩
theorem pwL_862 : (Jvm.Cond.methodLink "PartedNetLaw" (100 : Nat) ({ cls := "PartedNetLaw", name := "exchange", desc := "(LPartedNet;III[J)I" } : Jvm.MethodName)) ∈ pnG := pnG_in (List.mem_of_getElem? (i := 862) (by decide +kernel)) rfl
theorem pwL_864 : (Jvm.Cond.codeWith ({ cls := "PartedNetLaw", name := "exchange", desc := "(LPartedNet;III[J)I" } : Jvm.MethodName) method_6_code (6 : Nat) (Option.some Jvm.ClassFile.FieldType.int) [((0 : Nat), (12 : Nat), (15 : Nat), (24 : Nat)), ((0 : Nat), (12 : Nat), (19 : Nat), (13 : Nat))]) ∈ pnG := pnG_in (List.mem_of_getElem? (i := 864) (by decide +kernel)) rfl
theorem pwL_863 : (Jvm.Cond.static ({ cls := "PartedNetLaw", name := "exchange", desc := "(LPartedNet;III[J)I" } : Jvm.MethodName)) ∈ pnG := pnG_in (List.mem_of_getElem? (i := 863) (by decide +kernel)) rfl
theorem lkH_exchange : pnLkSW RL 100 mL_exchange 5 := ⟨pw_77, pwL_864, List.cons_ne_nil _ _, ⟨by decide, by decide, by decide +kernel⟩, by decide, pwL_862, pwL_863⟩
theorem hn_exchange_0 : pnHan mL_exchange 7 "java/util/NoSuchElementException" 15 := ⟨[], [⟨0, 12, 19, 13⟩], ⟨0, 12, 15, 24⟩, _, rfl, fun z hz => (nomatch hz), by decide, by decide, pw_828, cst_24, rfl⟩
theorem hn_exchange_1 : pnHan mL_exchange 7 "java/lang/IllegalArgumentException" 19 := ⟨[⟨0, 12, 15, 24⟩], [], ⟨0, 12, 19, 13⟩, _, rfl, fun z hz => by rw [List.mem_singleton.mp hz]; exact ⟨by decide, _, pw_828, Or.inl ⟨rfl, rfl⟩⟩, by decide, by decide, pw_562, cst_13, rfl⟩
set_option maxRecDepth 100000 in
theorem hl_exchange {adK : Nat → Nat} {hX : List pnE} {o : Nat → Int64} {Qx : pnR → List pnE → Prop} {mx sx : Nat} (x1 x2 x3 : Int32) (hC : pnCt mX6_exchange adK 100 mx sx (.ref 0 :: [.int x1, .int x2, .int x3]) hX Qx) (wx : WX hX) (hq : ∀ r h', Qx r h' → WX h' ∧ ((∃ v, r = .inl (some v) ∧ okI v) ∨ ∃ E, r = .inr E ∧ (E = "java/util/NoSuchElementException" ∨ E = "java/lang/IllegalArgumentException"))) : pnMt mL_exchange adK 101 mx sx (.ref 0 :: ([.int x1, .int x2, .int x3] ++ [.ref 61])) (hX ++ [oW o]) (hlQ (cd2 "java/util/NoSuchElementException" "java/lang/IllegalArgumentException") Qx o wI) := by
  refine pnMt_of (List.cons_ne_nil _ _) (by decide) (Nat.le_of_ble_eq_true rfl) (hl_6 wx) (hl_cl wx) (hl_cs (av := [.int x1, .int x2, .int x3]) wx rfl) hl_no ?_
  refine pn_aload (q := 2) dL_exchange_0 rfl rfl rfl ?_
  refine pn_iconst (q := 3) (v := nI 0) dL_exchange_2 rfl (by decide) ?_
  refine pn_aload_n (q := 4) dL_exchange_3 rfl rfl rfl ?_
  refine pn_iload_n (q := 5) dL_exchange_4 rfl rfl ?_
  refine pn_iload_n (q := 6) dL_exchange_5 rfl rfl ?_
  refine pn_iload_n (q := 7) dL_exchange_6 rfl rfl ?_
  refine hl_call (av := [.int x1, .int x2, .int x3]) lkL_26 dL_exchange_7 rfl hC rfl wx rfl rfl rfl rfl (fun r h' hh => hl_fI (hq r h' hh)) (fun v h' hv w' => ?_) (fun E h' hv w' => ?_)
  · obtain ⟨x, rfl⟩ := hl_oI (hq _ _ hv)
    refine pn_i2l (q := 11) dL_exchange_10 rfl ?_
    refine hl_store (q := 12) w' dL_exchange_11 rfl ?_
    refine pn_goto (q := 23) dL_exchange_12 (by decide) ?_
    refine pn_iconst (q := 24) (v := nI 0) dL_exchange_23 rfl (by decide) ?_
    refine pn_iret dL_exchange_24 rfl ?_
    exact ⟨h', w', Or.inl ⟨_, hv, rfl, rfl⟩⟩
  · have hE := hl_e (hq _ _ hv)
    rcases hE with hE | hE
    · subst hE
      refine ⟨15, hn_exchange_0, fun q => ?_⟩
      refine pn_astore (q := 17) dL_exchange_15 rfl (by decide) rfl ?_
      refine pn_iconst (q := 18) (v := nI 1) dL_exchange_17 rfl (by decide) ?_
      refine pn_iret dL_exchange_18 rfl ?_
      exact ⟨h', w', Or.inr ⟨_, hv, by rw [cd2_a "java/util/NoSuchElementException" "java/lang/IllegalArgumentException"], rfl⟩⟩
    · subst hE
      refine ⟨19, hn_exchange_1, fun q => ?_⟩
      refine pn_astore (q := 21) dL_exchange_19 rfl (by decide) rfl ?_
      refine pn_iconst (q := 22) (v := nI 2) dL_exchange_21 rfl (by decide) ?_
      refine pn_iret dL_exchange_22 rfl ?_
      exact ⟨h', w', Or.inr ⟨_, hv, by rw [(show cd2 "java/util/NoSuchElementException" "java/lang/IllegalArgumentException" "java/lang/IllegalArgumentException" = 2 by decide +kernel)], rfl⟩⟩
theorem pwL_883 : (Jvm.Cond.methodLink "PartedNetLaw" (108 : Nat) ({ cls := "PartedNetLaw", name := "develop", desc := "(LPartedNet;[J)I" } : Jvm.MethodName)) ∈ pnG := pnG_in (List.mem_of_getElem? (i := 883) (by decide +kernel)) rfl
theorem pwL_885 : (Jvm.Cond.codeWith ({ cls := "PartedNetLaw", name := "develop", desc := "(LPartedNet;[J)I" } : Jvm.MethodName) method_7_code (3 : Nat) (Option.some Jvm.ClassFile.FieldType.int) [((0 : Nat), (8 : Nat), (11 : Nat), (19 : Nat))]) ∈ pnG := pnG_in (List.mem_of_getElem? (i := 885) (by decide +kernel)) rfl
theorem pwL_884 : (Jvm.Cond.static ({ cls := "PartedNetLaw", name := "develop", desc := "(LPartedNet;[J)I" } : Jvm.MethodName)) ∈ pnG := pnG_in (List.mem_of_getElem? (i := 884) (by decide +kernel)) rfl
theorem lkH_develop : pnLkSW RL 108 mL_develop 2 := ⟨pw_77, pwL_885, List.cons_ne_nil _ _, ⟨by decide, by decide, by decide +kernel⟩, by decide, pwL_883, pwL_884⟩
theorem hn_develop_0 : pnHan mL_develop 3 "java/lang/IllegalStateException" 11 := ⟨[], [], ⟨0, 8, 11, 19⟩, _, rfl, fun z hz => (nomatch hz), by decide, by decide, pw_797, cst_19, rfl⟩
set_option maxRecDepth 100000 in
theorem hl_develop {adK : Nat → Nat} {hX : List pnE} {o : Nat → Int64} {Qx : pnR → List pnE → Prop} {mx sx : Nat} (hC : pnCt mX6_develop adK 100 mx sx (.ref 0 :: []) hX Qx) (wx : WX hX) (hq : ∀ r h', Qx r h' → WX h' ∧ ((∃ v, r = .inl (some v) ∧ okI v) ∨ ∃ E, r = .inr E ∧ (E = "java/lang/IllegalStateException"))) : pnMt mL_develop adK 101 mx sx (.ref 0 :: ([] ++ [.ref 61])) (hX ++ [oW o]) (hlQ (cd1 "java/lang/IllegalStateException") Qx o wI) := by
  refine pnMt_of (List.cons_ne_nil _ _) (by decide) (Nat.le_of_ble_eq_true rfl) (hl_6 wx) (hl_cl wx) (hl_cs (av := []) wx rfl) hl_no ?_
  refine pn_aload_n (q := 1) dL_develop_0 rfl rfl rfl ?_
  refine pn_iconst (q := 2) (v := nI 0) dL_develop_1 rfl (by decide) ?_
  refine pn_aload_n (q := 3) dL_develop_2 rfl rfl rfl ?_
  refine hl_call (av := []) lkL_30 dL_develop_3 rfl hC rfl wx rfl rfl rfl rfl (fun r h' hh => hl_fI (hq r h' hh)) (fun v h' hv w' => ?_) (fun E h' hv w' => ?_)
  · obtain ⟨x, rfl⟩ := hl_oI (hq _ _ hv)
    refine pn_i2l (q := 7) dL_develop_6 rfl ?_
    refine hl_store (q := 8) w' dL_develop_7 rfl ?_
    refine pn_goto (q := 14) dL_develop_8 (by decide) ?_
    refine pn_iconst (q := 15) (v := nI 0) dL_develop_14 rfl (by decide) ?_
    refine pn_iret dL_develop_15 rfl ?_
    exact ⟨h', w', Or.inl ⟨_, hv, rfl, rfl⟩⟩
  · have hE := hl_e (hq _ _ hv)
    subst hE
    refine ⟨11, hn_develop_0, fun q => ?_⟩
    refine pn_astore_n (q := 12) dL_develop_11 rfl (by decide) rfl ?_
    refine pn_iconst (q := 13) (v := nI 1) dL_develop_12 rfl (by decide) ?_
    refine pn_iret dL_develop_13 rfl ?_
    exact ⟨h', w', Or.inr ⟨_, hv, by rw [cd1_s "java/lang/IllegalStateException"], rfl⟩⟩
theorem pwL_924 : (Jvm.Cond.methodLink "PartedNetLaw" (116 : Nat) ({ cls := "PartedNetLaw", name := "told", desc := "(LPartedNet;I[J)I" } : Jvm.MethodName)) ∈ pnG := pnG_in (List.mem_of_getElem? (i := 924) (by decide +kernel)) rfl
theorem pwL_926 : (Jvm.Cond.codeWith ({ cls := "PartedNetLaw", name := "told", desc := "(LPartedNet;I[J)I" } : Jvm.MethodName) method_8_code (4 : Nat) (Option.some Jvm.ClassFile.FieldType.int) [((0 : Nat), (9 : Nat), (12 : Nat), (13 : Nat))]) ∈ pnG := pnG_in (List.mem_of_getElem? (i := 926) (by decide +kernel)) rfl
theorem pwL_925 : (Jvm.Cond.static ({ cls := "PartedNetLaw", name := "told", desc := "(LPartedNet;I[J)I" } : Jvm.MethodName)) ∈ pnG := pnG_in (List.mem_of_getElem? (i := 925) (by decide +kernel)) rfl
theorem lkH_told : pnLkSW RL 116 mL_told 3 := ⟨pw_77, pwL_926, List.cons_ne_nil _ _, ⟨by decide, by decide, by decide +kernel⟩, by decide, pwL_924, pwL_925⟩
theorem hn_told_0 : pnHan mL_told 4 "java/lang/IllegalArgumentException" 12 := ⟨[], [], ⟨0, 9, 12, 13⟩, _, rfl, fun z hz => (nomatch hz), by decide, by decide, pw_562, cst_13, rfl⟩
set_option maxRecDepth 100000 in
theorem hl_told {adK : Nat → Nat} {hX : List pnE} {o : Nat → Int64} {Qx : pnR → List pnE → Prop} {mx sx : Nat} (x1 : Int32) (hC : pnCt mX6_told adK 100 mx sx (.ref 0 :: [.int x1]) hX Qx) (wx : WX hX) (hq : ∀ r h', Qx r h' → WX h' ∧ ((∃ v, r = .inl (some v) ∧ okI v) ∨ ∃ E, r = .inr E ∧ (E = "java/lang/IllegalArgumentException"))) : pnMt mL_told adK 101 mx sx (.ref 0 :: ([.int x1] ++ [.ref 61])) (hX ++ [oW o]) (hlQ (cd1 "java/lang/IllegalArgumentException") Qx o wI) := by
  refine pnMt_of (List.cons_ne_nil _ _) (by decide) (Nat.le_of_ble_eq_true rfl) (hl_6 wx) (hl_cl wx) (hl_cs (av := [.int x1]) wx rfl) hl_no ?_
  refine pn_aload_n (q := 1) dL_told_0 rfl rfl rfl ?_
  refine pn_iconst (q := 2) (v := nI 0) dL_told_1 rfl (by decide) ?_
  refine pn_aload_n (q := 3) dL_told_2 rfl rfl rfl ?_
  refine pn_iload_n (q := 4) dL_told_3 rfl rfl ?_
  refine hl_call (av := [.int x1]) lkL_34 dL_told_4 rfl hC rfl wx rfl rfl rfl rfl (fun r h' hh => hl_fI (hq r h' hh)) (fun v h' hv w' => ?_) (fun E h' hv w' => ?_)
  · obtain ⟨x, rfl⟩ := hl_oI (hq _ _ hv)
    refine pn_i2l (q := 8) dL_told_7 rfl ?_
    refine hl_store (q := 9) w' dL_told_8 rfl ?_
    refine pn_goto (q := 15) dL_told_9 (by decide) ?_
    refine pn_iconst (q := 16) (v := nI 0) dL_told_15 rfl (by decide) ?_
    refine pn_iret dL_told_16 rfl ?_
    exact ⟨h', w', Or.inl ⟨_, hv, rfl, rfl⟩⟩
  · have hE := hl_e (hq _ _ hv)
    subst hE
    refine ⟨12, hn_told_0, fun q => ?_⟩
    refine pn_astore_n (q := 13) dL_told_12 rfl (by decide) rfl ?_
    refine pn_iconst (q := 14) (v := nI 1) dL_told_13 rfl (by decide) ?_
    refine pn_iret dL_told_14 rfl ?_
    exact ⟨h', w', Or.inr ⟨_, hv, by rw [cd1_s "java/lang/IllegalArgumentException"], rfl⟩⟩
theorem pwL_936 : (Jvm.Cond.methodLink "PartedNetLaw" (119 : Nat) ({ cls := "PartedNetLaw", name := "line", desc := "(LPartedNet;III[J)I" } : Jvm.MethodName)) ∈ pnG := pnG_in (List.mem_of_getElem? (i := 936) (by decide +kernel)) rfl
theorem pwL_938 : (Jvm.Cond.codeWith ({ cls := "PartedNetLaw", name := "line", desc := "(LPartedNet;III[J)I" } : Jvm.MethodName) method_9_code (6 : Nat) (Option.some Jvm.ClassFile.FieldType.int) [((0 : Nat), (12 : Nat), (15 : Nat), (24 : Nat)), ((0 : Nat), (12 : Nat), (19 : Nat), (13 : Nat))]) ∈ pnG := pnG_in (List.mem_of_getElem? (i := 938) (by decide +kernel)) rfl
theorem pwL_937 : (Jvm.Cond.static ({ cls := "PartedNetLaw", name := "line", desc := "(LPartedNet;III[J)I" } : Jvm.MethodName)) ∈ pnG := pnG_in (List.mem_of_getElem? (i := 937) (by decide +kernel)) rfl
theorem lkH_line : pnLkSW RL 119 mL_line 5 := ⟨pw_77, pwL_938, List.cons_ne_nil _ _, ⟨by decide, by decide, by decide +kernel⟩, by decide, pwL_936, pwL_937⟩
theorem hn_line_0 : pnHan mL_line 7 "java/util/NoSuchElementException" 15 := ⟨[], [⟨0, 12, 19, 13⟩], ⟨0, 12, 15, 24⟩, _, rfl, fun z hz => (nomatch hz), by decide, by decide, pw_828, cst_24, rfl⟩
theorem hn_line_1 : pnHan mL_line 7 "java/lang/IllegalArgumentException" 19 := ⟨[⟨0, 12, 15, 24⟩], [], ⟨0, 12, 19, 13⟩, _, rfl, fun z hz => by rw [List.mem_singleton.mp hz]; exact ⟨by decide, _, pw_828, Or.inl ⟨rfl, rfl⟩⟩, by decide, by decide, pw_562, cst_13, rfl⟩
set_option maxRecDepth 100000 in
theorem hl_line {adK : Nat → Nat} {hX : List pnE} {o : Nat → Int64} {Qx : pnR → List pnE → Prop} {mx sx : Nat} (x1 x2 x3 : Int32) (hC : pnCt mX6_line adK 100 mx sx (.ref 0 :: [.int x1, .int x2, .int x3]) hX Qx) (wx : WX hX) (hq : ∀ r h', Qx r h' → WX h' ∧ ((∃ v, r = .inl (some v) ∧ okI v) ∨ ∃ E, r = .inr E ∧ (E = "java/util/NoSuchElementException" ∨ E = "java/lang/IllegalArgumentException"))) : pnMt mL_line adK 101 mx sx (.ref 0 :: ([.int x1, .int x2, .int x3] ++ [.ref 61])) (hX ++ [oW o]) (hlQ (cd2 "java/util/NoSuchElementException" "java/lang/IllegalArgumentException") Qx o wI) := by
  refine pnMt_of (List.cons_ne_nil _ _) (by decide) (Nat.le_of_ble_eq_true rfl) (hl_6 wx) (hl_cl wx) (hl_cs (av := [.int x1, .int x2, .int x3]) wx rfl) hl_no ?_
  refine pn_aload (q := 2) dL_line_0 rfl rfl rfl ?_
  refine pn_iconst (q := 3) (v := nI 0) dL_line_2 rfl (by decide) ?_
  refine pn_aload_n (q := 4) dL_line_3 rfl rfl rfl ?_
  refine pn_iload_n (q := 5) dL_line_4 rfl rfl ?_
  refine pn_iload_n (q := 6) dL_line_5 rfl rfl ?_
  refine pn_iload_n (q := 7) dL_line_6 rfl rfl ?_
  refine hl_call (av := [.int x1, .int x2, .int x3]) lkL_37 dL_line_7 rfl hC rfl wx rfl rfl rfl rfl (fun r h' hh => hl_fI (hq r h' hh)) (fun v h' hv w' => ?_) (fun E h' hv w' => ?_)
  · obtain ⟨x, rfl⟩ := hl_oI (hq _ _ hv)
    refine pn_i2l (q := 11) dL_line_10 rfl ?_
    refine hl_store (q := 12) w' dL_line_11 rfl ?_
    refine pn_goto (q := 23) dL_line_12 (by decide) ?_
    refine pn_iconst (q := 24) (v := nI 0) dL_line_23 rfl (by decide) ?_
    refine pn_iret dL_line_24 rfl ?_
    exact ⟨h', w', Or.inl ⟨_, hv, rfl, rfl⟩⟩
  · have hE := hl_e (hq _ _ hv)
    rcases hE with hE | hE
    · subst hE
      refine ⟨15, hn_line_0, fun q => ?_⟩
      refine pn_astore (q := 17) dL_line_15 rfl (by decide) rfl ?_
      refine pn_iconst (q := 18) (v := nI 1) dL_line_17 rfl (by decide) ?_
      refine pn_iret dL_line_18 rfl ?_
      exact ⟨h', w', Or.inr ⟨_, hv, by rw [cd2_a "java/util/NoSuchElementException" "java/lang/IllegalArgumentException"], rfl⟩⟩
    · subst hE
      refine ⟨19, hn_line_1, fun q => ?_⟩
      refine pn_astore (q := 21) dL_line_19 rfl (by decide) rfl ?_
      refine pn_iconst (q := 22) (v := nI 2) dL_line_21 rfl (by decide) ?_
      refine pn_iret dL_line_22 rfl ?_
      exact ⟨h', w', Or.inr ⟨_, hv, by rw [(show cd2 "java/util/NoSuchElementException" "java/lang/IllegalArgumentException" "java/lang/IllegalArgumentException" = 2 by decide +kernel)], rfl⟩⟩
theorem pwL_958 : (Jvm.Cond.methodLink "PartedNetLaw" (122 : Nat) ({ cls := "PartedNetLaw", name := "node", desc := "(LPartedNet;II[J)I" } : Jvm.MethodName)) ∈ pnG := pnG_in (List.mem_of_getElem? (i := 958) (by decide +kernel)) rfl
theorem pwL_960 : (Jvm.Cond.codeWith ({ cls := "PartedNetLaw", name := "node", desc := "(LPartedNet;II[J)I" } : Jvm.MethodName) method_10_code (5 : Nat) (Option.some Jvm.ClassFile.FieldType.int) [((0 : Nat), (10 : Nat), (13 : Nat), (24 : Nat)), ((0 : Nat), (10 : Nat), (17 : Nat), (13 : Nat))]) ∈ pnG := pnG_in (List.mem_of_getElem? (i := 960) (by decide +kernel)) rfl
theorem pwL_959 : (Jvm.Cond.static ({ cls := "PartedNetLaw", name := "node", desc := "(LPartedNet;II[J)I" } : Jvm.MethodName)) ∈ pnG := pnG_in (List.mem_of_getElem? (i := 959) (by decide +kernel)) rfl
theorem lkH_node : pnLkSW RL 122 mL_node 4 := ⟨pw_77, pwL_960, List.cons_ne_nil _ _, ⟨by decide, by decide, by decide +kernel⟩, by decide, pwL_958, pwL_959⟩
theorem hn_node_0 : pnHan mL_node 5 "java/util/NoSuchElementException" 13 := ⟨[], [⟨0, 10, 17, 13⟩], ⟨0, 10, 13, 24⟩, _, rfl, fun z hz => (nomatch hz), by decide, by decide, pw_828, cst_24, rfl⟩
theorem hn_node_1 : pnHan mL_node 5 "java/lang/IllegalArgumentException" 17 := ⟨[⟨0, 10, 13, 24⟩], [], ⟨0, 10, 17, 13⟩, _, rfl, fun z hz => by rw [List.mem_singleton.mp hz]; exact ⟨by decide, _, pw_828, Or.inl ⟨rfl, rfl⟩⟩, by decide, by decide, pw_562, cst_13, rfl⟩
set_option maxRecDepth 100000 in
theorem hl_node {adK : Nat → Nat} {hX : List pnE} {o : Nat → Int64} {Qx : pnR → List pnE → Prop} {mx sx : Nat} (x1 x2 : Int32) (hC : pnCt mX6_node adK 100 mx sx (.ref 0 :: [.int x1, .int x2]) hX Qx) (wx : WX hX) (hq : ∀ r h', Qx r h' → WX h' ∧ ((∃ v, r = .inl (some v) ∧ okI v) ∨ ∃ E, r = .inr E ∧ (E = "java/util/NoSuchElementException" ∨ E = "java/lang/IllegalArgumentException"))) : pnMt mL_node adK 101 mx sx (.ref 0 :: ([.int x1, .int x2] ++ [.ref 61])) (hX ++ [oW o]) (hlQ (cd2 "java/util/NoSuchElementException" "java/lang/IllegalArgumentException") Qx o wI) := by
  refine pnMt_of (List.cons_ne_nil _ _) (by decide) (Nat.le_of_ble_eq_true rfl) (hl_6 wx) (hl_cl wx) (hl_cs (av := [.int x1, .int x2]) wx rfl) hl_no ?_
  refine pn_aload_n (q := 1) dL_node_0 rfl rfl rfl ?_
  refine pn_iconst (q := 2) (v := nI 0) dL_node_1 rfl (by decide) ?_
  refine pn_aload_n (q := 3) dL_node_2 rfl rfl rfl ?_
  refine pn_iload_n (q := 4) dL_node_3 rfl rfl ?_
  refine pn_iload_n (q := 5) dL_node_4 rfl rfl ?_
  refine hl_call (av := [.int x1, .int x2]) lkL_40 dL_node_5 rfl hC rfl wx rfl rfl rfl rfl (fun r h' hh => hl_fI (hq r h' hh)) (fun v h' hv w' => ?_) (fun E h' hv w' => ?_)
  · obtain ⟨x, rfl⟩ := hl_oI (hq _ _ hv)
    refine pn_i2l (q := 9) dL_node_8 rfl ?_
    refine hl_store (q := 10) w' dL_node_9 rfl ?_
    refine pn_goto (q := 21) dL_node_10 (by decide) ?_
    refine pn_iconst (q := 22) (v := nI 0) dL_node_21 rfl (by decide) ?_
    refine pn_iret dL_node_22 rfl ?_
    exact ⟨h', w', Or.inl ⟨_, hv, rfl, rfl⟩⟩
  · have hE := hl_e (hq _ _ hv)
    rcases hE with hE | hE
    · subst hE
      refine ⟨13, hn_node_0, fun q => ?_⟩
      refine pn_astore (q := 15) dL_node_13 rfl (by decide) rfl ?_
      refine pn_iconst (q := 16) (v := nI 1) dL_node_15 rfl (by decide) ?_
      refine pn_iret dL_node_16 rfl ?_
      exact ⟨h', w', Or.inr ⟨_, hv, by rw [cd2_a "java/util/NoSuchElementException" "java/lang/IllegalArgumentException"], rfl⟩⟩
    · subst hE
      refine ⟨17, hn_node_1, fun q => ?_⟩
      refine pn_astore (q := 19) dL_node_17 rfl (by decide) rfl ?_
      refine pn_iconst (q := 20) (v := nI 2) dL_node_19 rfl (by decide) ?_
      refine pn_iret dL_node_20 rfl ?_
      exact ⟨h', w', Or.inr ⟨_, hv, by rw [(show cd2 "java/util/NoSuchElementException" "java/lang/IllegalArgumentException" "java/lang/IllegalArgumentException" = 2 by decide +kernel)], rfl⟩⟩
theorem pwL_970 : (Jvm.Cond.methodLink "PartedNetLaw" (126 : Nat) ({ cls := "PartedNetLaw", name := "part", desc := "(LPartedNet;II[J)I" } : Jvm.MethodName)) ∈ pnG := pnG_in (List.mem_of_getElem? (i := 970) (by decide +kernel)) rfl
theorem pwL_972 : (Jvm.Cond.codeWith ({ cls := "PartedNetLaw", name := "part", desc := "(LPartedNet;II[J)I" } : Jvm.MethodName) method_11_code (5 : Nat) (Option.some Jvm.ClassFile.FieldType.int) [((0 : Nat), (10 : Nat), (13 : Nat), (24 : Nat))]) ∈ pnG := pnG_in (List.mem_of_getElem? (i := 972) (by decide +kernel)) rfl
theorem pwL_971 : (Jvm.Cond.static ({ cls := "PartedNetLaw", name := "part", desc := "(LPartedNet;II[J)I" } : Jvm.MethodName)) ∈ pnG := pnG_in (List.mem_of_getElem? (i := 971) (by decide +kernel)) rfl
theorem lkH_part : pnLkSW RL 126 mL_part 4 := ⟨pw_77, pwL_972, List.cons_ne_nil _ _, ⟨by decide, by decide, by decide +kernel⟩, by decide, pwL_970, pwL_971⟩
theorem hn_part_0 : pnHan mL_part 5 "java/util/NoSuchElementException" 13 := ⟨[], [], ⟨0, 10, 13, 24⟩, _, rfl, fun z hz => (nomatch hz), by decide, by decide, pw_828, cst_24, rfl⟩
set_option maxRecDepth 100000 in
theorem hl_part {adK : Nat → Nat} {hX : List pnE} {o : Nat → Int64} {Qx : pnR → List pnE → Prop} {mx sx : Nat} (x1 x2 : Int32) (hC : pnCt mX6_part adK 100 mx sx (.ref 0 :: [.int x1, .int x2]) hX Qx) (wx : WX hX) (hq : ∀ r h', Qx r h' → WX h' ∧ ((∃ v, r = .inl (some v) ∧ okI v) ∨ ∃ E, r = .inr E ∧ (E = "java/util/NoSuchElementException"))) : pnMt mL_part adK 101 mx sx (.ref 0 :: ([.int x1, .int x2] ++ [.ref 61])) (hX ++ [oW o]) (hlQ (cd1 "java/util/NoSuchElementException") Qx o wI) := by
  refine pnMt_of (List.cons_ne_nil _ _) (by decide) (Nat.le_of_ble_eq_true rfl) (hl_6 wx) (hl_cl wx) (hl_cs (av := [.int x1, .int x2]) wx rfl) hl_no ?_
  refine pn_aload_n (q := 1) dL_part_0 rfl rfl rfl ?_
  refine pn_iconst (q := 2) (v := nI 0) dL_part_1 rfl (by decide) ?_
  refine pn_aload_n (q := 3) dL_part_2 rfl rfl rfl ?_
  refine pn_iload_n (q := 4) dL_part_3 rfl rfl ?_
  refine pn_iload_n (q := 5) dL_part_4 rfl rfl ?_
  refine hl_call (av := [.int x1, .int x2]) lkL_44 dL_part_5 rfl hC rfl wx rfl rfl rfl rfl (fun r h' hh => hl_fI (hq r h' hh)) (fun v h' hv w' => ?_) (fun E h' hv w' => ?_)
  · obtain ⟨x, rfl⟩ := hl_oI (hq _ _ hv)
    refine pn_i2l (q := 9) dL_part_8 rfl ?_
    refine hl_store (q := 10) w' dL_part_9 rfl ?_
    refine pn_goto (q := 17) dL_part_10 (by decide) ?_
    refine pn_iconst (q := 18) (v := nI 0) dL_part_17 rfl (by decide) ?_
    refine pn_iret dL_part_18 rfl ?_
    exact ⟨h', w', Or.inl ⟨_, hv, rfl, rfl⟩⟩
  · have hE := hl_e (hq _ _ hv)
    subst hE
    refine ⟨13, hn_part_0, fun q => ?_⟩
    refine pn_astore (q := 15) dL_part_13 rfl (by decide) rfl ?_
    refine pn_iconst (q := 16) (v := nI 1) dL_part_15 rfl (by decide) ?_
    refine pn_iret dL_part_16 rfl ?_
    exact ⟨h', w', Or.inr ⟨_, hv, by rw [cd1_s "java/util/NoSuchElementException"], rfl⟩⟩
theorem pwL_978 : (Jvm.Cond.methodLink "PartedNetLaw" (134 : Nat) ({ cls := "PartedNetLaw", name := "parts", desc := "(LPartedNet;I[J)I" } : Jvm.MethodName)) ∈ pnG := pnG_in (List.mem_of_getElem? (i := 978) (by decide +kernel)) rfl
theorem pwL_980 : (Jvm.Cond.codeWith ({ cls := "PartedNetLaw", name := "parts", desc := "(LPartedNet;I[J)I" } : Jvm.MethodName) method_12_code (4 : Nat) (Option.some Jvm.ClassFile.FieldType.int) [((0 : Nat), (9 : Nat), (12 : Nat), (13 : Nat))]) ∈ pnG := pnG_in (List.mem_of_getElem? (i := 980) (by decide +kernel)) rfl
theorem pwL_979 : (Jvm.Cond.static ({ cls := "PartedNetLaw", name := "parts", desc := "(LPartedNet;I[J)I" } : Jvm.MethodName)) ∈ pnG := pnG_in (List.mem_of_getElem? (i := 979) (by decide +kernel)) rfl
theorem lkH_parts : pnLkSW RL 134 mL_parts 3 := ⟨pw_77, pwL_980, List.cons_ne_nil _ _, ⟨by decide, by decide, by decide +kernel⟩, by decide, pwL_978, pwL_979⟩
theorem hn_parts_0 : pnHan mL_parts 4 "java/lang/IllegalArgumentException" 12 := ⟨[], [], ⟨0, 9, 12, 13⟩, _, rfl, fun z hz => (nomatch hz), by decide, by decide, pw_562, cst_13, rfl⟩
set_option maxRecDepth 100000 in
theorem hl_parts {adK : Nat → Nat} {hX : List pnE} {o : Nat → Int64} {Qx : pnR → List pnE → Prop} {mx sx : Nat} (x1 : Int32) (hC : pnCt mX6_parts adK 100 mx sx (.ref 0 :: [.int x1]) hX Qx) (wx : WX hX) (hq : ∀ r h', Qx r h' → WX h' ∧ ((∃ v, r = .inl (some v) ∧ okI v) ∨ ∃ E, r = .inr E ∧ (E = "java/lang/IllegalArgumentException"))) : pnMt mL_parts adK 101 mx sx (.ref 0 :: ([.int x1] ++ [.ref 61])) (hX ++ [oW o]) (hlQ (cd1 "java/lang/IllegalArgumentException") Qx o wI) := by
  refine pnMt_of (List.cons_ne_nil _ _) (by decide) (Nat.le_of_ble_eq_true rfl) (hl_6 wx) (hl_cl wx) (hl_cs (av := [.int x1]) wx rfl) hl_no ?_
  refine pn_aload_n (q := 1) dL_parts_0 rfl rfl rfl ?_
  refine pn_iconst (q := 2) (v := nI 0) dL_parts_1 rfl (by decide) ?_
  refine pn_aload_n (q := 3) dL_parts_2 rfl rfl rfl ?_
  refine pn_iload_n (q := 4) dL_parts_3 rfl rfl ?_
  refine hl_call (av := [.int x1]) lkL_47 dL_parts_4 rfl hC rfl wx rfl rfl rfl rfl (fun r h' hh => hl_fI (hq r h' hh)) (fun v h' hv w' => ?_) (fun E h' hv w' => ?_)
  · obtain ⟨x, rfl⟩ := hl_oI (hq _ _ hv)
    refine pn_i2l (q := 8) dL_parts_7 rfl ?_
    refine hl_store (q := 9) w' dL_parts_8 rfl ?_
    refine pn_goto (q := 15) dL_parts_9 (by decide) ?_
    refine pn_iconst (q := 16) (v := nI 0) dL_parts_15 rfl (by decide) ?_
    refine pn_iret dL_parts_16 rfl ?_
    exact ⟨h', w', Or.inl ⟨_, hv, rfl, rfl⟩⟩
  · have hE := hl_e (hq _ _ hv)
    subst hE
    refine ⟨12, hn_parts_0, fun q => ?_⟩
    refine pn_astore_n (q := 13) dL_parts_12 rfl (by decide) rfl ?_
    refine pn_iconst (q := 14) (v := nI 1) dL_parts_13 rfl (by decide) ?_
    refine pn_iret dL_parts_14 rfl ?_
    exact ⟨h', w', Or.inr ⟨_, hv, by rw [cd1_s "java/lang/IllegalArgumentException"], rfl⟩⟩
theorem pwL_989 : (Jvm.Cond.methodLink "PartedNetLaw" (137 : Nat) ({ cls := "PartedNetLaw", name := "partAt", desc := "(LPartedNet;I[J)I" } : Jvm.MethodName)) ∈ pnG := pnG_in (List.mem_of_getElem? (i := 989) (by decide +kernel)) rfl
theorem pwL_991 : (Jvm.Cond.codeWith ({ cls := "PartedNetLaw", name := "partAt", desc := "(LPartedNet;I[J)I" } : Jvm.MethodName) method_13_code (4 : Nat) (Option.some Jvm.ClassFile.FieldType.int) [((0 : Nat), (8 : Nat), (11 : Nat), (24 : Nat))]) ∈ pnG := pnG_in (List.mem_of_getElem? (i := 991) (by decide +kernel)) rfl
theorem pwL_990 : (Jvm.Cond.static ({ cls := "PartedNetLaw", name := "partAt", desc := "(LPartedNet;I[J)I" } : Jvm.MethodName)) ∈ pnG := pnG_in (List.mem_of_getElem? (i := 990) (by decide +kernel)) rfl
theorem lkH_partAt : pnLkSW RL 137 mL_partAt 3 := ⟨pw_77, pwL_991, List.cons_ne_nil _ _, ⟨by decide, by decide, by decide +kernel⟩, by decide, pwL_989, pwL_990⟩
theorem hn_partAt_0 : pnHan mL_partAt 4 "java/util/NoSuchElementException" 11 := ⟨[], [], ⟨0, 8, 11, 24⟩, _, rfl, fun z hz => (nomatch hz), by decide, by decide, pw_828, cst_24, rfl⟩
set_option maxRecDepth 100000 in
theorem hl_partAt {adK : Nat → Nat} {hX : List pnE} {o : Nat → Int64} {Qx : pnR → List pnE → Prop} {mx sx : Nat} (x1 : Int32) (hC : pnCt mX6_partAt adK 100 mx sx (.ref 0 :: [.int x1]) hX Qx) (wx : WX hX) (hq : ∀ r h', Qx r h' → WX h' ∧ ((∃ v, r = .inl (some v) ∧ okL v) ∨ ∃ E, r = .inr E ∧ (E = "java/util/NoSuchElementException"))) : pnMt mL_partAt adK 101 mx sx (.ref 0 :: ([.int x1] ++ [.ref 61])) (hX ++ [oW o]) (hlQ (cd1 "java/util/NoSuchElementException") Qx o wI) := by
  refine pnMt_of (List.cons_ne_nil _ _) (by decide) (Nat.le_of_ble_eq_true rfl) (hl_6 wx) (hl_cl wx) (hl_cs (av := [.int x1]) wx rfl) hl_no ?_
  refine pn_aload_n (q := 1) dL_partAt_0 rfl rfl rfl ?_
  refine pn_iconst (q := 2) (v := nI 0) dL_partAt_1 rfl (by decide) ?_
  refine pn_aload_n (q := 3) dL_partAt_2 rfl rfl rfl ?_
  refine pn_iload_n (q := 4) dL_partAt_3 rfl rfl ?_
  refine hl_call (av := [.int x1]) lkL_50 dL_partAt_4 rfl hC rfl wx rfl rfl rfl rfl (fun r h' hh => hl_fL (hq r h' hh)) (fun v h' hv w' => ?_) (fun E h' hv w' => ?_)
  · obtain ⟨x, rfl⟩ := hl_oL (hq _ _ hv)
    refine hl_store (q := 8) w' dL_partAt_7 rfl ?_
    refine pn_goto (q := 14) dL_partAt_8 (by decide) ?_
    refine pn_iconst (q := 15) (v := nI 0) dL_partAt_14 rfl (by decide) ?_
    refine pn_iret dL_partAt_15 rfl ?_
    exact ⟨h', w', Or.inl ⟨_, hv, rfl, rfl⟩⟩
  · have hE := hl_e (hq _ _ hv)
    subst hE
    refine ⟨11, hn_partAt_0, fun q => ?_⟩
    refine pn_astore_n (q := 12) dL_partAt_11 rfl (by decide) rfl ?_
    refine pn_iconst (q := 13) (v := nI 1) dL_partAt_12 rfl (by decide) ?_
    refine pn_iret dL_partAt_13 rfl ?_
    exact ⟨h', w', Or.inr ⟨_, hv, by rw [cd1_s "java/util/NoSuchElementException"], rfl⟩⟩
theorem pwL_1000 : (Jvm.Cond.methodLink "PartedNetLaw" (144 : Nat) ({ cls := "PartedNetLaw", name := "search", desc := "(LPartedNet;I[J)I" } : Jvm.MethodName)) ∈ pnG := pnG_in (List.mem_of_getElem? (i := 1000) (by decide +kernel)) rfl
theorem pwL_1002 : (Jvm.Cond.codeWith ({ cls := "PartedNetLaw", name := "search", desc := "(LPartedNet;I[J)I" } : Jvm.MethodName) method_14_code (4 : Nat) (Option.some Jvm.ClassFile.FieldType.int) [((0 : Nat), (9 : Nat), (12 : Nat), (13 : Nat))]) ∈ pnG := pnG_in (List.mem_of_getElem? (i := 1002) (by decide +kernel)) rfl
theorem pwL_1001 : (Jvm.Cond.static ({ cls := "PartedNetLaw", name := "search", desc := "(LPartedNet;I[J)I" } : Jvm.MethodName)) ∈ pnG := pnG_in (List.mem_of_getElem? (i := 1001) (by decide +kernel)) rfl
theorem lkH_search : pnLkSW RL 144 mL_search 3 := ⟨pw_77, pwL_1002, List.cons_ne_nil _ _, ⟨by decide, by decide, by decide +kernel⟩, by decide, pwL_1000, pwL_1001⟩
theorem hn_search_0 : pnHan mL_search 4 "java/lang/IllegalArgumentException" 12 := ⟨[], [], ⟨0, 9, 12, 13⟩, _, rfl, fun z hz => (nomatch hz), by decide, by decide, pw_562, cst_13, rfl⟩
set_option maxRecDepth 100000 in
theorem hl_search {adK : Nat → Nat} {hX : List pnE} {o : Nat → Int64} {Qx : pnR → List pnE → Prop} {mx sx : Nat} (x1 : Int32) (hC : pnCt mX6_search adK 100 mx sx (.ref 0 :: [.int x1]) hX Qx) (wx : WX hX) (hq : ∀ r h', Qx r h' → WX h' ∧ ((∃ v, r = .inl (some v) ∧ okI v) ∨ ∃ E, r = .inr E ∧ (E = "java/lang/IllegalArgumentException"))) : pnMt mL_search adK 101 mx sx (.ref 0 :: ([.int x1] ++ [.ref 61])) (hX ++ [oW o]) (hlQ (cd1 "java/lang/IllegalArgumentException") Qx o wI) := by
  refine pnMt_of (List.cons_ne_nil _ _) (by decide) (Nat.le_of_ble_eq_true rfl) (hl_6 wx) (hl_cl wx) (hl_cs (av := [.int x1]) wx rfl) hl_no ?_
  refine pn_aload_n (q := 1) dL_search_0 rfl rfl rfl ?_
  refine pn_iconst (q := 2) (v := nI 0) dL_search_1 rfl (by decide) ?_
  refine pn_aload_n (q := 3) dL_search_2 rfl rfl rfl ?_
  refine pn_iload_n (q := 4) dL_search_3 rfl rfl ?_
  refine hl_call (av := [.int x1]) lkL_54 dL_search_4 rfl hC rfl wx rfl rfl rfl rfl (fun r h' hh => hl_fI (hq r h' hh)) (fun v h' hv w' => ?_) (fun E h' hv w' => ?_)
  · obtain ⟨x, rfl⟩ := hl_oI (hq _ _ hv)
    refine pn_i2l (q := 8) dL_search_7 rfl ?_
    refine hl_store (q := 9) w' dL_search_8 rfl ?_
    refine pn_goto (q := 15) dL_search_9 (by decide) ?_
    refine pn_iconst (q := 16) (v := nI 0) dL_search_15 rfl (by decide) ?_
    refine pn_iret dL_search_16 rfl ?_
    exact ⟨h', w', Or.inl ⟨_, hv, rfl, rfl⟩⟩
  · have hE := hl_e (hq _ _ hv)
    subst hE
    refine ⟨12, hn_search_0, fun q => ?_⟩
    refine pn_astore_n (q := 13) dL_search_12 rfl (by decide) rfl ?_
    refine pn_iconst (q := 14) (v := nI 1) dL_search_13 rfl (by decide) ?_
    refine pn_iret dL_search_14 rfl ?_
    exact ⟨h', w', Or.inr ⟨_, hv, by rw [cd1_s "java/lang/IllegalArgumentException"], rfl⟩⟩
theorem pwL_1007 : (Jvm.Cond.methodLink "PartedNetLaw" (147 : Nat) ({ cls := "PartedNetLaw", name := "exchanges", desc := "(LPartedNet;II[J)I" } : Jvm.MethodName)) ∈ pnG := pnG_in (List.mem_of_getElem? (i := 1007) (by decide +kernel)) rfl
theorem pwL_1009 : (Jvm.Cond.codeWith ({ cls := "PartedNetLaw", name := "exchanges", desc := "(LPartedNet;II[J)I" } : Jvm.MethodName) method_15_code (5 : Nat) (Option.some Jvm.ClassFile.FieldType.int) [((0 : Nat), (10 : Nat), (13 : Nat), (24 : Nat)), ((0 : Nat), (10 : Nat), (17 : Nat), (13 : Nat))]) ∈ pnG := pnG_in (List.mem_of_getElem? (i := 1009) (by decide +kernel)) rfl
theorem pwL_1008 : (Jvm.Cond.static ({ cls := "PartedNetLaw", name := "exchanges", desc := "(LPartedNet;II[J)I" } : Jvm.MethodName)) ∈ pnG := pnG_in (List.mem_of_getElem? (i := 1008) (by decide +kernel)) rfl
theorem lkH_exchanges : pnLkSW RL 147 mL_exchanges 4 := ⟨pw_77, pwL_1009, List.cons_ne_nil _ _, ⟨by decide, by decide, by decide +kernel⟩, by decide, pwL_1007, pwL_1008⟩
theorem hn_exchanges_0 : pnHan mL_exchanges 5 "java/util/NoSuchElementException" 13 := ⟨[], [⟨0, 10, 17, 13⟩], ⟨0, 10, 13, 24⟩, _, rfl, fun z hz => (nomatch hz), by decide, by decide, pw_828, cst_24, rfl⟩
theorem hn_exchanges_1 : pnHan mL_exchanges 5 "java/lang/IllegalArgumentException" 17 := ⟨[⟨0, 10, 13, 24⟩], [], ⟨0, 10, 17, 13⟩, _, rfl, fun z hz => by rw [List.mem_singleton.mp hz]; exact ⟨by decide, _, pw_828, Or.inl ⟨rfl, rfl⟩⟩, by decide, by decide, pw_562, cst_13, rfl⟩
set_option maxRecDepth 100000 in
theorem hl_exchanges {adK : Nat → Nat} {hX : List pnE} {o : Nat → Int64} {Qx : pnR → List pnE → Prop} {mx sx : Nat} (x1 x2 : Int32) (hC : pnCt mX6_exchanges adK 100 mx sx (.ref 0 :: [.int x1, .int x2]) hX Qx) (wx : WX hX) (hq : ∀ r h', Qx r h' → WX h' ∧ ((∃ v, r = .inl (some v) ∧ okI v) ∨ ∃ E, r = .inr E ∧ (E = "java/util/NoSuchElementException" ∨ E = "java/lang/IllegalArgumentException"))) : pnMt mL_exchanges adK 101 mx sx (.ref 0 :: ([.int x1, .int x2] ++ [.ref 61])) (hX ++ [oW o]) (hlQ (cd2 "java/util/NoSuchElementException" "java/lang/IllegalArgumentException") Qx o wI) := by
  refine pnMt_of (List.cons_ne_nil _ _) (by decide) (Nat.le_of_ble_eq_true rfl) (hl_6 wx) (hl_cl wx) (hl_cs (av := [.int x1, .int x2]) wx rfl) hl_no ?_
  refine pn_aload_n (q := 1) dL_exchanges_0 rfl rfl rfl ?_
  refine pn_iconst (q := 2) (v := nI 0) dL_exchanges_1 rfl (by decide) ?_
  refine pn_aload_n (q := 3) dL_exchanges_2 rfl rfl rfl ?_
  refine pn_iload_n (q := 4) dL_exchanges_3 rfl rfl ?_
  refine pn_iload_n (q := 5) dL_exchanges_4 rfl rfl ?_
  refine hl_call (av := [.int x1, .int x2]) lkL_57 dL_exchanges_5 rfl hC rfl wx rfl rfl rfl rfl (fun r h' hh => hl_fI (hq r h' hh)) (fun v h' hv w' => ?_) (fun E h' hv w' => ?_)
  · obtain ⟨x, rfl⟩ := hl_oI (hq _ _ hv)
    refine pn_i2l (q := 9) dL_exchanges_8 rfl ?_
    refine hl_store (q := 10) w' dL_exchanges_9 rfl ?_
    refine pn_goto (q := 21) dL_exchanges_10 (by decide) ?_
    refine pn_iconst (q := 22) (v := nI 0) dL_exchanges_21 rfl (by decide) ?_
    refine pn_iret dL_exchanges_22 rfl ?_
    exact ⟨h', w', Or.inl ⟨_, hv, rfl, rfl⟩⟩
  · have hE := hl_e (hq _ _ hv)
    rcases hE with hE | hE
    · subst hE
      refine ⟨13, hn_exchanges_0, fun q => ?_⟩
      refine pn_astore (q := 15) dL_exchanges_13 rfl (by decide) rfl ?_
      refine pn_iconst (q := 16) (v := nI 1) dL_exchanges_15 rfl (by decide) ?_
      refine pn_iret dL_exchanges_16 rfl ?_
      exact ⟨h', w', Or.inr ⟨_, hv, by rw [cd2_a "java/util/NoSuchElementException" "java/lang/IllegalArgumentException"], rfl⟩⟩
    · subst hE
      refine ⟨17, hn_exchanges_1, fun q => ?_⟩
      refine pn_astore (q := 19) dL_exchanges_17 rfl (by decide) rfl ?_
      refine pn_iconst (q := 20) (v := nI 2) dL_exchanges_19 rfl (by decide) ?_
      refine pn_iret dL_exchanges_20 rfl ?_
      exact ⟨h', w', Or.inr ⟨_, hv, by rw [(show cd2 "java/util/NoSuchElementException" "java/lang/IllegalArgumentException" "java/lang/IllegalArgumentException" = 2 by decide +kernel)], rfl⟩⟩
theorem pwL_1014 : (Jvm.Cond.methodLink "PartedNetLaw" (150 : Nat) ({ cls := "PartedNetLaw", name := "classes", desc := "(LPartedNet;[J)I" } : Jvm.MethodName)) ∈ pnG := pnG_in (List.mem_of_getElem? (i := 1014) (by decide +kernel)) rfl
theorem pwL_1016 : (Jvm.Cond.codeWith ({ cls := "PartedNetLaw", name := "classes", desc := "(LPartedNet;[J)I" } : Jvm.MethodName) method_16_code (3 : Nat) (Option.some Jvm.ClassFile.FieldType.int) [((0 : Nat), (8 : Nat), (11 : Nat), (19 : Nat))]) ∈ pnG := pnG_in (List.mem_of_getElem? (i := 1016) (by decide +kernel)) rfl
theorem pwL_1015 : (Jvm.Cond.static ({ cls := "PartedNetLaw", name := "classes", desc := "(LPartedNet;[J)I" } : Jvm.MethodName)) ∈ pnG := pnG_in (List.mem_of_getElem? (i := 1015) (by decide +kernel)) rfl
theorem lkH_classes : pnLkSW RL 150 mL_classes 2 := ⟨pw_77, pwL_1016, List.cons_ne_nil _ _, ⟨by decide, by decide, by decide +kernel⟩, by decide, pwL_1014, pwL_1015⟩
theorem hn_classes_0 : pnHan mL_classes 3 "java/lang/IllegalStateException" 11 := ⟨[], [], ⟨0, 8, 11, 19⟩, _, rfl, fun z hz => (nomatch hz), by decide, by decide, pw_797, cst_19, rfl⟩
set_option maxRecDepth 100000 in
theorem hl_classes {adK : Nat → Nat} {hX : List pnE} {o : Nat → Int64} {Qx : pnR → List pnE → Prop} {mx sx : Nat} (hC : pnCt mX6_classes adK 100 mx sx (.ref 0 :: []) hX Qx) (wx : WX hX) (hq : ∀ r h', Qx r h' → WX h' ∧ ((∃ v, r = .inl (some v) ∧ okI v) ∨ ∃ E, r = .inr E ∧ (E = "java/lang/IllegalStateException"))) : pnMt mL_classes adK 101 mx sx (.ref 0 :: ([] ++ [.ref 61])) (hX ++ [oW o]) (hlQ (cd1 "java/lang/IllegalStateException") Qx o wI) := by
  refine pnMt_of (List.cons_ne_nil _ _) (by decide) (Nat.le_of_ble_eq_true rfl) (hl_6 wx) (hl_cl wx) (hl_cs (av := []) wx rfl) hl_no ?_
  refine pn_aload_n (q := 1) dL_classes_0 rfl rfl rfl ?_
  refine pn_iconst (q := 2) (v := nI 0) dL_classes_1 rfl (by decide) ?_
  refine pn_aload_n (q := 3) dL_classes_2 rfl rfl rfl ?_
  refine hl_call (av := []) lkL_60 dL_classes_3 rfl hC rfl wx rfl rfl rfl rfl (fun r h' hh => hl_fI (hq r h' hh)) (fun v h' hv w' => ?_) (fun E h' hv w' => ?_)
  · obtain ⟨x, rfl⟩ := hl_oI (hq _ _ hv)
    refine pn_i2l (q := 7) dL_classes_6 rfl ?_
    refine hl_store (q := 8) w' dL_classes_7 rfl ?_
    refine pn_goto (q := 14) dL_classes_8 (by decide) ?_
    refine pn_iconst (q := 15) (v := nI 0) dL_classes_14 rfl (by decide) ?_
    refine pn_iret dL_classes_15 rfl ?_
    exact ⟨h', w', Or.inl ⟨_, hv, rfl, rfl⟩⟩
  · have hE := hl_e (hq _ _ hv)
    subst hE
    refine ⟨11, hn_classes_0, fun q => ?_⟩
    refine pn_astore_n (q := 12) dL_classes_11 rfl (by decide) rfl ?_
    refine pn_iconst (q := 13) (v := nI 1) dL_classes_12 rfl (by decide) ?_
    refine pn_iret dL_classes_13 rfl ?_
    exact ⟨h', w', Or.inr ⟨_, hv, by rw [cd1_s "java/lang/IllegalStateException"], rfl⟩⟩
theorem pwL_1037 : (Jvm.Cond.methodLink "PartedNetLaw" (153 : Nat) ({ cls := "PartedNetLaw", name := "cover", desc := "(LPartedNet;II[J)I" } : Jvm.MethodName)) ∈ pnG := pnG_in (List.mem_of_getElem? (i := 1037) (by decide +kernel)) rfl
theorem pwL_1039 : (Jvm.Cond.codeWith ({ cls := "PartedNetLaw", name := "cover", desc := "(LPartedNet;II[J)I" } : Jvm.MethodName) method_17_code (5 : Nat) (Option.some Jvm.ClassFile.FieldType.int) [((0 : Nat), (10 : Nat), (13 : Nat), (13 : Nat))]) ∈ pnG := pnG_in (List.mem_of_getElem? (i := 1039) (by decide +kernel)) rfl
theorem pwL_1038 : (Jvm.Cond.static ({ cls := "PartedNetLaw", name := "cover", desc := "(LPartedNet;II[J)I" } : Jvm.MethodName)) ∈ pnG := pnG_in (List.mem_of_getElem? (i := 1038) (by decide +kernel)) rfl
theorem lkH_cover : pnLkSW RL 153 mL_cover 4 := ⟨pw_77, pwL_1039, List.cons_ne_nil _ _, ⟨by decide, by decide, by decide +kernel⟩, by decide, pwL_1037, pwL_1038⟩
theorem hn_cover_0 : pnHan mL_cover 5 "java/lang/IllegalArgumentException" 13 := ⟨[], [], ⟨0, 10, 13, 13⟩, _, rfl, fun z hz => (nomatch hz), by decide, by decide, pw_562, cst_13, rfl⟩
set_option maxRecDepth 100000 in
theorem hl_cover {adK : Nat → Nat} {hX : List pnE} {o : Nat → Int64} {Qx : pnR → List pnE → Prop} {mx sx : Nat} (x1 x2 : Int32) (hC : pnCt mX6_cover adK 100 mx sx (.ref 0 :: [.int x1, .int x2]) hX Qx) (wx : WX hX) (hq : ∀ r h', Qx r h' → WX h' ∧ ((∃ v, r = .inl (some v) ∧ okI v) ∨ ∃ E, r = .inr E ∧ (E = "java/lang/IllegalArgumentException"))) : pnMt mL_cover adK 101 mx sx (.ref 0 :: ([.int x1, .int x2] ++ [.ref 61])) (hX ++ [oW o]) (hlQ (cd1 "java/lang/IllegalArgumentException") Qx o wI) := by
  refine pnMt_of (List.cons_ne_nil _ _) (by decide) (Nat.le_of_ble_eq_true rfl) (hl_6 wx) (hl_cl wx) (hl_cs (av := [.int x1, .int x2]) wx rfl) hl_no ?_
  refine pn_aload_n (q := 1) dL_cover_0 rfl rfl rfl ?_
  refine pn_iconst (q := 2) (v := nI 0) dL_cover_1 rfl (by decide) ?_
  refine pn_aload_n (q := 3) dL_cover_2 rfl rfl rfl ?_
  refine pn_iload_n (q := 4) dL_cover_3 rfl rfl ?_
  refine pn_iload_n (q := 5) dL_cover_4 rfl rfl ?_
  refine hl_call (av := [.int x1, .int x2]) lkL_63 dL_cover_5 rfl hC rfl wx rfl rfl rfl rfl (fun r h' hh => hl_fI (hq r h' hh)) (fun v h' hv w' => ?_) (fun E h' hv w' => ?_)
  · obtain ⟨x, rfl⟩ := hl_oI (hq _ _ hv)
    refine pn_i2l (q := 9) dL_cover_8 rfl ?_
    refine hl_store (q := 10) w' dL_cover_9 rfl ?_
    refine pn_goto (q := 17) dL_cover_10 (by decide) ?_
    refine pn_iconst (q := 18) (v := nI 0) dL_cover_17 rfl (by decide) ?_
    refine pn_iret dL_cover_18 rfl ?_
    exact ⟨h', w', Or.inl ⟨_, hv, rfl, rfl⟩⟩
  · have hE := hl_e (hq _ _ hv)
    subst hE
    refine ⟨13, hn_cover_0, fun q => ?_⟩
    refine pn_astore (q := 15) dL_cover_13 rfl (by decide) rfl ?_
    refine pn_iconst (q := 16) (v := nI 1) dL_cover_15 rfl (by decide) ?_
    refine pn_iret dL_cover_16 rfl ?_
    exact ⟨h', w', Or.inr ⟨_, hv, by rw [cd1_s "java/lang/IllegalArgumentException"], rfl⟩⟩
theorem pwL_1051 : (Jvm.Cond.methodLink "PartedNetLaw" (156 : Nat) ({ cls := "PartedNetLaw", name := "good", desc := "(LPartedNet;I[J)I" } : Jvm.MethodName)) ∈ pnG := pnG_in (List.mem_of_getElem? (i := 1051) (by decide +kernel)) rfl
theorem pwL_1053 : (Jvm.Cond.codeWith ({ cls := "PartedNetLaw", name := "good", desc := "(LPartedNet;I[J)I" } : Jvm.MethodName) method_18_code (4 : Nat) (Option.some Jvm.ClassFile.FieldType.int) [((0 : Nat), (9 : Nat), (12 : Nat), (13 : Nat))]) ∈ pnG := pnG_in (List.mem_of_getElem? (i := 1053) (by decide +kernel)) rfl
theorem pwL_1052 : (Jvm.Cond.static ({ cls := "PartedNetLaw", name := "good", desc := "(LPartedNet;I[J)I" } : Jvm.MethodName)) ∈ pnG := pnG_in (List.mem_of_getElem? (i := 1052) (by decide +kernel)) rfl
theorem lkH_good : pnLkSW RL 156 mL_good 3 := ⟨pw_77, pwL_1053, List.cons_ne_nil _ _, ⟨by decide, by decide, by decide +kernel⟩, by decide, pwL_1051, pwL_1052⟩
theorem hn_good_0 : pnHan mL_good 4 "java/lang/IllegalArgumentException" 12 := ⟨[], [], ⟨0, 9, 12, 13⟩, _, rfl, fun z hz => (nomatch hz), by decide, by decide, pw_562, cst_13, rfl⟩
set_option maxRecDepth 100000 in
theorem hl_good {adK : Nat → Nat} {hX : List pnE} {o : Nat → Int64} {Qx : pnR → List pnE → Prop} {mx sx : Nat} (x1 : Int32) (hC : pnCt mX6_good adK 100 mx sx (.ref 0 :: [.int x1]) hX Qx) (wx : WX hX) (hq : ∀ r h', Qx r h' → WX h' ∧ ((∃ v, r = .inl (some v) ∧ okI v) ∨ ∃ E, r = .inr E ∧ (E = "java/lang/IllegalArgumentException"))) : pnMt mL_good adK 101 mx sx (.ref 0 :: ([.int x1] ++ [.ref 61])) (hX ++ [oW o]) (hlQ (cd1 "java/lang/IllegalArgumentException") Qx o wI) := by
  refine pnMt_of (List.cons_ne_nil _ _) (by decide) (Nat.le_of_ble_eq_true rfl) (hl_6 wx) (hl_cl wx) (hl_cs (av := [.int x1]) wx rfl) hl_no ?_
  refine pn_aload_n (q := 1) dL_good_0 rfl rfl rfl ?_
  refine pn_iconst (q := 2) (v := nI 0) dL_good_1 rfl (by decide) ?_
  refine pn_aload_n (q := 3) dL_good_2 rfl rfl rfl ?_
  refine pn_iload_n (q := 4) dL_good_3 rfl rfl ?_
  refine hl_call (av := [.int x1]) lkL_66 dL_good_4 rfl hC rfl wx rfl rfl rfl rfl (fun r h' hh => hl_fI (hq r h' hh)) (fun v h' hv w' => ?_) (fun E h' hv w' => ?_)
  · obtain ⟨x, rfl⟩ := hl_oI (hq _ _ hv)
    refine pn_i2l (q := 8) dL_good_7 rfl ?_
    refine hl_store (q := 9) w' dL_good_8 rfl ?_
    refine pn_goto (q := 15) dL_good_9 (by decide) ?_
    refine pn_iconst (q := 16) (v := nI 0) dL_good_15 rfl (by decide) ?_
    refine pn_iret dL_good_16 rfl ?_
    exact ⟨h', w', Or.inl ⟨_, hv, rfl, rfl⟩⟩
  · have hE := hl_e (hq _ _ hv)
    subst hE
    refine ⟨12, hn_good_0, fun q => ?_⟩
    refine pn_astore_n (q := 13) dL_good_12 rfl (by decide) rfl ?_
    refine pn_iconst (q := 14) (v := nI 1) dL_good_13 rfl (by decide) ?_
    refine pn_iret dL_good_14 rfl ?_
    exact ⟨h', w', Or.inr ⟨_, hv, by rw [cd1_s "java/lang/IllegalArgumentException"], rfl⟩⟩
theorem pwL_1059 : (Jvm.Cond.methodLink "PartedNetLaw" (159 : Nat) ({ cls := "PartedNetLaw", name := "base", desc := "(LPartedNet;II[J)I" } : Jvm.MethodName)) ∈ pnG := pnG_in (List.mem_of_getElem? (i := 1059) (by decide +kernel)) rfl
theorem pwL_1061 : (Jvm.Cond.codeWith ({ cls := "PartedNetLaw", name := "base", desc := "(LPartedNet;II[J)I" } : Jvm.MethodName) method_19_code (5 : Nat) (Option.some Jvm.ClassFile.FieldType.int) [((0 : Nat), (10 : Nat), (13 : Nat), (24 : Nat))]) ∈ pnG := pnG_in (List.mem_of_getElem? (i := 1061) (by decide +kernel)) rfl
theorem pwL_1060 : (Jvm.Cond.static ({ cls := "PartedNetLaw", name := "base", desc := "(LPartedNet;II[J)I" } : Jvm.MethodName)) ∈ pnG := pnG_in (List.mem_of_getElem? (i := 1060) (by decide +kernel)) rfl
theorem lkH_base : pnLkSW RL 159 mL_base 4 := ⟨pw_77, pwL_1061, List.cons_ne_nil _ _, ⟨by decide, by decide, by decide +kernel⟩, by decide, pwL_1059, pwL_1060⟩
theorem hn_base_0 : pnHan mL_base 5 "java/util/NoSuchElementException" 13 := ⟨[], [], ⟨0, 10, 13, 24⟩, _, rfl, fun z hz => (nomatch hz), by decide, by decide, pw_828, cst_24, rfl⟩
set_option maxRecDepth 100000 in
theorem hl_base {adK : Nat → Nat} {hX : List pnE} {o : Nat → Int64} {Qx : pnR → List pnE → Prop} {mx sx : Nat} (x1 x2 : Int32) (hC : pnCt mX6_base adK 100 mx sx (.ref 0 :: [.int x1, .int x2]) hX Qx) (wx : WX hX) (hq : ∀ r h', Qx r h' → WX h' ∧ ((∃ v, r = .inl (some v) ∧ okI v) ∨ ∃ E, r = .inr E ∧ (E = "java/util/NoSuchElementException"))) : pnMt mL_base adK 101 mx sx (.ref 0 :: ([.int x1, .int x2] ++ [.ref 61])) (hX ++ [oW o]) (hlQ (cd1 "java/util/NoSuchElementException") Qx o wI) := by
  refine pnMt_of (List.cons_ne_nil _ _) (by decide) (Nat.le_of_ble_eq_true rfl) (hl_6 wx) (hl_cl wx) (hl_cs (av := [.int x1, .int x2]) wx rfl) hl_no ?_
  refine pn_aload_n (q := 1) dL_base_0 rfl rfl rfl ?_
  refine pn_iconst (q := 2) (v := nI 0) dL_base_1 rfl (by decide) ?_
  refine pn_aload_n (q := 3) dL_base_2 rfl rfl rfl ?_
  refine pn_iload_n (q := 4) dL_base_3 rfl rfl ?_
  refine pn_iload_n (q := 5) dL_base_4 rfl rfl ?_
  refine hl_call (av := [.int x1, .int x2]) lkL_69 dL_base_5 rfl hC rfl wx rfl rfl rfl rfl (fun r h' hh => hl_fI (hq r h' hh)) (fun v h' hv w' => ?_) (fun E h' hv w' => ?_)
  · obtain ⟨x, rfl⟩ := hl_oI (hq _ _ hv)
    refine pn_i2l (q := 9) dL_base_8 rfl ?_
    refine hl_store (q := 10) w' dL_base_9 rfl ?_
    refine pn_goto (q := 17) dL_base_10 (by decide) ?_
    refine pn_iconst (q := 18) (v := nI 0) dL_base_17 rfl (by decide) ?_
    refine pn_iret dL_base_18 rfl ?_
    exact ⟨h', w', Or.inl ⟨_, hv, rfl, rfl⟩⟩
  · have hE := hl_e (hq _ _ hv)
    subst hE
    refine ⟨13, hn_base_0, fun q => ?_⟩
    refine pn_astore (q := 15) dL_base_13 rfl (by decide) rfl ?_
    refine pn_iconst (q := 16) (v := nI 1) dL_base_15 rfl (by decide) ?_
    refine pn_iret dL_base_16 rfl ?_
    exact ⟨h', w', Or.inr ⟨_, hv, by rw [cd1_s "java/util/NoSuchElementException"], rfl⟩⟩
