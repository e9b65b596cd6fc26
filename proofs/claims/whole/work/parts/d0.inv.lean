/-! ===== what holds between two calls: the reference's rows ===== -/
def lyT (e : G4) (n sh k : Nat) : Prop := (e.2.2.2.2.2.1 = lN n ∧ e.2.2.2.2.2.2.1 = lN sh ∧ e.2.2.2.2.2.2.2.1 = lN k ∧ e.2.2.2.2.2.2.2.2 = (apL n sh k).length) ∧ (apL n sh k).length ≤ e.1 ∧ sg e.2.1 0 (apL n sh k).length = apS n sh k ∧ ∀ l, l < 57 → e.2.2.2.2.1 l = mkN e.2.1 (apL n sh k).length l
def lyR (e : G4) : Prop := e.1 = e.2.2.1 ∧ e.1 ≤ 27720 ∧ (e.2.2.2.2.2.1 = lN 0 ∨ ∃ n sh k, shOk sh k ∧ 1 ≤ n ∧ n ≤ 11 ∧ lyT e n sh k)
def potS (L : Nat) : Nat := smB (fun n => smB (fun sh => smB (fun k => if shB sh k = true ∧ L < (apL n sh k).length then 2 * (apL n sh k).length else 0) 6) 4) 12
def potC (L : Nat) : Nat := smB (fun n => smB (fun sh => smB (fun k => if shB sh k = true ∧ L < (apL n sh k).length then 2 else 0) 6) 4) 12
theorem smB_ge {f g : Nat → Nat} {i v : Nat} : ∀ {n : Nat}, (∀ j, j < n → g j ≤ f j) → i < n → g i + v ≤ f i → smB g n + v ≤ smB f n
  | 0, _, h, _ => by omega
  | n + 1, h, hi, hv => by
    show smB g n + g n + v ≤ smB f n + f n
    by_cases q : i = n
    · subst q
      have := smB_mono (f := g) (g := f) i (fun j hj => h j (by omega))
      omega
    · have := smB_ge (n := n) (fun j hj => h j (by omega)) (by omega) hv
      have := h n (by omega)
      omega
theorem pot_drop {n sh k : Nat} (hS : shOk sh k) (hn : n ≤ 11) {L : Nat} (hL : L < (apL n sh k).length) : potS (apL n sh k).length + 2 * (apL n sh k).length ≤ potS L ∧ potC (apL n sh k).length + 2 ≤ potC L := by
  obtain ⟨b1, b2, b3, -⟩ := shOk_b hS
  generalize hM : (apL n sh k).length = M at *
  have mono : ∀ a b c (v : Nat), (if shB b c = true ∧ M < (apL a b c).length then v else 0) ≤ (if shB b c = true ∧ L < (apL a b c).length then v else 0) := fun a b c v => by
    by_cases q : shB b c = true ∧ M < (apL a b c).length
    · rw [if_pos q, if_pos ⟨q.1, by omega⟩]; exact Nat.le_refl _
    · rw [if_neg q]; exact Nat.zero_le _
  have at9 : ∀ v : Nat, (if shB sh k = true ∧ M < (apL n sh k).length then v else 0) + v ≤ (if shB sh k = true ∧ L < (apL n sh k).length then v else 0) := fun v => by
    rw [if_neg (fun w => by have := w.2; omega), if_pos ⟨shB_of hS, by omega⟩]
    omega
  constructor
  · refine smB_ge (i := n) (fun a _ => smB_mono _ (fun b _ => smB_mono _ (fun c _ => mono a b c _))) (by omega) ?_
    refine smB_ge (i := sh) (fun b _ => smB_mono _ (fun c _ => mono n b c _)) (by omega) ?_
    refine smB_ge (i := k) (fun c _ => mono n sh c _) (by omega) ?_
    have := at9 (2 * (apL n sh k).length)
    rw [hM] at this ⊢
    exact this
  · refine smB_ge (i := n) (fun a _ => smB_mono _ (fun b _ => smB_mono _ (fun c _ => mono a b c _))) (by omega) ?_
    refine smB_ge (i := sh) (fun b _ => smB_mono _ (fun c _ => mono n b c _)) (by omega) ?_
    exact smB_ge (i := k) (fun c _ => mono n sh c _) (by omega) (at9 2)
theorem apU_sum : Nat.ble (smB (fun n => smB (fun sh => smB (fun k => if shB sh k = true then 2 * apU n sh k else 0) 6) 4) 12) 400000 = true := by decide +kernel
theorem shB_sh {sh k : Nat} (h : shB sh k = true) : shOk sh k := by
  unfold shB at h
  rw [Bool.or_eq_true, Bool.or_eq_true, Bool.or_eq_true, and9, and9, and9, and9, and9, and9, and9] at h
  rcases h with h | h | h | h
  · exact Or.inl ⟨beq9.mp h.1, beq9.mp h.2⟩
  · exact Or.inr (Or.inl ⟨beq9.mp h.1, Nat.le_of_ble_eq_true h.2.1, Nat.le_of_ble_eq_true h.2.2⟩)
  · exact Or.inr (Or.inr (Or.inl ⟨beq9.mp h.1, Nat.le_of_ble_eq_true h.2.1, Nat.le_of_ble_eq_true h.2.2⟩))
  · exact Or.inr (Or.inr (Or.inr ⟨beq9.mp h.1, Nat.le_of_ble_eq_true h.2.1, Nat.le_of_ble_eq_true h.2.2⟩))
theorem pot_S0 (L : Nat) : potS L ≤ 400000 := by
  refine Nat.le_trans (smB_mono _ (fun n hn => smB_mono _ (fun sh hs => smB_mono _ (fun k hk => ?_)))) (Nat.le_of_ble_eq_true apU_sum)
  by_cases q : shB sh k = true ∧ L < (apL n sh k).length
  · rw [if_pos q, if_pos q.1]
    have := ap_U (shB_sh q.1) (show n ≤ 11 by omega)
    omega
  · rw [if_neg q]; exact Nat.zero_le _
theorem pot_C0 (L : Nat) : potC L ≤ 600 := by
  refine Nat.le_trans (smB_mono (g := fun _ => 48) _ (fun n hn => Nat.le_trans (smB_mono (g := fun _ => 12) _ (fun sh hs => Nat.le_trans (smB_mono (g := fun _ => 2) _ (fun k hk => ?_)) (show smB (fun _ => 2) 6 ≤ 12 by decide))) (show smB (fun _ => 12) 4 ≤ 48 by decide))) (show smB (fun _ => 48) 12 ≤ 600 by decide)
  by_cases q : shB sh k = true ∧ L < (apL n sh k).length
  · rw [if_pos q]; exact Nat.le_refl _
  · rw [if_neg q]; exact Nat.zero_le _
theorem ap_27 {n sh k : Nat} (hS : shOk sh k) (hn : n ≤ 11) : (apL n sh k).length ≤ 27720 := Nat.le_trans (ap_U hS hn) (apU_27 hS hn)
theorem lyT_f {e : G4} {n sh k : Nat} (hS : shOk sh k) (hn : n ≤ 11) (h : lyT e n sh k) : (∀ i, i < (apL n sh k).length → ptP n sh k (e.2.1 i)) ∧ (∀ i j, i ≤ j → j < (apL n sh k).length → llN (e.2.1 i) ≤ llN (e.2.1 j)) ∧ ∀ l, l < 57 → e.2.2.2.2.1 l ≤ (apL n sh k).length := by
  obtain ⟨-, -, h3, h4⟩ := h
  have hp : ∀ i, i < (apL n sh k).length → ptP n sh k (e.2.1 i) := fun i hi => (apS_mem hS hn _).mp (by rw [← h3]; exact sg_mem.mpr ⟨i, Nat.zero_le _, by omega, rfl⟩)
  have hm := mk_mono (f := e.2.1) (c := (apL n sh k).length) (by rw [h3]; exact soS_so _) (fun i hi => (hp i hi).ne hS hn)
  exact ⟨hp, hm, fun l hl => by rw [h4 l hl]; exact (mkN_ok hm l).1⟩
theorem lyT_O {e : G4} {n sh k : Nat} (hS : shOk sh k) (hn : n ≤ 11) (he : e.1 ≤ 27720) (h : lyT e n sh k) : lyO e := by
  have hf := lyT_f hS hn h
  obtain ⟨⟨a1, a2, a3, a4⟩, h2, h3, h4⟩ := h
  exact ⟨by rw [a4]; exact h2, by omega, fun l hl => by rw [a4]; exact hf.2.2 l hl⟩
theorem ly_ok {Y : MN} {c : G3} {e : G4} (hS : shOk Y.2.2.1 Y.2.2.2.1) (hn : Y.1 ≤ 11) (hn1 : 1 ≤ Y.1) (hc : c.2 ≤ 5) (h : lyR e) :
    lyP Y c e ∧ lyO (lyG Y c e) ∧ lyT (lyG Y c e) Y.1 Y.2.2.1 Y.2.2.2.1 ∧ lyR (lyG Y c e) ∧ (lyC Y c e).2 ≤ 5 ∧ lyM Y c e + potC (lyG Y c e).1 ≤ potC e.1 ∧ lyN Y c e + potS (lyG Y c e).1 ≤ potS e.1 := by
  obtain ⟨h1, h2, h3⟩ := h
  obtain ⟨b1, b2, b3, -⟩ := shOk_b hS
  have e1 := sk_ap hS hn hn1 c.1
  have e2 := sk_ap hS hn hn1 (skG Y.1 Y.2.2.1 Y.2.2.2.1 (plN Y.2.2.1 Y.2.2.2.1) 0 0 c.1).2
  have hlen := ap_27 hS hn
  have hs := ly_sg e hS hn
  have hnz : ∀ j, j < (apL Y.1 Y.2.2.1 Y.2.2.2.1).length → ¬ (lyS e (apL Y.1 Y.2.2.1 Y.2.2.2.1).length (apL Y.1 Y.2.2.1 Y.2.2.2.1)).1 j = 0 := fun j hj => ((apS_mem hS hn _).mp (by rw [← hs]; exact sg_mem.mpr ⟨j, Nat.zero_le _, by omega, rfl⟩)).ne hS hn
  have hP : lyP Y c e := fun _ => ⟨hS, hn, hn1, h1, by omega, by rw [e1]; omega, by rw [e1, e2]; exact hnz⟩
  refine ⟨hP, ?_⟩
  have main : lyT (lyG Y c e) Y.1 Y.2.2.1 Y.2.2.2.1 ∧ (lyG Y c e).1 = (lyG Y c e).2.2.1 ∧ (lyG Y c e).1 ≤ 27720 ∧ (lyC Y c e).2 ≤ 5 ∧ lyM Y c e + potC (lyG Y c e).1 ≤ potC e.1 ∧ lyN Y c e + potS (lyG Y c e).1 ≤ potS e.1 := by
    unfold lyG lyC lyM lyN
    cases hq : lyQ Y e with
    | true =>
      rw [if_pos rfl, if_pos rfl, if_pos rfl, if_pos rfl]
      obtain ⟨q1, q2, q3⟩ := of_decide_eq_true hq
      refine ⟨?_, h1, h2, hc, by omega, by omega⟩
      rcases h3 with h3 | ⟨n, sh, k, s1, s2, s3, s4⟩
      · rw [q1] at h3
        have := (lN_eqI (by omega) (by omega)).mp h3
        omega
      · obtain ⟨c1, c2, c3, -⟩ := shOk_b s1
        have f1 : n = Y.1 := (lN_eqI (by omega) (by omega)).mp (s4.1.1.symm.trans q1)
        have f2 : sh = Y.2.2.1 := (lN_eqI (by omega) (by omega)).mp (s4.1.2.1.symm.trans q2)
        have f3 : k = Y.2.2.2.1 := (lN_eqI (by omega) (by omega)).mp (s4.1.2.2.1.symm.trans q3)
        rw [f1, f2, f3] at s4
        exact s4
    | false =>
      rw [if_neg Bool.false_ne_true, if_neg Bool.false_ne_true, if_neg Bool.false_ne_true, if_neg Bool.false_ne_true, e1, e2]
      generalize hM : (apL Y.1 Y.2.2.1 Y.2.2.2.1).length = M at *
      have hfr : ∀ l, l < 57 → frG (lyS e M (apL Y.1 Y.2.2.1 Y.2.2.2.1)).1 M 57 0 0 e.2.2.2.2.1 l = mkN (lyS e M (apL Y.1 Y.2.2.1 Y.2.2.2.1)).1 M l := fun l hl => by
        rw [frG_get _ _ 57 0 0 _ (fun _ => rfl) (fun m hm => by omega) l, if_pos (by omega)]
      by_cases q : e.1 < M
      · have d1 := pot_drop hS hn (L := e.1) (by rw [hM]; exact q)
        rw [hM] at d1
        have g1 : (lyE e Y.1 Y.2.2.1 Y.2.2.2.1 M (apL Y.1 Y.2.2.1 Y.2.2.2.1)).1 = M := if_pos q
        have g2 : (lyE e Y.1 Y.2.2.1 Y.2.2.2.1 M (apL Y.1 Y.2.2.1 Y.2.2.2.1)).2.2.1 = M := if_pos q
        rw [if_pos q, if_pos q, g1, g2]
        refine ⟨⟨⟨rfl, rfl, rfl, hM.symm⟩, ?_, ?_, ?_⟩, rfl, hlen, Nat.zero_le _, by omega, by omega⟩
        · rw [g1, hM]; exact Nat.le_refl _
        · rw [hM]; exact hs
        · rw [hM]; exact hfr
      · have g1 : (lyE e Y.1 Y.2.2.1 Y.2.2.2.1 M (apL Y.1 Y.2.2.1 Y.2.2.2.1)).1 = e.1 := if_neg q
        have g2 : (lyE e Y.1 Y.2.2.1 Y.2.2.2.1 M (apL Y.1 Y.2.2.1 Y.2.2.2.1)).2.2.1 = e.2.2.1 := if_neg q
        rw [if_neg q, if_neg q, g1, g2]
        refine ⟨⟨⟨rfl, rfl, rfl, hM.symm⟩, ?_, ?_, ?_⟩, h1, h2, Nat.zero_le _, by omega, by omega⟩
        · rw [g1, hM]; omega
        · rw [hM]; exact hs
        · rw [hM]; exact hfr
  obtain ⟨m1, m2, m3, m4, m5, m6⟩ := main
  exact ⟨lyT_O hS hn m3 m1, m1, ⟨m2, m3, Or.inr ⟨_, _, _, hS, hn1, hn, m1⟩⟩, m4, m5, m6⟩
/-! the catalog -/
theorem cat_b {C : CS} {N : NS} (hS : shOk N.2.2.1 N.2.2.2.1) (hn : N.1 ≤ 11) (hC : csOk C) : lnC N ≤ 27720 ∧ mcC C N + cC (rC C N) ≤ cC C.2.1 ∧ msC C N + cS (rC C N) ≤ cS C.2.1 := by
  have h1 : lnC N ≤ 27720 := Nat.le_trans (pa_U N.2.1 hS hn) (apU_27 hS hn)
  obtain ⟨r1, r2, r3, r4⟩ := rT_ok hC.1 h1
  have r2 : C.2.1 ≤ rC C N := r2
  have r4 : rC C N ≤ 27720 := r4
  refine ⟨h1, ?_, ?_⟩
  · unfold mcC cC; omega
  · unfold msC cS; omega
theorem cat_f {C : CS} {N : NS} {s : S3} (hS : shOk N.2.2.1 N.2.2.2.1) (hn : N.1 ≤ 11) (hn1 : 1 ≤ N.1) (h : csOk (ctF C N s)) : sg s.1 0 (lnC N) = (apS N.1 N.2.2.1 N.2.2.2.1).filter (inG N.2.1) ∧ s.2.1 = mkN s.1 (lnC N) ∧ (∀ i, i < lnC N → ptP N.1 N.2.2.1 N.2.2.2.1 (s.1 i)) ∧ ∀ l, s.2.1 l ≤ s.2.1 (l + 1) ∧ s.2.1 (l + 1) ≤ lnC N ∧ sg s.1 (s.2.1 l) (s.2.1 (l + 1) - s.2.1 l) = ((apS N.1 N.2.2.1 N.2.2.2.1).filter (inG N.2.1)).filter (fun v => decide (llN v = l)) := by
  obtain ⟨h1, h2, h3⟩ := cat_sg h (show N.1 ≠ 0 by omega)
  have hp : ∀ i, i < lnC N → ptP N.1 N.2.2.1 N.2.2.2.1 (s.1 i) := fun i hi => by
    have : s.1 i ∈ sg s.1 0 (lnC N) := sg_mem.mpr ⟨i, Nat.zero_le _, by omega, rfl⟩
    rw [h1] at this
    exact (apS_mem hS hn _).mp (List.mem_filter.mp this).1
  have hso : soL (sg s.1 0 (lnC N)) := by rw [h1]; exact (soS_so _).filter _
  have hm := mk_mono hso (fun i hi => (hp i hi).ne hS hn)
  refine ⟨h1, h2, hp, fun l => ?_⟩
  rw [h2, ← h1]
  exact mk_slice hm l
theorem lyT_s {e : G4} {n sh k : Nat} (hS : shOk sh k) (hn : n ≤ 11) (h : lyT e n sh k) {l : Nat} (hl : l < 56) : e.2.2.2.2.1 l ≤ e.2.2.2.2.1 (l + 1) ∧ e.2.2.2.2.1 (l + 1) ≤ (apL n sh k).length ∧ sg e.2.1 (e.2.2.2.2.1 l) (e.2.2.2.2.1 (l + 1) - e.2.2.2.2.1 l) = (apS n sh k).filter (fun v => decide (llN v = l)) := by
  obtain ⟨-, hm, -⟩ := lyT_f hS hn h
  obtain ⟨-, h2, h3, h4⟩ := h
  rw [h4 l (by omega), h4 (l + 1) (by omega), ← h3]
  exact mk_slice hm l
/-! the walk that the class keeps -/
abbrev wk6 (W : WS) : Nat × Nat × Bool × Nat × (Nat → Int64) × (Nat → Nat) := (W.1, W.2.1, W.2.2.1, W.2.2.2.1, W.2.2.2.2.1, W.2.2.2.2.2.1)
def wkR (W : WS) : Prop := wsOk W ∧ (W.2.2.2.2.2.2.1 = true → outS (wk6 W) (saF (apS W.2.2.2.2.2.2.2.2.1 W.2.2.2.2.2.2.2.2.2.1 W.2.2.2.2.2.2.2.2.2.2) false 56 W.2.2.2.2.2.2.2.1 [] (0, 0, false, [])))
theorem gow_ok {C : CS} {N : NS} {W : WS} {s : S3} {x : Int64} (once : Bool) (hS : shOk N.2.2.1 N.2.2.2.1) (hn : N.1 ≤ 11) (hn1 : 1 ≤ N.1) (hs : csOk (ctF C N s)) (hW : wkR W) (hx : sbL x N.2.1) (h55 : ok55 x) :
    wkR (goW (ctF C N s) W once x) ∧ (outS (wk6 (goW (ctF C N s) W once x)) (saF (apS N.1 N.2.2.1 N.2.2.2.1) once 56 x [] (0, 0, false, [])) ∨ outS (wk6 (goW (ctF C N s) W once x)) (saF (apS N.1 N.2.2.1 N.2.2.2.1) false 56 x [] (0, 0, false, []))) := by
  obtain ⟨b1, b2, b3, -⟩ := shOk_b hS
  unfold goW
  by_cases q : W.2.2.2.2.2.2.1 = true ∧ x = W.2.2.2.2.2.2.2.1 ∧ (ctF C N s).2.2.2.2.2.1 = W.2.2.2.2.2.2.2.2.1 ∧ (ctF C N s).2.2.2.2.2.2.1 = W.2.2.2.2.2.2.2.2.2.1 ∧ (ctF C N s).2.2.2.2.2.2.2.1 = W.2.2.2.2.2.2.2.2.2.2
  · rw [if_pos q]
    refine ⟨hW, Or.inr ?_⟩
    obtain ⟨q1, q2, q3, q4, q5⟩ := q
    have q3 : N.1 = W.2.2.2.2.2.2.2.2.1 := q3
    have q4 : N.2.2.1 = W.2.2.2.2.2.2.2.2.2.1 := q4
    have q5 : N.2.2.2.1 = W.2.2.2.2.2.2.2.2.2.2 := q5
    rw [q2, q3, q4, q5]
    exact hW.2 q1
  · rw [if_neg q]
    obtain ⟨f1, f2, f3, f4⟩ := cat_f hS hn hn1 hs
    have hl : lnC N ≤ 30000 := Nat.le_trans (pa_U N.2.1 hS hn) (Nat.le_trans (apU_27 hS hn) (by omega))
    have key := go_sa (f := s.1) (R := rC C N) (sN := s.2.1) (c := lnC N) (once := once) (P := apS N.1 N.2.2.1 N.2.2.2.1) (x := x) hs.2.1 hl (fun l => (f4 l).1) hs.2.2.2.1 (fun v hv => ((apS_mem hS hn v).mp hv).ne hS hn) (fun i hi => (apS_mem hS hn _).mpr (f3 i hi)) (fun y hy h0 => by
      rw [(f4 (llN y)).2.2]
      unfold cdL
      rw [List.filter_filter, List.filter_filter, List.filter_filter]
      refine List.filter_congr (fun v hv => ?_)
      cases e : inG y v with
      | false => rfl
      | true =>
        have : inG N.2.1 v = true := inG_iff.mpr ((inG_iff.mp e).trans (hy.trans hx))
        rw [this]
        cases decide (llN v = llN y) <;> rfl) h55 W.2.2.2.2.1 W.2.2.2.2.2.1 hW.1.1
    refine ⟨⟨⟨key.2.2.2.2, hn, b1, by show N.2.2.2.1 ≤ 5; omega⟩, fun w => ?_⟩, Or.inl key⟩
    cases once with
    | true => cases w
    | false => exact key
def INV (b : Nat → Int32) (tp : Nat) (fp : Int32) (N : NS) (A : AS) (Q : QS) (C : CS) (W : WS) (rf : Nat → Nat) (Y : MN) (P : Nat → MN) (a : G0) (b1 : G1) (c : G3) (e : G4) : Prop :=
  ((Q.1 = 8 ∨ Q.1 = 9) ∧ rsW Q.2.2) ∧ (byOk b ∧ tpR b1.2.2.2.2.1 b ∧ tp ≤ 300 ∧ a.2.2.1 = tp ∧ a.2.2.2.1 = fp) ∧ (eqS N Y ∧ acR eqS A P a.2.2.2.2 ∧ a.2.1 = rf) ∧ (plK b1 ∧ c.2 ≤ 5) ∧ (csOk C ∧ wkR W ∧ lyR e)
/-- both worlds between two calls; t: what the reference says was thrown; room that may still be used -/
def LIw (hX hY : List pnE) (t bc bs : Nat) : Prop := ∃ (b : Nat → Int32) (tp : Nat) (fp : Int32) (N : NS) (A : AS) (Q : QS) (C : CS) (W : WS) (Z : SS) (ask : Nat → Int32) (rf : Nat → Nat) (Y : MN) (P : Nat → MN) (a : G0) (b1 : G1) (c : G3) (e : G4) (f : G5) (g : G6) (h : G7), hX = hP b tp fp N A Q C W Z ask rf ∧ hY = hM Y P a b1 c e f g h ∧ INV b tp fp N A Q C W rf Y P a b1 c e ∧ a.1 = t ∧ cC C.2.1 + potC e.1 ≤ bc ∧ cS C.2.1 + potS e.1 ≤ bs
/-- one call on both sides, that may be refused -/
def STP (M6 M7 : pnM) (adK : Nat → Nat) (dx dy : Nat) (av : List Value) (hX hY : List pnE) (bc bs : Nat) (cd : String → Nat) (ok : Value → Prop) : Prop :=
  ∃ (Qx Qy : pnR → List pnE → Prop) (mx sx my sy : Nat), pnCt M6 adK dx mx sx (.ref 0 :: av) hX Qx ∧ pnCt M7 adK dy my sy (.ref 0 :: av) hY Qy ∧ mx + my ≤ bc + 1 ∧ sx + sy ≤ bs + 6 ∧ (∃ r' hY', Qy r' hY') ∧ ∀ r hX', Qx r hX' → ∀ r' hY', Qy r' hY' → ∃ t bc' bs', LIw hX' hY' t bc' bs' ∧ mx + my + bc' ≤ bc + 1 ∧ sx + sy + bs' ≤ bs + 6 ∧ ((∃ v, r = .inl (some v) ∧ t = 0 ∧ r' = .inl (some v) ∧ ok v) ∨ ∃ E v, r = .inr E ∧ r' = .inl (some v) ∧ t = cd E ∧ 1 ≤ t ∧ t ≤ 9 ∧ ok v)
/-- one call on both sides, that is never refused -/
def STQ (M6 M7 : pnM) (adK : Nat → Nat) (dx dy : Nat) (av : List Value) (hX hY : List pnE) (bc bs : Nat) (ok : Value → Prop) : Prop :=
  ∃ (Qx Qy : pnR → List pnE → Prop) (mx sx my sy : Nat), pnCt M6 adK dx mx sx (.ref 0 :: av) hX Qx ∧ pnCt M7 adK dy my sy (.ref 0 :: av) hY Qy ∧ mx + my ≤ bc + 1 ∧ sx + sy ≤ bs + 6 ∧ (∃ r' hY', Qy r' hY') ∧ ∀ r hX', Qx r hX' → ∀ r' hY', Qy r' hY' → ∃ t bc' bs', LIw hX' hY' t bc' bs' ∧ mx + my + bc' ≤ bc + 1 ∧ sx + sy + bs' ≤ bs + 6 ∧ ∃ v, r = .inl (some v) ∧ r' = .inl (some v) ∧ ok v
def okI (v : Value) : Prop := ∃ x : Int32, v = .int x
def okL (v : Value) : Prop := ∃ x : Int64, v = .long x
theorem eqS_lf {N : NS} {Y : MN} (h : eqS N Y) : lfN Y.2.2.2.2.2.2.1 Y.2.1 Y.2.2.2.2.1 = lfN N.2.2.2.2.2.2.1 N.2.1 N.2.2.2.2.1 := by
  obtain ⟨⟨-, h2, -, -, h5, -⟩, h7, -⟩ := h
  rw [h2, h5]
  exact (lfN_agree _ (fun j hj => h7 j hj)).symm
/-- what is known of a network -/
theorem eqS_b {N : NS} {Y : MN} (h : eqS N Y) : shOk N.2.2.1 N.2.2.2.1 ∧ N.1 ≤ 11 ∧ 2 ≤ N.1 ∧ N.2.2.2.2.1 ≤ 55 ∧ ok55 (lfN N.2.2.2.2.2.2.1 N.2.1 N.2.2.2.2.1) ∧ sbL (lfN N.2.2.2.2.2.2.1 N.2.1 N.2.2.2.2.1) N.2.1 := by
  obtain ⟨-, -, -, h1, h2, h3, h4, h5⟩ := h
  have s := lf_sb N.2.2.2.2.2.2.1 N.2.1 N.2.2.2.2.1
  exact ⟨h3, h2, h1, pts_55 h3 h2 h4 h5, h4.sb s, s⟩
