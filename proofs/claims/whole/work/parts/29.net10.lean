theorem telN_congr {row row' : Nat → Int32} {f c most : Nat} (h : ∀ j, j < c → row (f + j) = row' (f + j)) : telN row f c most = telN row' f c most := by
  unfold telN
  apply decide_eq_decide.mpr
  constructor
  · intro h9 i hi
    rw [← h i hi]
    exact ⟨(h9 i hi).1, fun j hj => by rw [← h j (by omega)]; exact (h9 i hi).2 j hj⟩
  · intro h9 i hi
    rw [h i hi]
    exact ⟨(h9 i hi).1, fun j hj => by rw [h j (by omega)]; exact (h9 i hi).2 j hj⟩
theorem lopN_congr {n sh k : Nat} {nd nd' : Nat → Nat} (hS : shOk sh k) (h : ∀ j, j < plN sh k → nd j = nd' j) : ∀ i, i ≤ k → lopN n sh k nd i = lopN n sh k nd' i
  | 0, _ => rfl
  | i + 1, hi => by
    obtain ⟨-, -, -, -, -, b6⟩ := shOk_b hS
    obtain ⟨q1, q2, -⟩ := b6 i (by omega)
    unfold lopN
    rw [lopN_congr hS h i (by omega), h _ q1, h _ q2]
theorem lpN_congr {n sh k : Nat} {row row' : Nat → Int32} {f c : Nat} (hS : shOk sh k) (h : ∀ j, j < c → row (f + j) = row' (f + j)) : lpN n sh k row f c = lpN n sh k row' f c := by
  unfold lpN
  rw [telN_congr h]
  by_cases hc : c = plN sh k
  · rw [lopN_congr (nd := ndN row f) (nd' := ndN row' f) hS (fun j hj => by unfold ndN; rw [h j (by omega)]) k (Nat.le_refl _)]
  · rw [decide_eq_false hc, Bool.false_and, if_neg Bool.false_ne_true, if_neg Bool.false_ne_true]
def spN (n sh k : Nat) (bN : Nat → Nat) (b s : Nat) : Int64 := lpN n sh k (fun j => nI ((bN (b * 5 + j) + s) % n)) 0 (plN sh k)
theorem spN_of {n sh k : Nat} {bN : Nat → Nat} {b s : Nat} {sf : Nat → Int32} (hS : shOk sh k) : lpN n sh k (sfN n bN b s sf 5) 0 (plN sh k) = spN n sh k bN b s := by
  obtain ⟨-, -, -, b4, -, -⟩ := shOk_b hS
  exact lpN_congr hS (fun j hj => by rw [Nat.zero_add]; exact sfN_at n bN b s sf 5 j (by omega))
theorem c_shiftedPart2 (adK : Nat → Nat) (d : Nat) (n : Nat) (g : Int64) (sh k pc bc : Nat) (ps : Nat → Int64) (bN : Nat → Nat) (sf : Nat → Int32) (b s : Nat) (hS : shOk sh k) (hn : n ≤ 11) (hn1 : 1 ≤ n) (hb : b < 4) (hbN : ∀ j, bN j ≤ 30) (hs : s ≤ 1000) : pnCt mX2_shiftedPart adK (d + 4) 0 0 [.ref 0, .int (nI b), .int (nI s)] (hNet n g sh k pc bc ps (fun j => nI (bN j)) sf) (pnIs (.inl (some (.long (spN n sh k bN b s)))) (hNet n g sh k pc bc ps (fun j => nI (bN j)) (sfN n bN b s sf 5))) := by
  rw [← spN_of (sf := sf) hS]
  exact c_shiftedPart adK d n g sh k pc bc ps bN sf b s hS hn hn1 hb hbN hs
/-- bases from b on are parts round n nodes -/
def upN (n sh k : Nat) (bN : Nat → Nat) : Nat → Nat → Bool
  | _, 0 => true
  | b, z + 1 => if spN n sh k bN b 0 = 0 then false else upN n sh k bN (b + 1) z
def cdN (n sh k : Nat) (bN : Nat → Nat) (bc : Nat) : Bool := if n < 3 ∨ bdN sh k bN n bc 0 (n / 2 + 1) ≠ -1 then false else upN n sh k bN 0 bc
set_option maxRecDepth 100000 in
theorem c_canDevelop (adK : Nat → Nat) (d : Nat) (n : Nat) (g : Int64) (sh k pc bc : Nat) (ps : Nat → Int64) (bN : Nat → Nat) (sf : Nat → Int32) (hS : shOk sh k) (hn : n ≤ 11) (hn1 : 1 ≤ n) (hbc : bc ≤ 4) (hbN : ∀ j, bN j ≤ 30) : pnCt mX2_canDevelop adK (d + 5) 0 0 [.ref 0] (hNet n g sh k pc bc ps (fun j => nI (bN j)) sf) (pnEx (fun _ : Nat → Int32 => some (.int (nB (cdN n sh k bN bc)))) (fun sf' => hNet n g sh k pc bc ps (fun j => nI (bN j)) sf')) := by
  refine pnCt_of (by decide) kX2_canDevelop (Nat.le_of_ble_eq_true rfl) rfl (hNet_cl _ _ _ _ _ _ _ _ _) (pnCS_b rfl) ?_
  have loop : ¬ (n < 3 ∨ bdN sh k bN n bc 0 (n / 2 + 1) ≠ -1) → ∀ (m b : Nat) (sf : Nat → Int32), b + m = bc → upN n sh k bN b m = upN n sh k bN 0 bc → pnWP mX2_canDevelop adK (d + 5) (pnEx (fun _ : Nat → Int32 => some (.int (nB (cdN n sh k bN bc)))) (fun sf' => hNet n g sh k pc bc ps (fun j => nI (bN j)) sf')) 0 0 (hNet n g sh k pc bc ps (fun j => nI (bN j)) sf) [some (.ref 0), some (.int (nI b))] [] 24 := by
    intro hg m
    have e0 : cdN n sh k bN bc = upN n sh k bN 0 bc := if_neg hg
    induction m with
    | zero =>
      intro b sf hb e
      refine pn_iload_n (q := 25) dX2_canDevelop_24 rfl rfl ?_
      refine pn_aload_n (q := 26) dX2_canDevelop_25 rfl rfl rfl ?_
      refine pn_get (q := 29) fX2_28 dX2_canDevelop_26 rfl rfl rfl ?_
      first | refine pn_nge (q := 32) (tgt := 51) dX2_canDevelop_29 (by decide) rfl (by omega) (by omega) (fun hc29 => ?_) (fun hc29 => ?_) | refine pn_icmp_ge (q := 32) (tgt := 51) dX2_canDevelop_29 (by decide) rfl (fun hc29 => ?_) (fun hc29 => ?_)
      · refine pn_iconst (q := 52) (v := nI 1) dX2_canDevelop_51 rfl (by decide) ?_
        refine pn_tret (b := cdN n sh k bN bc) _ ?_ dX2_canDevelop_52 rfl ?_
        · rw [e0, ← e]; rfl
        · exact ⟨sf, rfl, rfl⟩
      · omega
    | succ m ih =>
      intro b sf hb e
      have e2 : upN n sh k bN b (m + 1) = if spN n sh k bN b 0 = 0 then false else upN n sh k bN (b + 1) m := rfl
      refine pn_iload_n (q := 25) dX2_canDevelop_24 rfl rfl ?_
      refine pn_aload_n (q := 26) dX2_canDevelop_25 rfl rfl rfl ?_
      refine pn_get (q := 29) fX2_28 dX2_canDevelop_26 rfl rfl rfl ?_
      first | refine pn_nge (q := 32) (tgt := 51) dX2_canDevelop_29 (by decide) rfl (by omega) (by omega) (fun hc29 => ?_) (fun hc29 => ?_) | refine pn_icmp_ge (q := 32) (tgt := 51) dX2_canDevelop_29 (by decide) rfl (fun hc29 => ?_) (fun hc29 => ?_)
      · omega
      · refine pn_aload_n (q := 33) dX2_canDevelop_32 rfl rfl rfl ?_
        refine pn_iload_n (q := 34) dX2_canDevelop_33 rfl rfl ?_
        refine pn_iconst (q := 35) (v := nI 0) dX2_canDevelop_34 rfl (by decide) ?_
        refine pn_upV1 (q := 38) (bc9 := 0) (bs9 := 0) (c_shiftedPart2 adK d n g sh k pc bc ps bN sf b 0 hS hn hn1 (by omega) hbN (by omega)) lkX2_115 dX2_canDevelop_35 rfl rfl (pnSel_of (I := [0, 1, 2, 3]) rfl rfl) (pnFree_none rfl) rfl rfl rfl (by omega) (by omega) (by omega) (Nat.le_of_ble_eq_true rfl) rfl ?_
        refine pn_eq (h' := (hNet n g sh k pc bc ps (fun j => nI (bN j)) (sfN n bN b 0 sf 5))) (st' := _) rfl rfl ?_
        refine pn_lconst (q := 39) (v := 0) dX2_canDevelop_38 rfl (by decide) ?_
        refine pn_lne (q1 := 40) (q := 43) (tgt := 45) dX2_canDevelop_39 rfl dX2_canDevelop_40 (by decide) rfl (fun hc39 => ?_) (fun hc39 => ?_)
        · first | refine pn_iinc1 (q := 48) dX2_canDevelop_45 rfl rfl (by decide) ?_ | refine pn_iinc (q := 48) (mm := 1) dX2_canDevelop_45 rfl rfl (by decide) (by decide) ?_
          refine pn_goto (q := 24) dX2_canDevelop_48 (by decide) ?_
          exact ih (b + 1) _ (by omega) (by rw [← e, e2, if_neg ‹_›])
        · refine pn_iconst (q := 44) (v := nI 0) dX2_canDevelop_43 rfl (by decide) ?_
          refine pn_tret (b := cdN n sh k bN bc) _ ?_ dX2_canDevelop_44 rfl ?_
          · rw [e0, ← e, e2, if_pos ‹_›]; rfl
          · exact ⟨_, rfl, rfl⟩
  refine pn_aload_n (q := 1) dX2_canDevelop_0 rfl rfl rfl ?_
  refine pn_get (q := 4) fX2_9 dX2_canDevelop_1 rfl rfl rfl ?_
  refine pn_iconst (q := 5) (v := nI 3) dX2_canDevelop_4 rfl (by decide) ?_
  first | refine pn_nlt (q := 8) (tgt := 20) dX2_canDevelop_5 (by decide) rfl (by omega) (by omega) (fun hc5 => ?_) (fun hc5 => ?_) | refine pn_icmp_lt (q := 8) (tgt := 20) dX2_canDevelop_5 (by decide) rfl (fun hc5 => ?_) (fun hc5 => ?_)
  · refine pn_iconst (q := 21) (v := nI 0) dX2_canDevelop_20 rfl (by decide) ?_
    refine pn_tret (b := cdN n sh k bN bc) _ ?_ dX2_canDevelop_21 rfl ?_
    · first | (rw [show cdN n sh k bN bc = false from if_pos (Or.inl ‹_›)]; rfl) | (rw [show cdN n sh k bN bc = false from if_pos (Or.inr ‹_›)]; rfl)
    · exact ⟨_, rfl, rfl⟩
  · refine pn_aload_n (q := 9) dX2_canDevelop_8 rfl rfl rfl ?_
    refine pn_aload_n (q := 10) dX2_canDevelop_9 rfl rfl rfl ?_
    refine pn_get (q := 13) fX2_9 dX2_canDevelop_10 rfl rfl rfl ?_
    refine pn_roV1 (q := 16) (c_badDifference adK d n g sh k pc bc ps bN sf n hS hbc hbN (by omega) (by omega)) lkX2_112 dX2_canDevelop_13 rfl rfl (pnSel_of (I := [0, 1, 2, 3]) rfl rfl) (pnFree_none rfl) rfl rfl rfl (by omega) (Nat.le_of_ble_eq_true rfl) rfl ?_
    refine pn_iconst (q := 17) (v := (-1)) dX2_canDevelop_16 rfl (by decide) ?_
    refine pn_icmp_eq (q := 20) (tgt := 22) dX2_canDevelop_17 (by decide) rfl (fun hc17 => ?_) (fun hc17 => ?_)
    · refine pn_iconst (q := 23) (v := nI 0) dX2_canDevelop_22 rfl (by decide) ?_
      refine pn_istore_n (q := 24) dX2_canDevelop_23 rfl (by decide) ?_
      exact loop (fun q => by rcases q with q | q; omega; exact q hc17) bc 0 _ (by omega) rfl
    · refine pn_iconst (q := 21) (v := nI 0) dX2_canDevelop_20 rfl (by decide) ?_
      refine pn_tret (b := cdN n sh k bN bc) _ ?_ dX2_canDevelop_21 rfl ?_
      · first | (rw [show cdN n sh k bN bc = false from if_pos (Or.inl ‹_›)]; rfl) | (rw [show cdN n sh k bN bc = false from if_pos (Or.inr ‹_›)]; rfl)
      · exact ⟨_, rfl, rfl⟩
/-- parts and network behind s shifts of base b (all of those ahead are laid) -/
def dvP (n sh k : Nat) (bN : Nat → Nat) (ps : Nat → Int64) (b : Nat) : Nat → Nat → Int64
  | 0 => ps
  | s + 1 => vp_updL (dvP n sh k bN ps b s) (b * n + s) (spN n sh k bN b s)
def dvG (n sh k : Nat) (bN : Nat → Nat) (g : Int64) (b : Nat) : Nat → Int64
  | 0 => g
  | s + 1 => dvG n sh k bN g b s ||| spN n sh k bN b s
def dvPs (n sh k : Nat) (bN : Nat → Nat) (ps : Nat → Int64) : Nat → Nat → Int64
  | 0 => ps
  | b + 1 => dvP n sh k bN (dvPs n sh k bN ps b) b n
def dvGs (n sh k : Nat) (bN : Nat → Nat) : Nat → Int64
  | 0 => 0
  | b + 1 => dvG n sh k bN (dvGs n sh k bN b) b n
set_option maxRecDepth 100000 in
theorem c_developBases (adK : Nat → Nat) (d : Nat) (n : Nat) (g : Int64) (sh k pc bc : Nat) (ps : Nat → Int64) (bN : Nat → Nat) (sf : Nat → Int32) (hS : shOk sh k) (hn : n ≤ 11) (hn1 : 1 ≤ n) (hbc : bc ≤ 4) (hbN : ∀ j, bN j ≤ 30) : pnCt mX2_developBases adK (d + 5) 0 0 [.ref 0] (hNet n g sh k pc bc ps (fun j => nI (bN j)) sf) (pnEx (fun _ : Nat → Int32 => none) (fun sf' => hNet n (dvGs n sh k bN bc) sh k (bc * n) bc (dvPs n sh k bN ps bc) (fun j => nI (bN j)) sf')) := by
  refine pnCt_of (by decide) kX2_developBases (Nat.le_of_ble_eq_true rfl) rfl (hNet_cl _ _ _ _ _ _ _ _ _) (pnCS_b rfl) ?_
  have hbn : ∀ b, b ≤ 4 → b * n ≤ 44 := fun b hb => by
    have := Nat.mul_le_mul hb hn
    omega
  have inner : ∀ b, b < bc → (∀ sf, pnWP mX2_developBases adK (d + 5) (pnEx (fun _ : Nat → Int32 => none) (fun sf' => hNet n (dvGs n sh k bN bc) sh k (bc * n) bc (dvPs n sh k bN ps bc) (fun j => nI (bN j)) sf')) 0 0 (hNet n (dvGs n sh k bN (b + 1)) sh k ((b + 1) * n) bc (dvPs n sh k bN ps (b + 1)) (fun j => nI (bN j)) sf) [some (.ref 0), some (.int (nI b))] [] 58) →
      ∀ (m s : Nat) (sf : Nat → Int32), s + m = n → pnWP mX2_developBases adK (d + 5) (pnEx (fun _ : Nat → Int32 => none) (fun sf' => hNet n (dvGs n sh k bN bc) sh k (bc * n) bc (dvPs n sh k bN ps bc) (fun j => nI (bN j)) sf')) 0 0 (hNet n (dvG n sh k bN (dvGs n sh k bN b) b s) sh k (b * n + s) bc (dvP n sh k bN (dvPs n sh k bN ps b) b s) (fun j => nI (bN j)) sf) [some (.ref 0), some (.int (nI b)), some (.int (nI s))] [] 22 := by
    intro b hb kk m
    have hb4 := hbn b (by omega)
    induction m with
    | zero =>
      intro s sf hs
      have hsn : s = n := by omega
      subst hsn
      have k9 := kk sf
      rw [show (b + 1) * s = b * s + s from Nat.succ_mul b s] at k9
      refine pn_iload_n (q := 23) dX2_developBases_22 rfl rfl ?_
      refine pn_aload_n (q := 24) dX2_developBases_23 rfl rfl rfl ?_
      refine pn_get (q := 27) fX2_9 dX2_developBases_24 rfl rfl rfl ?_
      first | refine pn_nge (q := 30) (tgt := 58) dX2_developBases_27 (by decide) rfl (by omega) (by omega) (fun hc27 => ?_) (fun hc27 => ?_) | refine pn_icmp_ge (q := 30) (tgt := 58) dX2_developBases_27 (by decide) rfl (fun hc27 => ?_) (fun hc27 => ?_)
      · exact pn_take 2 k9
      · omega
    | succ m ih =>
      intro s sf hs
      refine pn_iload_n (q := 23) dX2_developBases_22 rfl rfl ?_
      refine pn_aload_n (q := 24) dX2_developBases_23 rfl rfl rfl ?_
      refine pn_get (q := 27) fX2_9 dX2_developBases_24 rfl rfl rfl ?_
      first | refine pn_nge (q := 30) (tgt := 58) dX2_developBases_27 (by decide) rfl (by omega) (by omega) (fun hc27 => ?_) (fun hc27 => ?_) | refine pn_icmp_ge (q := 30) (tgt := 58) dX2_developBases_27 (by decide) rfl (fun hc27 => ?_) (fun hc27 => ?_)
      · omega
      · refine pn_aload_n (q := 31) dX2_developBases_30 rfl rfl rfl ?_
        refine pn_iload_n (q := 32) dX2_developBases_31 rfl rfl ?_
        refine pn_iload_n (q := 33) dX2_developBases_32 rfl rfl ?_
        refine pn_upV1 (q := 36) (bc9 := 0) (bs9 := 0) (c_shiftedPart2 adK d n (dvG n sh k bN (dvGs n sh k bN b) b s) sh k (b * n + s) bc (dvP n sh k bN (dvPs n sh k bN ps b) b s) bN sf b s hS hn hn1 (by omega) hbN (by omega)) lkX2_115 dX2_developBases_33 rfl rfl (pnSel_of (I := [0, 1, 2, 3]) rfl rfl) (pnFree_none rfl) rfl rfl rfl (by omega) (by omega) (by omega) (Nat.le_of_ble_eq_true rfl) rfl ?_
        refine pn_eq (h' := (hNet n (dvG n sh k bN (dvGs n sh k bN b) b s) sh k (b * n + s) bc (dvP n sh k bN (dvPs n sh k bN ps b) b s) (fun j => nI (bN j)) (sfN n bN b s sf 5))) (st' := _) rfl rfl ?_
        refine pn_lstore_n (q := 37) dX2_developBases_36 rfl (by decide) ?_
        refine pn_aload_n (q := 38) dX2_developBases_37 rfl rfl rfl ?_
        refine pn_dup (q := 39) dX2_developBases_38 rfl rfl ?_
        refine pn_get (q := 42) fX2_15 dX2_developBases_39 rfl rfl rfl ?_
        refine pn_lload_n (q := 43) dX2_developBases_42 rfl rfl ?_
        refine pn_lor (q := 44) dX2_developBases_43 rfl ?_
        refine pn_put (q := 47) fX2_15 dX2_developBases_44 rfl rfl (Nat.le_of_ble_eq_true rfl) (pnF_long _) ?_
        refine pn_aload_n (q := 48) dX2_developBases_47 rfl rfl rfl ?_
        refine pn_lload_n (q := 49) dX2_developBases_48 rfl rfl ?_
        refine pn_upV0 (q := 52) (bc9 := 0) (bs9 := 0) (c_putIn adK d n (dvG n sh k bN (dvGs n sh k bN b) b (s + 1)) sh k (b * n + s) bc (dvP n sh k bN (dvPs n sh k bN ps b) b s) (fun j => nI (bN j)) (sfN n bN b s sf 5) (spN n sh k bN b s) (by omega)) lkX2_119 dX2_developBases_49 rfl rfl (pnSel_of (I := [0, 1, 2, 3]) rfl rfl) (pnFree_none rfl) rfl rfl rfl (by omega) (by omega) (by omega) (Nat.le_of_ble_eq_true rfl) ?_
        refine pn_eq (h' := (hNet n (dvG n sh k bN (dvGs n sh k bN b) b (s + 1)) sh k (b * n + (s + 1)) bc (dvP n sh k bN (dvPs n sh k bN ps b) b (s + 1)) (fun j => nI (bN j)) (sfN n bN b s sf 5))) (st' := _) rfl rfl ?_
        first | refine pn_iinc1 (q := 55) dX2_developBases_52 rfl rfl (by decide) ?_ | refine pn_iinc (q := 55) (mm := 1) dX2_developBases_52 rfl rfl (by decide) (by decide) ?_
        refine pn_goto (q := 22) dX2_developBases_55 (by decide) ?_
        exact pn_take 3 (ih (s + 1) _ (by omega))
  have outer : ∀ (m b : Nat) (sf : Nat → Int32), b + m = bc → pnWP mX2_developBases adK (d + 5) (pnEx (fun _ : Nat → Int32 => none) (fun sf' => hNet n (dvGs n sh k bN bc) sh k (bc * n) bc (dvPs n sh k bN ps bc) (fun j => nI (bN j)) sf')) 0 0 (hNet n (dvGs n sh k bN b) sh k (b * n) bc (dvPs n sh k bN ps b) (fun j => nI (bN j)) sf) [some (.ref 0), some (.int (nI b))] [] 12 := by
    intro m
    induction m with
    | zero =>
      intro b sf hb
      have hbb : b = bc := by omega
      subst hbb
      refine pn_iload_n (q := 13) dX2_developBases_12 rfl rfl ?_
      refine pn_aload_n (q := 14) dX2_developBases_13 rfl rfl rfl ?_
      refine pn_get (q := 17) fX2_28 dX2_developBases_14 rfl rfl rfl ?_
      first | refine pn_nge (q := 20) (tgt := 64) dX2_developBases_17 (by decide) rfl (by omega) (by omega) (fun hc17 => ?_) (fun hc17 => ?_) | refine pn_icmp_ge (q := 20) (tgt := 64) dX2_developBases_17 (by decide) rfl (fun hc17 => ?_) (fun hc17 => ?_)
      · refine pn_vret dX2_developBases_64 rfl ?_
        exact ⟨sf, rfl, rfl⟩
      · omega
    | succ m ih =>
      intro b sf hb
      have k58 : ∀ sf, pnWP mX2_developBases adK (d + 5) (pnEx (fun _ : Nat → Int32 => none) (fun sf' => hNet n (dvGs n sh k bN bc) sh k (bc * n) bc (dvPs n sh k bN ps bc) (fun j => nI (bN j)) sf')) 0 0 (hNet n (dvGs n sh k bN (b + 1)) sh k ((b + 1) * n) bc (dvPs n sh k bN ps (b + 1)) (fun j => nI (bN j)) sf) [some (.ref 0), some (.int (nI b))] [] 58 := by
        intro sf
        first | refine pn_iinc1 (q := 61) dX2_developBases_58 rfl rfl (by decide) ?_ | refine pn_iinc (q := 61) (mm := 1) dX2_developBases_58 rfl rfl (by decide) (by decide) ?_
        refine pn_goto (q := 12) dX2_developBases_61 (by decide) ?_
        exact ih (b + 1) sf (by omega)
      refine pn_iload_n (q := 13) dX2_developBases_12 rfl rfl ?_
      refine pn_aload_n (q := 14) dX2_developBases_13 rfl rfl rfl ?_
      refine pn_get (q := 17) fX2_28 dX2_developBases_14 rfl rfl rfl ?_
      first | refine pn_nge (q := 20) (tgt := 64) dX2_developBases_17 (by decide) rfl (by omega) (by omega) (fun hc17 => ?_) (fun hc17 => ?_) | refine pn_icmp_ge (q := 20) (tgt := 64) dX2_developBases_17 (by decide) rfl (fun hc17 => ?_) (fun hc17 => ?_)
      · omega
      · refine pn_iconst (q := 21) (v := nI 0) dX2_developBases_20 rfl (by decide) ?_
        refine pn_istore_n (q := 22) dX2_developBases_21 rfl (by decide) ?_
        exact inner b (by omega) k58 n 0 _ (by omega)
  have k0 := outer bc 0 sf (by omega)
  rw [Nat.zero_mul] at k0
  refine pn_aload_n (q := 1) dX2_developBases_0 rfl rfl rfl ?_
  refine pn_iconst (q := 2) (v := nI 0) dX2_developBases_1 rfl (by decide) ?_
  refine pn_put (q := 5) fX2_25 dX2_developBases_2 rfl rfl (Nat.le_of_ble_eq_true rfl) (pnF_int _) ?_
  refine pn_aload_n (q := 6) dX2_developBases_5 rfl rfl rfl ?_
  refine pn_lconst (q := 7) (v := 0) dX2_developBases_6 rfl (by decide) ?_
  refine pn_put (q := 10) fX2_15 dX2_developBases_7 rfl rfl (Nat.le_of_ble_eq_true rfl) (pnF_long _) ?_
  refine pn_iconst (q := 11) (v := nI 0) dX2_developBases_10 rfl (by decide) ?_
  refine pn_istore_n (q := 12) dX2_developBases_11 rfl (by decide) ?_
  exact k0
