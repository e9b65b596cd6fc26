/-! ===== reading: both sides see the same signs ===== -/
def byOk (F : Nat → Int32) : Prop := ∀ j, -128 ≤ (F j).toInt ∧ (F j).toInt ≤ 127
theorem by_p : ∀ j, j < 128 → nI j &&& 255 = nI j := by decide +kernel
theorem by_n : ∀ j, j < 128 → (nI j - nI 128) &&& 255 = nI (128 + j) := by decide +kernel
theorem by_c {x : Int32} (h : -128 ≤ x.toInt ∧ x.toInt ≤ 127) : (∃ j, j < 128 ∧ x = nI j ∧ x &&& 255 = nI j) ∨ (x.toInt < 0 ∧ ∃ j, j < 128 ∧ x &&& 255 = nI (128 + j)) := by
  by_cases q : 0 ≤ x.toInt
  · left
    have e : x = nI x.toInt.toNat := by apply Int32.toInt_inj.mp; rw [nI_toInt (by omega)]; omega
    refine ⟨x.toInt.toNat, by omega, e, ?_⟩
    conv => lhs; rw [e]
    exact by_p _ (by omega)
  · right
    refine ⟨by omega, (x.toInt + 128).toNat, by omega, ?_⟩
    have e : x = nI (x.toInt + 128).toNat - nI 128 := by
      apply Int32.toInt_inj.mp
      rw [pk_sub_toInt (by omega) (by omega)]
      omega
    conv => lhs; rw [e]
    exact by_n _ (by omega)
/-- the same signs below 128 -/
def smT (F G : Nat → Int32) : Prop := ∀ p c, c < 128 → (F p = nI c ↔ G p = nI c)
theorem tp_sm {F G : Nat → Int32} (hF : byOk F) (h : tpR G F) : smT F G ∧ ∀ j, ∃ m, m < 256 ∧ G j = nI m := by
  refine ⟨fun p c hc => ?_, fun j => ?_⟩
  · rw [h p]
    rcases by_c (hF p) with ⟨j, h1, h2, h3⟩ | ⟨h1, j, h2, h3⟩
    · rw [h3, h2]
    · rw [h3]
      constructor
      · intro e; rw [e, nI_toInt (by omega)] at h1; omega
      · intro e; have := (nI_eq (by omega) (by omega)).mp e; omega
  · rw [h j]
    rcases by_c (hF j) with ⟨m, h1, h2, h3⟩ | ⟨h1, m, h2, h3⟩
    · exact ⟨m, by omega, h3⟩
    · exact ⟨128 + m, by omega, h3⟩
theorem ltB_iff {x : Int32} : ltB x = true ↔ ∃ c, 97 ≤ c ∧ c ≤ 122 ∧ x = nI c := by
  unfold ltB
  rw [decide_eq_true_iff, Int32.lt_iff_toInt_lt, Int32.lt_iff_toInt_lt, nI_toInt (by omega), nI_toInt (by omega)]
  constructor
  · intro h
    refine ⟨x.toInt.toNat, by omega, by omega, ?_⟩
    apply Int32.toInt_inj.mp
    rw [nI_toInt (by omega)]
    omega
  · rintro ⟨c, h1, h2, rfl⟩
    rw [nI_toInt (by omega)]
    omega
theorem dgB_iff {x : Int32} : dgB x = true ↔ ∃ c, 48 ≤ c ∧ c ≤ 57 ∧ x = nI c := by
  unfold dgB
  rw [decide_eq_true_iff, Int32.lt_iff_toInt_lt, Int32.lt_iff_toInt_lt, nI_toInt (by omega), nI_toInt (by omega)]
  constructor
  · intro h
    refine ⟨x.toInt.toNat, by omega, by omega, ?_⟩
    apply Int32.toInt_inj.mp
    rw [nI_toInt (by omega)]
    omega
  · rintro ⟨c, h1, h2, rfl⟩
    rw [nI_toInt (by omega)]
    omega
theorem sm_lt {F G : Nat → Int32} (h : smT F G) (p : Nat) : ltB (F p) = ltB (G p) := by
  cases e1 : ltB (F p) <;> cases e2 : ltB (G p)
  · rfl
  · obtain ⟨c, h1, h2, h3⟩ := ltB_iff.mp e2
    rw [ltB_iff.mpr ⟨c, h1, h2, (h p c (by omega)).mpr h3⟩] at e1; cases e1
  · obtain ⟨c, h1, h2, h3⟩ := ltB_iff.mp e1
    rw [ltB_iff.mpr ⟨c, h1, h2, (h p c (by omega)).mp h3⟩] at e2; cases e2
  · rfl
theorem sm_dg {F G : Nat → Int32} (h : smT F G) (p : Nat) : dgB (F p) = dgB (G p) ∧ (dgB (F p) = true → F p = G p) := by
  constructor
  · cases e1 : dgB (F p) <;> cases e2 : dgB (G p)
    · rfl
    · obtain ⟨c, h1, h2, h3⟩ := dgB_iff.mp e2
      rw [dgB_iff.mpr ⟨c, h1, h2, (h p c (by omega)).mpr h3⟩] at e1; cases e1
    · obtain ⟨c, h1, h2, h3⟩ := dgB_iff.mp e1
      rw [dgB_iff.mpr ⟨c, h1, h2, (h p c (by omega)).mp h3⟩] at e2; cases e2
    · rfl
  · intro e
    obtain ⟨c, h1, h2, h3⟩ := dgB_iff.mp e
    rw [h3, (h p c (by omega)).mp h3]
theorem sm_sk {F G : Nat → Int32} (h : smT F G) : ∀ z p, skS F z p = skS G z p
  | 0, _ => rfl
  | z + 1, p => by
    show (if F p = nI 32 then skS F z (p + 1) else p) = if G p = nI 32 then skS G z (p + 1) else p
    rw [sm_sk h z (p + 1)]
    by_cases q : F p = nI 32
    · rw [if_pos q, if_pos ((h p 32 (by omega)).mp q)]
    · rw [if_neg q, if_neg (fun y => q ((h p 32 (by omega)).mpr y))]
theorem sm_le {F G : Nat → Int32} (h : smT F G) : ∀ z p, leE F z p = leE G z p
  | 0, _ => rfl
  | z + 1, p => by
    show (if ltB (F p) = true then leE F z (p + 1) else p) = if ltB (G p) = true then leE G z (p + 1) else p
    rw [sm_le h z (p + 1), sm_lt h p]
theorem sm_dE {F G : Nat → Int32} (h : smT F G) : ∀ z p, dgE F z p = dgE G z p
  | 0, _ => rfl
  | z + 1, p => by
    show (if dgB (F p) = true then dgE F z (p + 1) else p) = if dgB (G p) = true then dgE G z (p + 1) else p
    rw [sm_dE h z (p + 1), (sm_dg h p).1]
theorem sm_dV {F G : Nat → Int32} (h : smT F G) : ∀ z p v, dgV F z p v = dgV G z p v
  | 0, _, _ => rfl
  | z + 1, p, v => by
    show (if dgB (F p) = true then dgV F z (p + 1) (min 1000 (v * 10 + dgN (F p))) else v) = if dgB (G p) = true then dgV G z (p + 1) (min 1000 (v * 10 + dgN (G p))) else v
    rw [sm_dV h z (p + 1)]
    by_cases q : dgB (F p) = true
    · rw [if_pos q, if_pos ((sm_dg h p).1.symm.trans q), (sm_dg h p).2 q]
    · rw [if_neg q, if_neg (fun y => q ((sm_dg h p).1.trans y))]
theorem sm_tk {F G : Nat → Int32} (h : smT F G) (len e v : Nat) : tkS len F e = tkS len G e ∧ tkE len F e = tkE len G e ∧ tkK len F e = tkK len G e ∧ tkV len F e v = tkV len G e v := by
  have e1 : tkS len F e = tkS len G e := sm_sk h _ _
  have e2 : (F (tkS len G e) = nI 59) ↔ (G (tkS len G e) = nI 59) := h _ 59 (by omega)
  refine ⟨e1, ?_, ?_, ?_⟩
  · unfold tkE; rw [e1, sm_lt h, (sm_dg h _).1, sm_le h, sm_dE h]
  · unfold tkK; rw [e1, sm_lt h, (sm_dg h _).1]; simp only [e2]
  · unfold tkV; rw [e1, sm_lt h, (sm_dg h _).1, sm_dV h]
theorem sm_wd {F G : Nat → Int32} (h : smT F G) : ∀ (w : List Char) (p : Nat), (∀ c, c ∈ w → c.toNat < 128) → wdM F p w = wdM G p w
  | [], _, _ => rfl
  | c :: t, p, hw => by
    show (decide (F p = nI c.toNat) && wdM F (p + 1) t) = (decide (G p = nI c.toNat) && wdM G (p + 1) t)
    rw [sm_wd h t (p + 1) (fun x hx => hw x (List.mem_cons_of_mem _ hx)), decide_eq_decide.mpr (h p c.toNat (hw c List.mem_cons_self))]
theorem sm_adv {F G : Nat → Int32} (h : smT F G) (len : Nat) (s : RS) : advR len F s = advR len G s := by
  obtain ⟨h1, h2, h3, h4⟩ := sm_tk h len s.2.2.2.1 s.2.2.2.2.2.1
  unfold advR
  rw [h1, h2, h3, h4]
theorem sm_wr {F G : Nat → Int32} (h : smT F G) (w : String) (hw : ∀ c, c ∈ w.toList → c.toNat < 128) (s : RS) : wrdR F w s = wrdR G w s := by
  unfold wrdR wdB
  rw [sm_wd h _ _ hw]
theorem sm_rn {F G : Nat → Int32} (h : smT F G) {len LEN fr most : Nat} : ∀ z c fp flt st en kd vl row, rnR len F LEN fr most z c fp flt st en kd vl row = rnR len G LEN fr most z c fp flt st en kd vl row
  | 0, _, _, _, _, _, _, _, _ => rfl
  | z + 1, c, fp, flt, st, en, kd, vl, row => by
    show (if 0 < c ∧ ¬ kd = 2 then (c, fp, flt, st, en, kd, vl, row) else if nuB kd vl 0 most = true then rnR len F LEN fr most z (c + 1) fp flt (tkS len F en) (tkE len F en) (tkK len F en) (tkV len F en vl) (if fr + c < LEN then upd row (fr + c) (nI vl) else row) else _) = (if 0 < c ∧ ¬ kd = 2 then (c, fp, flt, st, en, kd, vl, row) else if nuB kd vl 0 most = true then rnR len G LEN fr most z (c + 1) fp flt (tkS len G en) (tkE len G en) (tkK len G en) (tkV len G en vl) (if fr + c < LEN then upd row (fr + c) (nI vl) else row) else _)
    obtain ⟨h1, h2, h3, h4⟩ := sm_tk h len en vl
    rw [h1, h2, h3, h4, sm_rn h z]
theorem sm_rnS {F G : Nat → Int32} (h : smT F G) (len LEN fr most : Nat) (s : RS) (row : Nat → Int32) : rnS len F LEN fr most s row = rnS len G LEN fr most s row := sm_rn h _ _ _ _ _ _ _ _ _
theorem wd_all : ∀ c, c ∈ "all".toList → c.toNat < 128 := by decide +kernel
theorem wd_line : ∀ c, c ∈ "line".toList → c.toNat < 128 := by decide +kernel
theorem wd_less : ∀ c, c ∈ "less".toList → c.toNat < 128 := by decide +kernel
theorem wd_shape : ∀ c, c ∈ "shape".toList → c.toNat < 128 := by decide +kernel
theorem wd_part : ∀ c, c ∈ "part".toList → c.toNat < 128 := by decide +kernel
theorem wd_base : ∀ c, c ∈ "base".toList → c.toNat < 128 := by decide +kernel
theorem wd_nodes : ∀ c, c ∈ "nodes".toList → c.toNat < 128 := by decide +kernel
theorem wd_triangle : ∀ c, c ∈ "triangle".toList → c.toNat < 128 := by decide +kernel
theorem wd_path : ∀ c, c ∈ "path".toList → c.toNat < 128 := by decide +kernel
theorem wd_star : ∀ c, c ∈ "star".toList → c.toNat < 128 := by decide +kernel
theorem wd_ring : ∀ c, c ∈ "ring".toList → c.toNat < 128 := by decide +kernel
theorem sm_siz {F G : Nat → Int32} (h : smT F G) (len sh lo hi : Nat) (s : RS) : sizR len F sh lo hi s = sizR len G sh lo hi s := by unfold sizR; simp only [sm_adv h len]
theorem sm_ent {F G : Nat → Int32} (h : smT F G) (len : Nat) (s : RS) : entR len F s = entR len G s := by
  unfold entR linR shpR shpN prtR basR
  simp only [sm_adv h len, sm_rnS h len, sm_siz h len, sm_wr h "all" wd_all, sm_wr h "line" wd_line, sm_wr h "less" wd_less, sm_wr h "shape" wd_shape, sm_wr h "part" wd_part, sm_wr h "base" wd_base, sm_wr h "triangle" wd_triangle, sm_wr h "path" wd_path, sm_wr h "star" wd_star, sm_wr h "ring" wd_ring]
theorem sm_pas {F G : Nat → Int32} (h : smT F G) (len : Nat) (s : RS) : pasR len F s = pasR len G s := by unfold pasR; simp only [sm_adv h len]
theorem sm_stp {F G : Nat → Int32} (h : smT F G) (len : Nat) (s : RS) : stpR len F s = stpR len G s := by unfold stpR; simp only [sm_ent h len, sm_pas h len]
theorem sm_lop {F G : Nat → Int32} (h : smT F G) (len : Nat) : ∀ z r, lopR len F z r = lopR len G z r
  | 0, _ => rfl
  | z + 1, r => by
    show (if r.1 = true ∧ ¬ r.2.2.2.2.2.1 = 0 then lopR len F z (stpR len F r.2) else r) = if r.1 = true ∧ ¬ r.2.2.2.2.2.1 = 0 then lopR len G z (stpR len G r.2) else r
    rw [sm_stp h len, sm_lop h len z]
theorem sm_rea {F G : Nat → Int32} (h : smT F G) (len : Nat) (s : RS) : reaR len F s = reaR len G s := by
  unfold reaR hedR
  simp only [sm_adv h len, sm_wr h "nodes" wd_nodes, sm_pas h len, sm_lop h len]
