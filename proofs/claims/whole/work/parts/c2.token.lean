/-! ===== reading: a token of the class, and what the reference takes there ===== -/
theorem skS_end (b : Nat → Int32) : ∀ z p, skS b z p < p + z → ¬ b (skS b z p) = nI 32
  | 0, p, h => by have h : p < p + 0 := h; omega
  | z + 1, p, h => by
    have e : skS b (z + 1) p = if b p = nI 32 then skS b z (p + 1) else p := rfl
    rw [e] at h ⊢
    by_cases q : b p = nI 32
    · rw [if_pos q] at h ⊢; exact skS_end b z (p + 1) (by omega)
    · rw [if_neg q]; exact q
theorem tkS_b {len : Nat} {B : Nat → Int32} {p : Nat} (hp : p ≤ len) : p ≤ tkS len B p ∧ tkS len B p ≤ len ∧ (tkS len B p < len → ¬ B (tkS len B p) = nI 32) := by
  obtain ⟨h1, h2⟩ := skS_le B (len - p) p
  exact ⟨h1, by show skS B (len - p) p ≤ len; omega, fun h => skS_end B (len - p) p (by have h : skS B (len - p) p < len := h; omega)⟩
theorem tkS_id {len : Nat} {B : Nat → Int32} {p : Nat} (hp : p ≤ len) : tkS len B (tkS len B p) = tkS len B p := by
  obtain ⟨h1, h2, h3⟩ := tkS_b (B := B) hp
  generalize tkS len B p = q at *
  unfold tkS
  by_cases z : q = len
  · subst z; rw [Nat.sub_self]; rfl
  · rw [show len - q = (len - q - 1) + 1 by omega]
    show (if B q = nI 32 then skS B (len - q - 1) (q + 1) else q) = q
    rw [if_neg (h3 (by omega))]
theorem tk_id {len : Nat} {B : Nat → Int32} {p : Nat} (hp : p ≤ len) (v : Nat) : tkE len B (tkS len B p) = tkE len B p ∧ tkK len B (tkS len B p) = tkK len B p ∧ tkV len B (tkS len B p) v = tkV len B p v := by
  unfold tkE tkK tkV
  rw [tkS_id hp]
  exact ⟨rfl, rfl, rfl⟩
theorem leE_in (b : Nat → Int32) : ∀ z p, (∀ i, p ≤ i → i < leE b z p → ltB (b i) = true) ∧ (leE b z p < p + z → ltB (b (leE b z p)) = false)
  | 0, p => ⟨fun i h1 h2 => by have h2 : i < p := h2; omega, fun h => by have h : p < p + 0 := h; omega⟩
  | z + 1, p => by
    have e : leE b (z + 1) p = if ltB (b p) = true then leE b z (p + 1) else p := rfl
    rw [e]
    by_cases q : ltB (b p) = true
    · rw [if_pos q]
      obtain ⟨h1, h2⟩ := leE_in b z (p + 1)
      refine ⟨fun i i1 i2 => ?_, fun h => h2 (by omega)⟩
      by_cases y : i = p
      · subst y; exact q
      · exact h1 i (by omega) i2
    · rw [if_neg q]
      exact ⟨fun i i1 i2 => by omega, fun _ => by cases y : ltB (b p) with | false => rfl | true => exact absurd y q⟩
theorem leE_eq {b : Nat → Int32} {e : Nat} : ∀ z p, p ≤ e → e ≤ p + z → (∀ i, p ≤ i → i < e → ltB (b i) = true) → (e < p + z → ltB (b e) = false) → leE b z p = e
  | 0, p, h1, h2, _, _ => by show p = e; omega
  | z + 1, p, h1, h2, h3, h4 => by
    show (if ltB (b p) = true then leE b z (p + 1) else p) = e
    by_cases q : p = e
    · subst q
      rw [h4 (by omega), if_neg (by intro w; cases w)]
    · rw [if_pos (h3 p (by omega) (by omega))]
      exact leE_eq z (p + 1) (by omega) (by omega) (fun i i1 i2 => h3 i (by omega) i2) (fun h => h4 (by omega))
theorem wdM_iff {b : Nat → Int32} : ∀ (w : List Char) (p : Nat), wdM b p w = true ↔ ∀ i, i < w.length → b (p + i) = nI (w.getD i 'a').toNat
  | [], p => ⟨fun _ i h => (by cases h), fun _ => rfl⟩
  | c :: t, p => by
    show (decide (b p = nI c.toNat) && wdM b (p + 1) t) = true ↔ _
    rw [and9, decide_eq_true_iff, wdM_iff t (p + 1)]
    constructor
    · rintro ⟨h1, h2⟩ i hi
      cases i with
      | zero => exact h1
      | succ i => rw [List.length_cons] at hi; rw [show p + (i + 1) = p + 1 + i by omega]; exact h2 i (by omega)
    · intro h
      refine ⟨h 0 (by rw [List.length_cons]; omega), fun i hi => ?_⟩
      have := h (i + 1) (by rw [List.length_cons]; omega)
      rw [show p + (i + 1) = p + 1 + i by omega] at this
      exact this
/-- a word of small letters -/
def loW (w : List Char) : Prop := 0 < w.length ∧ ∀ i, i < w.length → 97 ≤ (w.getD i 'a').toNat ∧ (w.getD i 'a').toNat ≤ 122
def loB (w : List Char) : Bool := Nat.blt 0 w.length && alB (fun i => Nat.ble 97 (w.getD i 'a').toNat && Nat.ble (w.getD i 'a').toNat 122) w.length
theorem lo_of {w : List Char} (h : loB w = true) : loW w := by
  unfold loB at h
  rw [and9, blt_iff, alB_iff] at h
  refine ⟨h.1, fun i hi => ?_⟩
  have := h.2 i hi
  rw [and9] at this
  exact ⟨Nat.le_of_ble_eq_true this.1, Nat.le_of_ble_eq_true this.2⟩
theorem tkK_1 {len : Nat} {B : Nat → Int32} {p : Nat} : tkK len B p = 1 ↔ tkS len B p < len ∧ ltB (B (tkS len B p)) = true := by
  unfold tkK
  constructor
  · intro h
    by_cases q : len ≤ tkS len B p
    · rw [if_pos q] at h; omega
    · rw [if_neg q] at h
      by_cases y : ltB (B (tkS len B p)) = true
      · exact ⟨by omega, y⟩
      · rw [if_neg y] at h; repeat' split at h
        all_goals omega
  · rintro ⟨h1, h2⟩
    rw [if_neg (by omega), if_pos h2]
theorem lt_dg {x : Int32} (h : ltB x = true) : dgB x = false := by
  obtain ⟨c, h1, h2, rfl⟩ := ltB_iff.mp h
  cases e : dgB (nI c) with
  | false => rfl
  | true =>
    obtain ⟨d, g1, g2, g3⟩ := dgB_iff.mp e
    have := (nI_eq (by omega) (by omega)).mp g3
    omega
theorem tkK_2 {len : Nat} {B : Nat → Int32} {p : Nat} : tkK len B p = 2 ↔ tkS len B p < len ∧ dgB (B (tkS len B p)) = true := by
  unfold tkK
  constructor
  · intro h
    by_cases q : len ≤ tkS len B p
    · rw [if_pos q] at h; omega
    · rw [if_neg q] at h
      by_cases y : ltB (B (tkS len B p)) = true
      · rw [if_pos y] at h; omega
      · rw [if_neg y] at h
        by_cases z : dgB (B (tkS len B p)) = true
        · exact ⟨by omega, z⟩
        · rw [if_neg z] at h; split at h <;> omega
  · rintro ⟨h1, h2⟩
    rw [if_neg (by omega), if_neg (fun y => by rw [lt_dg y] at h2; cases h2), if_pos h2]
theorem n59 : ltB (nI 59) = false ∧ dgB (nI 59) = false := by decide +kernel
theorem tkK_3 {len : Nat} {B : Nat → Int32} {p : Nat} : tkK len B p = 3 ↔ tkS len B p < len ∧ B (tkS len B p) = nI 59 := by
  unfold tkK
  constructor
  · intro h
    by_cases q : len ≤ tkS len B p
    · rw [if_pos q] at h; omega
    · rw [if_neg q] at h
      by_cases y : ltB (B (tkS len B p)) = true
      · rw [if_pos y] at h; omega
      · rw [if_neg y] at h
        by_cases z : dgB (B (tkS len B p)) = true
        · rw [if_pos z] at h; omega
        · rw [if_neg z] at h
          by_cases w : B (tkS len B p) = nI 59
          · exact ⟨by omega, w⟩
          · rw [if_neg w] at h; omega
  · rintro ⟨h1, h2⟩
    rw [if_neg (by omega), h2, n59.1, n59.2, if_neg (by intro w; cases w), if_neg (by intro w; cases w), if_pos rfl]
theorem tkK_0 {len : Nat} {B : Nat → Int32} {p : Nat} : tkK len B p = 0 ↔ len ≤ tkS len B p := by
  unfold tkK
  constructor
  · intro h
    by_cases q : len ≤ tkS len B p
    · exact q
    · rw [if_neg q] at h; repeat' split at h
      all_goals omega
  · intro h; rw [if_pos h]
theorem tkE_1 {len : Nat} {B : Nat → Int32} {p : Nat} (h : tkK len B p = 1) : tkE len B p = leE B (len - tkS len B p) (tkS len B p) := by
  obtain ⟨h1, h2⟩ := tkK_1.mp h
  unfold tkE; rw [if_neg (by omega), if_pos h2]
theorem tkE_2 {len : Nat} {B : Nat → Int32} {p : Nat} (v : Nat) (h : tkK len B p = 2) : tkE len B p = dgE B (len - tkS len B p) (tkS len B p) ∧ tkV len B p v = dgV B (len - tkS len B p) (tkS len B p) 0 ∧ tkS len B p < tkE len B p := by
  obtain ⟨h1, h2⟩ := tkK_2.mp h
  have hl : ¬ ltB (B (tkS len B p)) = true := fun y => by rw [lt_dg y] at h2; cases h2
  have e : tkE len B p = dgE B (len - tkS len B p) (tkS len B p) := by unfold tkE; rw [if_neg (by omega), if_neg hl, if_pos h2]
  refine ⟨e, by unfold tkV; rw [if_neg (by omega), if_neg hl, if_pos h2], ?_⟩
  rw [e, show len - tkS len B p = (len - tkS len B p - 1) + 1 by omega]
  show tkS len B p < if dgB (B (tkS len B p)) = true then dgE B (len - tkS len B p - 1) (tkS len B p + 1) else tkS len B p
  rw [if_pos h2]
  have := (dgE_le B (len - tkS len B p - 1) (tkS len B p + 1)).1
  omega
theorem tkE_3 {len : Nat} {B : Nat → Int32} {p : Nat} (h : tkK len B p = 3) : tkE len B p = tkS len B p + 1 := by
  obtain ⟨h1, h2⟩ := tkK_3.mp h
  unfold tkE; rw [if_neg (by omega), h2, n59.1, n59.2, if_neg (by intro w; cases w), if_neg (by intro w; cases w)]
theorem dg_min (b : Nat → Int32) : ∀ z p v, v ≤ 100000 → dgV b z p (min 1000 v) = min 1000 (dgW b z p v)
  | 0, _, _, _ => rfl
  | z + 1, p, v, h => by
    show (if dgB (b p) = true then dgV b z (p + 1) (min 1000 (min 1000 v * 10 + dgN (b p))) else min 1000 v) = min 1000 (if dgB (b p) = true then dgW b z (p + 1) (min 100000 (10 * v + dgN (b p))) else v)
    by_cases q : dgB (b p) = true
    · rw [if_pos q, if_pos q, ← dg_min b z (p + 1) (min 100000 (10 * v + dgN (b p))) (by omega)]
      congr 1
      omega
    · rw [if_neg q, if_neg q]
/-! the states of both sides while no fault is found -/
abbrev RT : Type := Bool × Nat × Nat × NS × (Nat → Int32) × (Nat → Nat) × (Nat → Nat)
abbrev GT : Type := (Nat → Int64) × (Nat → Int32) × (Nat → Nat) × Nat × Bool
def cst (len : Nat) (B : Nat → Int32) (p v : Nat) (R : RT) : RS := (-1, 0, tkS len B p, tkE len B p, tkK len B p, tkV len B p v, R)
def gst (len a : Nat) (B : Nat → Int32) (g : GT) : G1 := (len, a, 0, -1, B, g)
def bKn (B : Nat → Int32) : Prop := ∀ j, ∃ m, m < 256 ∧ B j = nI m
theorem bKn.ne {B : Nat → Int32} (h : bKn B) (j : Nat) : ¬ B j = -1 := by
  obtain ⟨m, h1, h2⟩ := h j
  rw [h2]
  exact nI_m1 (by omega)
theorem cst_adv (len : Nat) (B : Nat → Int32) (p v : Nat) (R : RT) : advR len B (cst len B p v R) = cst len B (tkE len B p) (tkV len B p v) R := rfl
theorem gst_by {len a : Nat} {B : Nat → Int32} {g : GT} (k : Nat) : byM (gst len a B g) k = if k < len then B k else -1 := rfl
theorem gst_P {len a : Nat} {B : Nat → Int32} {g : GT} : tkP (gst len a B g) = tkS len B a := rfl
theorem gst_he {len a : Nat} {B : Nat → Int32} {g : GT} : heB (gst len a B g) = gst len (tkS len B a) B g := rfl
theorem lt_m1 : ltB (-1) = false := by decide +kernel
theorem dg_m1 : dgB (-1) = false := by decide +kernel
/-- a word stands there for both, or for neither -/
theorem wd_eq {len p : Nat} {B : Nat → Int32} {w : List Char} (hp : p ≤ len) (hB : bKn B) (hw : loW w) (g : GT) : takB (gst len p B g) w = wdB B (tkS len B p) (tkE len B p) (tkK len B p) w := by
  obtain ⟨t1, t2, -⟩ := tkS_b (B := B) hp
  have hn : ∀ i, i < w.length → ¬ nI (w.getD i 'a').toNat = -1 := fun i hi => nI_m1 (by have := (hw.2 i hi).2; omega)
  unfold takB wdB
  rw [gst_P]
  have hword : ∀ m, m < w.length → ltB (nI (w.getD m 'a').toNat) = true := fun m hm => ltB_iff.mpr ⟨_, (hw.2 m hm).1, (hw.2 m hm).2, rfl⟩
  cases e1 : (wdM (byM (gst len p B g)) (tkS len B p) w && !ltB (byM (gst len p B g) (tkS len B p + w.length))) with
  | true =>
    rw [and9, wdM_iff] at e1
    obtain ⟨a1, a2⟩ := e1
    have in1 : ∀ i, i < w.length → tkS len B p + i < len ∧ B (tkS len B p + i) = nI (w.getD i 'a').toNat := fun i hi => by
      have := a1 i hi
      rw [gst_by] at this
      by_cases q : tkS len B p + i < len
      · rw [if_pos q] at this; exact ⟨q, this⟩
      · rw [if_neg q] at this; exact absurd this.symm (hn i hi)
    have h0 := in1 0 hw.1
    rw [Nat.add_zero] at h0
    have hk : tkK len B p = 1 := tkK_1.mpr ⟨h0.1, by rw [h0.2]; exact hword 0 hw.1⟩
    have hl := in1 (w.length - 1) (by have := hw.1; omega)
    have he : tkE len B p = tkS len B p + w.length := by
      rw [tkE_1 hk]
      refine leE_eq _ _ (by omega) (by have := hw.1; omega) (fun i i1 i2 => ?_) (fun h => ?_)
      · have := (in1 (i - tkS len B p) (by omega)).2
        rw [show tkS len B p + (i - tkS len B p) = i by omega] at this
        rw [this]; exact hword _ (by omega)
      · rw [gst_by, if_pos (by omega)] at a2
        cases z : ltB (B (tkS len B p + w.length)) with
        | false => rfl
        | true => rw [z] at a2; cases a2
    symm
    rw [and9, decide_eq_true_iff, wdM_iff]
    exact ⟨⟨hk, by omega⟩, fun i hi => (in1 i hi).2⟩
  | false =>
    symm
    cases e2 : (decide (tkK len B p = 1 ∧ tkE len B p - tkS len B p = w.length) && wdM B (tkS len B p) w) with
    | false => rfl
    | true =>
      exfalso
      rw [and9, decide_eq_true_iff, wdM_iff] at e2
      obtain ⟨⟨b1, b2⟩, b3⟩ := e2
      have hE := tkE_1 b1
      obtain ⟨l1, l2⟩ := leE_le B (len - tkS len B p) (tkS len B p)
      obtain ⟨m1, m2⟩ := leE_in B (len - tkS len B p) (tkS len B p)
      rw [← hE] at l1 l2 m1 m2
      have : (wdM (byM (gst len p B g)) (tkS len B p) w && !ltB (byM (gst len p B g) (tkS len B p + w.length))) = true := by
        rw [and9, wdM_iff]
        refine ⟨fun i hi => ?_, ?_⟩
        · rw [gst_by, if_pos (by omega)]; exact b3 i hi
        · rw [gst_by]
          by_cases q : tkS len B p + w.length < len
          · rw [if_pos q, show tkS len B p + w.length = tkE len B p by omega, m2 (by omega)]; rfl
          · rw [if_neg q, lt_m1]; rfl
      rw [this] at e1
      cases e1
theorem wd_en {len p : Nat} {B : Nat → Int32} {w : List Char} (hp : p ≤ len) (h : wdB B (tkS len B p) (tkE len B p) (tkK len B p) w = true) : tkS len B p + w.length = tkE len B p ∧ tkK len B p = 1 := by
  unfold wdB at h
  rw [and9, decide_eq_true_iff] at h
  have := (tk_le (b := B) (v := 0) hp (by omega)).2.2.1
  exact ⟨by omega, h.1.1⟩
theorem tk_w {len p : Nat} {B : Nat → Int32} {w : String} (hp : p ≤ len) (hB : bKn B) (hw : loB w.toList = true) (v : Nat) (R : RT) (g : GT) : tkB (gst len p B g) w = wrdR B w (cst len B p v R) ∧ tkM (gst len p B g) w = if wrdR B w (cst len B p v R) = true then gst len (tkE len B p) B g else gst len (tkS len B p) B g := by
  have e := wd_eq hp hB (lo_of hw) g
  have e1 : tkB (gst len p B g) w = wrdR B w (cst len B p v R) := by
    show (decide ((0 : Nat) = 0) && takB (gst len p B g) w.toList) = wdB B (tkS len B p) (tkE len B p) (tkK len B p) w.toList
    rw [e, decide_eq_true rfl, Bool.true_and]
  refine ⟨e1, ?_⟩
  show (if (0 : Nat) = 0 then takM (gst len p B g) w.toList else gst len p B g) = _
  rw [if_pos rfl]
  show (if takB (gst len p B g) w.toList = true then bAt (gst len p B g) (tkP (gst len p B g) + w.toList.length) else bAt (gst len p B g) (tkP (gst len p B g))) = _
  rw [e]
  show (if wdB B (tkS len B p) (tkE len B p) (tkK len B p) w.toList = true then _ else _) = if wdB B (tkS len B p) (tkE len B p) (tkK len B p) w.toList = true then _ else _
  by_cases q : wdB B (tkS len B p) (tkE len B p) (tkK len B p) w.toList = true
  · rw [if_pos q, if_pos q, gst_P, (wd_en hp q).1]; rfl
  · rw [if_neg q, if_neg q]; rfl
/-- a fault is found -/
def gfl (len a w : Nat) (f : Int32) (B : Nat → Int32) (g : GT) : G1 := (len, a, w, f, B, g)
theorem num_w {len p : Nat} {B : Nat → Int32} (hp : p ≤ len) {lo hi : Nat} (hh : hi < 1000) (v : Nat) (but : Int32) (g : GT) :
    (tkK len B p = 2 ∧ lo ≤ tkV len B p v ∧ tkV len B p v ≤ hi ∧ ¬ nI (tkV len B p v) = but ∧ numM lo hi but (gst len p B g) = (tkV len B p v, gst len (tkE len B p) B g)) ∨
    (tkK len B p = 2 ∧ ¬ (lo ≤ tkV len B p v ∧ tkV len B p v ≤ hi ∧ ¬ nI (tkV len B p v) = but) ∧ ∃ x, numM lo hi but (gst len p B g) = (x, gfl len (tkE len B p) 2 (nI (tkS len B p)) B g)) ∨
    (¬ tkK len B p = 2 ∧ numM lo hi but (gst len p B g) = (0, gfl len (tkS len B p) 1 (nI (tkS len B p)) B g)) := by
  have hd : dgB (byM (gst len p B g) (tkP (gst len p B g))) = true ↔ tkK len B p = 2 := by
    rw [gst_P, gst_by, tkK_2]
    by_cases q : tkS len B p < len
    · rw [if_pos q]; exact ⟨fun h => ⟨q, h⟩, fun h => h.2⟩
    · rw [if_neg q, dg_m1]; exact ⟨(fun h => (by cases h)), fun h => absurd h.1 q⟩
  have e : numM lo hi but (gst len p B g) = (if dgB (byM (gst len p B g) (tkP (gst len p B g))) = true then (numV (gst len p B g), if (lo ≤ numV (gst len p B g) ∧ numV (gst len p B g) ≤ hi) ∧ nI (numV (gst len p B g)) ≠ but then bAt (gst len p B g) (numE (gst len p B g)) else bWr (bAt (gst len p B g) (numE (gst len p B g))) 2 (nI (tkP (gst len p B g)))) else (0, bWr (bAt (gst len p B g) (tkP (gst len p B g))) 1 (nI (tkP (gst len p B g))))) := if_pos rfl
  rw [e]
  by_cases q : tkK len B p = 2
  · rw [if_pos (hd.mpr q)]
    obtain ⟨f1, f2, f3⟩ := tkE_2 v q
    have hv : tkV len B p v = min 1000 (numV (gst len p B g)) := by
      rw [f2]
      exact dg_min B _ _ 0 (by omega)
    have he : numE (gst len p B g) = tkE len B p := f1.symm
    by_cases y : (lo ≤ numV (gst len p B g) ∧ numV (gst len p B g) ≤ hi) ∧ nI (numV (gst len p B g)) ≠ but
    · left
      have hv2 : numV (gst len p B g) = tkV len B p v := by omega
      rw [if_pos y, he, hv2]
      rw [hv2] at y
      exact ⟨q, y.1.1, y.1.2, y.2, rfl⟩
    · right; left
      rw [if_neg y, he]
      refine ⟨q, fun z => y ?_, _, rfl⟩
      have hv2 : numV (gst len p B g) = tkV len B p v := by omega
      rw [hv2]
      exact ⟨⟨z.1, z.2.1⟩, z.2.2⟩
  · rw [if_neg (fun h => q (hd.mp h))]
    right; right
    exact ⟨q, rfl⟩
theorem mus_w {len p : Nat} {B : Nat → Int32} (hB : bKn B) (g : GT) : (tkK len B p = 3 ∧ musM (gst len p B g) (nI 59) = gst len (tkE len B p) B g) ∨ (¬ tkK len B p = 3 ∧ musM (gst len p B g) (nI 59) = gfl len (tkS len B p) 1 (nI (tkS len B p)) B g) := by
  have hd : byM (gst len p B g) (tkP (gst len p B g)) = nI 59 ↔ tkK len B p = 3 := by
    rw [gst_P, gst_by, tkK_3]
    by_cases q : tkS len B p < len
    · rw [if_pos q]; exact ⟨fun h => ⟨q, h⟩, fun h => h.2⟩
    · rw [if_neg q]; exact ⟨fun h => absurd h.symm (nI_m1 (by omega)), fun h => absurd h.1 q⟩
  have e : musM (gst len p B g) (nI 59) = if byM (gst len p B g) (tkP (gst len p B g)) = nI 59 then bAt (gst len p B g) (tkP (gst len p B g) + 1) else bWr (bAt (gst len p B g) (tkP (gst len p B g))) 1 (nI (tkP (gst len p B g))) := if_pos rfl
  rw [e]
  by_cases q : tkK len B p = 3
  · left
    rw [if_pos (hd.mpr q), tkE_3 q]
    exact ⟨q, rfl⟩
  · right
    rw [if_neg (fun h => q (hd.mp h))]
    exact ⟨q, rfl⟩
theorem end_w {len p : Nat} {B : Nat → Int32} (hp : p ≤ len) (hB : bKn B) (g : GT) : byM (gst len p B g) (tkP (gst len p B g)) = -1 ↔ tkK len B p = 0 := by
  rw [gst_P, gst_by, tkK_0]
  by_cases q : tkS len B p < len
  · rw [if_pos q]; exact ⟨fun h => absurd h (hB.ne _), fun h => by omega⟩
  · rw [if_neg q]; exact ⟨fun _ => by omega, fun _ => rfl⟩
/-! behind a fault nothing is told any more -/
theorem fz_num {b : G1} (h : ¬ b.2.2.1 = 0) (lo hi : Nat) (but : Int32) : numM lo hi but b = (0, b) := if_neg h
theorem fz_mus {b : G1} (h : ¬ b.2.2.1 = 0) (x : Int32) : musM b x = b := if_neg h
theorem fz_wr {b : G1} (h : ¬ b.2.2.1 = 0) (w : Nat) (x : Int32) : bWr b w x = b := if_neg h
theorem fz_rn {b : G1} (h : ¬ b.2.2.1 = 0) (most z : Nat) (c : G3) : rnM most z b c = (b, c) := by
  cases z with
  | zero => rfl
  | succ z => exact if_neg h
