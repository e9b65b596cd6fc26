/-! ===== what is looked up in rows, over lists ===== -/
theorem lN0 : lN 0 = (0 : Int64) := rfl
theorem fl_p {x v : Int64} {t : List Int64} (h : v &&& (x ^^^ (-1)) = 0) : (v :: t).filter (inG x) = v :: t.filter (inG x) := List.filter_cons_of_pos (show inG x v = true from decide_eq_true h)
theorem fl_n {x v : Int64} {t : List Int64} (h : ¬ v &&& (x ^^^ (-1)) = 0) : (v :: t).filter (inG x) = t.filter (inG x) := List.filter_cons_of_neg (show ¬ inG x v = true from fun z => h (of_decide_eq_true z))
theorem sg_s (f : Nat → Int64) (a m : Nat) : sg f a (m + 1) = f a :: sg f (a + 1) m := rfl
theorem sg_l (f : Nat → Int64) (a m : Nat) : sg f a (m + 1) = sg f a m ++ [f (a + m)] := sg_app f m a 1
theorem cw_len (f : Nat → Int64) (x : Int64) : ∀ c, cwN f x c = ((sg f 0 c).filter (inG x)).length
  | 0 => rfl
  | c + 1 => by
    have ih := cw_len f x c
    rw [sg_l, Nat.zero_add, List.filter_append, List.length_append]
    show (if f c &&& (x ^^^ (-1)) = 0 then cwN f x c + 1 else cwN f x c) = _
    by_cases q : f c &&& (x ^^^ (-1)) = 0
    · rw [if_pos q, fl_p q, ih]; rfl
    · rw [if_neg q, fl_n q, ih]; rfl
theorem pt_len (f : Nat → Int64) (x : Int64) : ∀ c, ptC f x c = ((sg f 0 c).filter (inG x)).length
  | 0 => rfl
  | c + 1 => by
    have ih := pt_len f x c
    rw [sg_l, Nat.zero_add, List.filter_append, List.length_append]
    show (if f c &&& (x ^^^ (-1)) = lN 0 then ptC f x c + 1 else ptC f x c) = _
    by_cases q : f c &&& (x ^^^ (-1)) = 0
    · rw [lN0, if_pos q, fl_p q, ih]; rfl
    · rw [lN0, if_neg q, fl_n q, ih]; rfl
/-- the one whose number it is -/
def ltA (q : Int32) : Nat → List Int64 → Option Int64
  | _, [] => none
  | a, v :: t => if nI a = q then some v else ltA q (a + 1) t
theorem wi_lt (f : Nat → Int64) (x : Int64) (q : Int32) : ∀ m i a, wiN f x q i a m = (ltA q a ((sg f i m).filter (inG x))).getD 0
  | 0, _, _ => rfl
  | m + 1, i, a => by
    rw [sg_s]
    show (if f i &&& (x ^^^ (-1)) = 0 then (if nI a = q then f i else wiN f x q (i + 1) (a + 1) m) else wiN f x q (i + 1) a m) = _
    by_cases z : f i &&& (x ^^^ (-1)) = 0
    · rw [if_pos z, fl_p z]
      show _ = (if nI a = q then some (f i) else ltA q (a + 1) ((sg f (i + 1) m).filter (inG x))).getD 0
      by_cases y : nI a = q
      · rw [if_pos y, if_pos y]; rfl
      · rw [if_neg y, if_neg y]; exact wi_lt f x q m (i + 1) (a + 1)
    · rw [if_neg z, fl_n z]
      exact wi_lt f x q m (i + 1) a
theorem pa_lt (f : Nat → Int64) (x : Int64) (q : Int32) : ∀ m i a, paK f x q m i a = ltA q a ((sg f i m).filter (inG x))
  | 0, _, _ => rfl
  | m + 1, i, a => by
    rw [sg_s]
    show (if f i &&& (x ^^^ (-1)) = lN 0 then (if nI a = q then some (f i) else paK f x q m (i + 1) (a + 1)) else paK f x q m (i + 1) a) = _
    rw [lN0]
    by_cases z : f i &&& (x ^^^ (-1)) = 0
    · rw [if_pos z, fl_p z]
      show _ = if nI a = q then some (f i) else ltA q (a + 1) ((sg f (i + 1) m).filter (inG x))
      by_cases y : nI a = q
      · rw [if_pos y, if_pos y]
      · rw [if_neg y, if_neg y]; exact pa_lt f x q m (i + 1) (a + 1)
    · rw [if_neg z, fl_n z]
      exact pa_lt f x q m (i + 1) a
theorem lt_mem {q : Int32} {v : Int64} : ∀ {l : List Int64} {a : Nat}, ltA q a l = some v → v ∈ l
  | [], _, h => by cases h
  | w :: t, a, h => by
    have h : (if nI a = q then some w else ltA q (a + 1) t) = some v := h
    by_cases z : nI a = q
    · rw [if_pos z] at h; rw [Option.some.inj h]; exact List.mem_cons_self
    · rw [if_neg z] at h; exact List.mem_cons_of_mem _ (lt_mem h)
theorem lt_neg {q : Int32} (hq : q < 0) : ∀ (l : List Int64) (a : Nat), a + l.length < 2 ^ 31 → ltA q a l = none
  | [], _, _ => rfl
  | w :: t, a, h => by
    rw [List.length_cons] at h
    show (if nI a = q then some w else ltA q (a + 1) t) = none
    rw [if_neg (fun z => by rw [← z] at hq; exact nI_pos (by omega) hq), lt_neg hq t (a + 1) (by omega)]
theorem lt_some {q : Int32} : ∀ (l : List Int64) (a : Nat), a + l.length < 2 ^ 31 → ((∃ v, ltA q a l = some v) ↔ ∃ j, j < l.length ∧ q = nI (a + j))
  | [], a, _ => ⟨fun ⟨v, h⟩ => (by cases h), fun ⟨j, h, _⟩ => by cases h⟩
  | w :: t, a, h => by
    rw [List.length_cons] at h
    show (∃ v, (if nI a = q then some w else ltA q (a + 1) t) = some v) ↔ _
    by_cases z : nI a = q
    · rw [if_pos z]
      exact ⟨fun _ => ⟨0, by rw [List.length_cons]; omega, by rw [Nat.add_zero]; exact z.symm⟩, fun _ => ⟨w, rfl⟩⟩
    · rw [if_neg z, lt_some t (a + 1) (by omega)]
      constructor
      · rintro ⟨j, h1, h2⟩
        exact ⟨j + 1, by rw [List.length_cons]; omega, by rw [h2]; congr 1; omega⟩
      · rintro ⟨j, h1, h2⟩
        rw [List.length_cons] at h1
        cases j with
        | zero => exact absurd h2.symm z
        | succ j => exact ⟨j, by omega, by rw [h2]; congr 1; omega⟩
theorem lt_has {q : Int32} {l : List Int64} (h : l.length < 2 ^ 31) : (∃ v, ltA q 0 l = some v) ↔ hasN l.length q = true := by
  rw [lt_some l 0 (by omega)]
  unfold hasN
  rw [decide_eq_true_iff]
  constructor
  · rintro ⟨j, h1, h2⟩
    rw [h2, Nat.zero_add, nI_toInt (by omega)]
    omega
  · rintro ⟨h1, h2⟩
    refine ⟨q.toInt.toNat, by omega, ?_⟩
    apply Int32.toInt_inj.mp
    rw [Nat.zero_add, nI_toInt (by omega)]
    omega
theorem ha_mem (f : Nat → Int64) (x : Int64) : ∀ m i, haN f x i m = decide (x ∈ sg f i m)
  | 0, i => (decide_eq_false (fun h => by cases h)).symm
  | m + 1, i => by
    show (if f i = x then true else haN f x (i + 1) m) = decide (x ∈ f i :: sg f (i + 1) m)
    by_cases z : f i = x
    · rw [if_pos z, decide_eq_true (by rw [z]; exact List.mem_cons_self)]
    · rw [if_neg z, ha_mem f x m (i + 1)]
      refine decide_eq_decide.mpr ?_
      rw [List.mem_cons]
      exact ⟨Or.inr, fun h => by rcases h with h | h; exact absurd h.symm z; exact h⟩
theorem ip_mem (f : Nat → Int64) (x : Int64) : ∀ m i, ipK f x m i = decide (x ∈ sg f i m)
  | 0, i => (decide_eq_false (fun h => by cases h)).symm
  | m + 1, i => by
    show (if f i = x then true else ipK f x m (i + 1)) = decide (x ∈ f i :: sg f (i + 1) m)
    by_cases z : f i = x
    · rw [if_pos z, decide_eq_true (by rw [z]; exact List.mem_cons_self)]
    · rw [if_neg z, ip_mem f x m (i + 1)]
      refine decide_eq_decide.mpr ?_
      rw [List.mem_cons]
      exact ⟨Or.inr, fun h => by rcases h with h | h; exact absurd h.symm z; exact h⟩
theorem cpC_len {f : Nat → Int64} {sN : Nat → Nat} {x y : Int64} {p : Int64 → Bool} (hp : ∀ i, ckN f sN x y i = p (f i)) : ∀ m i a, cpC f sN x y i a m = a + ((sg f i m).filter p).length
  | 0, _, _ => rfl
  | m + 1, i, a => by
    rw [sg_s]
    show (if ckN f sN x y i = true then cpC f sN x y (i + 1) (a + 1) m else cpC f sN x y (i + 1) a m) = _
    rw [hp i, cpC_len hp m, cpC_len hp m]
    cases z : p (f i) with
    | true => rw [if_pos rfl, List.filter_cons_of_pos z, List.length_cons]; omega
    | false => rw [if_neg (by intro w; cases w), List.filter_cons_of_neg (by rw [z]; intro w; cases w)]
theorem cpF_lt {f : Nat → Int64} {sN : Nat → Nat} {x y : Int64} {q : Int32} {p : Int64 → Bool} (hp : ∀ i, ckN f sN x y i = p (f i)) : ∀ m i a fd, a + m < 2 ^ 31 → cpF f sN x y q i a fd m = (ltA q a ((sg f i m).filter p)).getD fd ∧ (∀ j, j < a → q = nI j → cpF f sN x y q i a fd m = fd)
  | 0, _, _, _, _ => ⟨rfl, fun _ _ _ => rfl⟩
  | m + 1, i, a, fd, h => by
    have e : cpF f sN x y q i a fd (m + 1) = if ckN f sN x y i = true then cpF f sN x y q (i + 1) (a + 1) (if nI a = q then f i else fd) m else cpF f sN x y q (i + 1) a fd m := rfl
    rw [e, sg_s, hp i]
    cases z : p (f i) with
    | false =>
      rw [if_neg (by intro w; cases w), List.filter_cons_of_neg (by rw [z]; intro w; cases w)]
      exact cpF_lt hp m (i + 1) a fd (by omega)
    | true =>
      rw [if_pos rfl, List.filter_cons_of_pos z]
      obtain ⟨i1, i2⟩ := cpF_lt hp m (i + 1) (a + 1) (if nI a = q then f i else fd) (by omega)
      constructor
      · show _ = (if nI a = q then some (f i) else ltA q (a + 1) ((sg f (i + 1) m).filter p)).getD fd
        by_cases y9 : nI a = q
        · rw [if_pos y9] at i2 ⊢
          rw [if_pos y9]
          exact i2 a (by omega) y9.symm
        · rw [if_neg y9] at i1 ⊢
          rw [if_neg y9]
          exact i1
      · intro j hj hq
        have : ¬ nI a = q := fun w => by
          rw [hq] at w
          have := (nI_eq (by omega) (by omega)).mp w
          omega
        rw [if_neg this] at i2 ⊢
        exact i2 j (by omega) hq
theorem exK_lt {e : G4} {x y v : Int64} {w : Int32} {p : Int64 → Bool} (hp : ∀ i, exB e x y v (e.2.1 i) = p (e.2.1 i)) : ∀ z i n (f : G5), n + z < 2 ^ 31 → (exK e x y v w z i n f).1 = n + ((sg e.2.1 i z).filter p).length ∧ (exK e x y v w z i n f).2 = (match ltA w n ((sg e.2.1 i z).filter p) with | some u => (u, v &&& (u ^^^ (-1))) | none => f) ∧ (∀ j, j < n → w = nI j → (exK e x y v w z i n f).2 = f)
  | 0, _, _, _, _ => ⟨rfl, rfl, fun _ _ _ => rfl⟩
  | z + 1, i, n, f, h => by
    have e0 : exK e x y v w (z + 1) i n f = if exB e x y v (e.2.1 i) = true then exK e x y v w z (i + 1) (n + 1) (if nI n = w then (e.2.1 i, v &&& (e.2.1 i ^^^ (-1))) else f) else exK e x y v w z (i + 1) n f := rfl
    rw [e0, sg_s, hp i]
    cases hz : p (e.2.1 i) with
    | false =>
      rw [if_neg (by intro w; cases w), List.filter_cons_of_neg (by rw [hz]; intro w; cases w)]
      exact exK_lt hp z (i + 1) n f (by omega)
    | true =>
      rw [if_pos rfl, List.filter_cons_of_pos hz, List.length_cons]
      obtain ⟨i1, i2, i3⟩ := exK_lt hp z (i + 1) (n + 1) (if nI n = w then (e.2.1 i, v &&& (e.2.1 i ^^^ (-1))) else f) (by omega)
      refine ⟨by rw [i1]; omega, ?_, fun j hj hq => ?_⟩
      · show _ = (match (if nI n = w then some (e.2.1 i) else ltA w (n + 1) ((sg e.2.1 (i + 1) z).filter p)) with | some u => (u, v &&& (u ^^^ (-1))) | none => f)
        by_cases y9 : nI n = w
        · rw [if_pos y9] at i3 ⊢
          rw [if_pos y9]
          exact i3 n (by omega) y9.symm
        · rw [if_neg y9] at i2 ⊢
          rw [if_neg y9]
          exact i2
      · have : ¬ nI n = w := fun u => by
          rw [hq] at u
          have := (nI_eq (by omega) (by omega)).mp u
          omega
        rw [if_neg this] at i3 ⊢
        exact i3 j (by omega) hq
theorem flt2 (p q : Int64 → Bool) (l : List Int64) : (l.filter q).filter p = l.filter (fun a => p a && q a) := List.filter_filter
/-- lines of a left set are found among the network's parts as among all -/
theorem fl_in {g x : Int64} (h : sbL x g) (l : List Int64) : (l.filter (inG g)).filter (inG x) = l.filter (inG x) := by
  rw [flt2]
  refine List.filter_congr (fun v _ => ?_)
  cases e : inG x v with
  | false => rfl
  | true => rw [inG_iff.mpr ((inG_iff.mp e).trans h)]; rfl
/-! couples with the same lines -/
def exP (P : List Int64) (x y v : Int64) : Bool := inG (x ||| y) v && (!decide (v = x) && (!decide (v = y) && decide ((x ||| y) &&& (v ^^^ (-1)) ∈ P)))
def exL (P : List Int64) (x y : Int64) : List Int64 := (P.filter (fun v => decide (llN v = llN (x ||| y)))).filter (exP P x y)
theorem len_rm {u w : Int64} : ∀ {T : List Int64}, T.Nodup → u ∈ T → ¬ w ∈ T → (T.filter (fun v => !decide (v = u) && !decide (v = w))).length + 1 = T.length
  | [], _, h, _ => by cases h
  | a :: t, hn, h, hw => by
    obtain ⟨n1, n2⟩ := List.nodup_cons.mp hn
    have aw : ¬ a = w := fun z => hw (by rw [z]; exact List.mem_cons_self)
    by_cases z : a = u
    · subst z
      rw [List.filter_cons_of_neg (by simp), List.length_cons]
      rw [List.filter_eq_self.mpr]
      intro b hb
      have h1 : ¬ b = a := fun e => n1 (by rw [← e]; exact hb)
      have h2 : ¬ b = w := fun e => hw (by rw [← e]; exact List.mem_cons_of_mem _ hb)
      rw [decide_eq_false h1, decide_eq_false h2]; rfl
    · have hu : u ∈ t := by rcases List.mem_cons.mp h with e | e; exact absurd e.symm z; exact e
      rw [List.filter_cons_of_pos (by rw [decide_eq_false z, decide_eq_false aw]; rfl), List.length_cons, List.length_cons]
      have := len_rm n2 hu (fun e => hw (List.mem_cons_of_mem _ e))
      omega
theorem exL_T (P : List Int64) (x y : Int64) : exL P x y = ((P.filter (fun v => decide (llN v = llN (x ||| y)))).filter (fun v => inG (x ||| y) v && decide ((x ||| y) &&& (v ^^^ (-1)) ∈ P))).filter (fun v => !decide (v = x) && !decide (v = y)) := by
  unfold exL
  rw [flt2 (fun v => !decide (v = x) && !decide (v = y)) (fun v => inG (x ||| y) v && decide ((x ||| y) &&& (v ^^^ (-1)) ∈ P))]
  refine List.filter_congr (fun v _ => ?_)
  unfold exP
  cases inG (x ||| y) v <;> cases decide (v = x) <;> cases decide (v = y) <;> cases decide ((x ||| y) &&& (v ^^^ (-1)) ∈ P) <;> rfl
/-- how many exchanges a couple has hangs on its lines alone -/
theorem exL_len {P : List Int64} {x y : Int64} (hP : P.Nodup) (hx : x ∈ P) (hy : y ∈ P) (hd : x &&& y = 0) (hx0 : ¬ x = 0) (hy0 : ¬ y = 0) : (exL P x y).length + 1 = ((P.filter (fun v => decide (llN v = llN (x ||| y)))).filter (fun v => inG (x ||| y) v && decide ((x ||| y) &&& (v ^^^ (-1)) ∈ P))).length := by
  have key : ∀ u w : Int64, u ∈ P → w ∈ P → u &&& w = 0 → ¬ u = 0 → ¬ w = 0 → u ||| w = x ||| y → btL u (llN (x ||| y)) = true → u ∈ ((P.filter (fun v => decide (llN v = llN (x ||| y)))).filter (fun v => inG (x ||| y) v && decide ((x ||| y) &&& (v ^^^ (-1)) ∈ P))) ∧ ¬ w ∈ ((P.filter (fun v => decide (llN v = llN (x ||| y)))).filter (fun v => inG (x ||| y) v && decide ((x ||| y) &&& (v ^^^ (-1)) ∈ P))) := fun u w hu hw hd u0 w0 e hb => by
    have hne : ¬ x ||| y = 0 := or_ne hy0
    obtain ⟨l1, l2⟩ := ll_bit hne
    constructor
    · rw [List.mem_filter, List.mem_filter, and9, decide_eq_true_iff, decide_eq_true_iff]
      refine ⟨⟨hu, ll_of hb (fun j hj => ?_)⟩, inG_iff.mpr (fun k hk => by rw [← e, btL_or, hk]; rfl), ?_⟩
      · have := l2 j hj
        rw [← e, btL_or, Bool.or_eq_false_iff] at this
        exact this.1
      · rw [show (x ||| y) &&& (u ^^^ (-1)) = w from btL_ext (fun k hk => by
          rw [btL_mi, ← e, btL_or]
          cases h1 : btL u k with
          | false => cases btL w k <;> rfl
          | true => rw [dj_iff.mp hd k h1]; rfl)]
        exact hw
    · rw [List.mem_filter, List.mem_filter, decide_eq_true_iff]
      rintro ⟨⟨-, h1⟩, -⟩
      have := (ll_bit w0).1
      rw [h1, dj_iff.mp hd _ hb] at this
      cases this
  rw [exL_T]
  have hT : ((P.filter (fun v => decide (llN v = llN (x ||| y)))).filter (fun v => inG (x ||| y) v && decide ((x ||| y) &&& (v ^^^ (-1)) ∈ P))).Nodup := (hP.filter _).filter _
  have hb := (ll_bit (or_ne (x := x) hy0)).1
  rw [btL_or, Bool.or_eq_true] at hb
  rcases hb with hb | hb
  · obtain ⟨k1, k2⟩ := key x y hx hy hd hx0 hy0 rfl hb
    exact len_rm hT k1 k2
  · obtain ⟨k1, k2⟩ := key y x hy hx (by rw [Int64.and_comm]; exact hd) hy0 hx0 (Int64.or_comm _ _) hb
    have := len_rm hT k1 k2
    rw [← this]
    congr 1
    congr 1
    refine List.filter_congr (fun v _ => ?_)
    cases decide (v = x) <;> cases decide (v = y) <;> rfl
theorem exL_mem {P : List Int64} {x y u : Int64} (h : u ∈ exL P x y) : u ∈ P ∧ sbL u (x ||| y) ∧ llN u = llN (x ||| y) ∧ ¬ u = x ∧ ¬ u = y ∧ (x ||| y) &&& (u ^^^ (-1)) ∈ P := by
  unfold exL at h
  rw [List.mem_filter, List.mem_filter, decide_eq_true_iff] at h
  obtain ⟨⟨h1, h2⟩, h3⟩ := h
  unfold exP at h3
  rw [and9, and9, and9, decide_eq_true_iff] at h3
  obtain ⟨a, b, c, d⟩ := h3
  refine ⟨h1, inG_iff.mp a, h2, fun z => ?_, fun z => ?_, d⟩
  · rw [decide_eq_true z] at b; cases b
  · rw [decide_eq_true z] at c; cases c
