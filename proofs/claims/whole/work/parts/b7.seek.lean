/-! ===== the search, over lists: both sides go the same ways ===== -/
abbrev T4 : Type := Nat × Nat × Bool × List Int64
def cdL (P : List Int64) (x : Int64) : List Int64 := (P.filter (fun v => decide (llN v = llN x))).filter (inG x)
def saV (Fn : Int64 → List Int64 → T4 → T4) (once : Bool) (x : Int64) (path : List Int64) : List Int64 → T4 → T4
  | [], s => s
  | v :: t, s => if s.2.2.1 = true ∨ (once = true ∧ ¬ s.1 = 0) then s else if s.2.1 = 20000 then (s.1, s.2.1, true, s.2.2.2) else saV Fn once x path t (Fn (x &&& (v ^^^ (-1))) (path ++ [v]) (s.1, s.2.1 + 1, s.2.2.1, s.2.2.2))
def saF (P : List Int64) (once : Bool) : Nat → Int64 → List Int64 → T4 → T4
  | 0, _, _, s => s
  | r + 1, x, path, s => if x = 0 then (s.1 + 1, s.2.1, s.2.2.1, if s.1 = 0 then path else s.2.2.2) else saV (saF P once r) once x path (cdL P x) s
theorem saV_stop {Fn : Int64 → List Int64 → T4 → T4} {once : Bool} {x : Int64} {path : List Int64} {s : T4} (h : s.2.2.1 = true ∨ (once = true ∧ ¬ s.1 = 0)) : ∀ l, saV Fn once x path l s = s
  | [] => rfl
  | v :: t => if_pos h
/-! the reference's -/
def grS (path : List Int64) (g : G6) (s : T4) : Prop := g.2.2.1 = s.1 ∧ g.2.2.2.1 = s.2.1 ∧ g.2.2.2.2.2 = s.2.2.1 ∧ (¬ s.1 = 0 → g.2.2.2.2.1 = s.2.2.2.length ∧ ∀ i, i < s.2.2.2.length → g.2.1 i = s.2.2.2.getD i 0) ∧ ∀ i, i < path.length → g.1 i = path.getD i 0
theorem caC_get (C W : Nat → Int64) : ∀ m i, i < m → caC C W m i = W i
  | 0, i, h => by omega
  | m + 1, i, h => by
    show vp_updL (caC C W m) m (W m) i = W i
    by_cases z : i = m
    · subst z; exact pk_uLs
    · rw [pk_uLn z]; exact caC_get C W m i (by omega)
theorem getD_app1 (l : List Int64) (v : Int64) {i : Nat} (h : i < l.length) : (l ++ [v]).getD i 0 = l.getD i 0 := by
  rw [List.getD_eq_getElem?_getD, List.getD_eq_getElem?_getD, List.getElem?_append_left h]
theorem getD_app2 (l : List Int64) (v : Int64) : (l ++ [v]).getD l.length 0 = v := by
  rw [List.getD_eq_getElem?_getD, List.getElem?_append_right (Nat.le_refl _), Nat.sub_self]; rfl
theorem gsV_sa {Fn : Int64 → G6 → G6} {Fa : Int64 → List Int64 → T4 → T4} {A : Nat → Int64} {once : Bool} {x : Int64} {path : List Int64} (hF : ∀ (v : Int64) (g : G6) (s : T4), inG x v = true → grS (path ++ [v]) g s → grS (path ++ [v]) (Fn (x &&& (v ^^^ (-1))) g) (Fa (x &&& (v ^^^ (-1))) (path ++ [v]) s)) : ∀ (z k : Nat) (g : G6) (s : T4), grS path g s → grS path (gsV Fn A once x path.length z k g) (saV Fa once x path ((sg A k z).filter (inG x)) s) := by
  intro z
  induction z with
  | zero => exact fun k g s h => h
  | succ z ih =>
    intro k g s h
    obtain ⟨h1, h2, h3, h4, h5⟩ := h
    have e : gsV Fn A once x path.length (z + 1) k g = if g.2.2.2.2.2 = true ∨ (once = true ∧ ¬ g.2.2.1 = 0) then g else if A k &&& (x ^^^ (-1)) = lN 0 then (if g.2.2.2.1 = 20000 then gsX g else gsV Fn A once x path.length z (k + 1) (Fn (x &&& (A k ^^^ (-1))) (gsT path.length (A k) g))) else gsV Fn A once x path.length z (k + 1) g := rfl
    rw [e]
    by_cases q : g.2.2.2.2.2 = true ∨ (once = true ∧ ¬ g.2.2.1 = 0)
    · rw [if_pos q, saV_stop (by rw [← h1, ← h3]; exact q)]
      exact ⟨h1, h2, h3, h4, h5⟩
    · rw [if_neg q, sg_s, lN0]
      by_cases y : A k &&& (x ^^^ (-1)) = 0
      · have hi : inG x (A k) = true := decide_eq_true y
        rw [if_pos y, List.filter_cons_of_pos hi]
        have es : saV Fa once x path (A k :: (sg A (k + 1) z).filter (inG x)) s = if s.2.1 = 20000 then (s.1, s.2.1, true, s.2.2.2) else saV Fa once x path ((sg A (k + 1) z).filter (inG x)) (Fa (x &&& (A k ^^^ (-1))) (path ++ [A k]) (s.1, s.2.1 + 1, s.2.2.1, s.2.2.2)) := if_neg (by rw [← h1, ← h3]; exact q)
        rw [es]
        by_cases w : g.2.2.2.1 = 20000
        · rw [if_pos w, if_pos (h2.symm.trans w)]
          exact ⟨h1, h2, rfl, h4, h5⟩
        · rw [if_neg w, if_neg (fun u => w (h2.trans u))]
          refine ih (k + 1) _ _ ?_
          have := hF (A k) (gsT path.length (A k) g) (s.1, s.2.1 + 1, s.2.2.1, s.2.2.2) hi ⟨h1, by show g.2.2.2.1 + 1 = s.2.1 + 1; rw [h2], h3, h4, fun i hi2 => by
            rw [List.length_append, List.length_singleton] at hi2
            show vp_updL g.1 path.length (A k) i = _
            by_cases u : i = path.length
            · subst u; rw [pk_uLs, getD_app2]
            · rw [pk_uLn u, getD_app1 _ _ (by omega)]; exact h5 i (by omega)⟩
          obtain ⟨f1, f2, f3, f4, f5⟩ := this
          refine ⟨f1, f2, f3, f4, fun i hi2 => ?_⟩
          rw [f5 i (by rw [List.length_append]; omega), getD_app1 _ _ hi2]
      · rw [if_neg y, fl_n y]
        exact ih (k + 1) g s ⟨h1, h2, h3, h4, h5⟩
theorem gsF_sa {e : G4} {P : List Int64} {once : Bool} (hs : ∀ l, l < 56 → sg e.2.1 (e.2.2.2.2.1 l) (e.2.2.2.2.1 (l + 1) - e.2.2.2.2.1 l) = P.filter (fun v => decide (llN v = l))) : ∀ (r : Nat) (x : Int64) (path : List Int64) (g : G6) (s : T4), ok55 x → grS path g s → grS path (gsF e once r x path.length g) (saF P once r x path s) := by
  intro r
  induction r with
  | zero => exact fun x path g s _ h => h
  | succ r ih =>
    intro x path g s hx h
    have e1 : gsF e once (r + 1) x path.length g = if x = lN 0 then gsL path.length g else gsV (fun x' g' => gsF e once r x' (path.length + 1) g') e.2.1 once x path.length (e.2.2.2.2.1 (llN x + 1) - e.2.2.2.2.1 (llN x)) (e.2.2.2.2.1 (llN x)) g := rfl
    have e2 : saF P once (r + 1) x path s = if x = 0 then (s.1 + 1, s.2.1, s.2.2.1, if s.1 = 0 then path else s.2.2.2) else saV (saF P once r) once x path (cdL P x) s := rfl
    rw [e1, e2, lN0]
    by_cases q : x = 0
    · rw [if_pos q, if_pos q]
      obtain ⟨h1, h2, h3, h4, h5⟩ := h
      unfold gsL
      by_cases y : s.1 = 0
      · rw [if_neg (by rw [h1]; omega)]
        refine ⟨by show g.2.2.1 + 1 = s.1 + 1; rw [h1], h2, h3, fun _ => ?_, h5⟩
        show path.length = (if s.1 = 0 then path else s.2.2.2).length ∧ ∀ i, i < (if s.1 = 0 then path else s.2.2.2).length → caC g.2.1 g.1 path.length i = (if s.1 = 0 then path else s.2.2.2).getD i 0
        rw [if_pos y]
        exact ⟨rfl, fun i hi => by rw [caC_get _ _ _ _ hi]; exact h5 i hi⟩
      · rw [if_pos (by rw [h1]; omega)]
        refine ⟨by show g.2.2.1 + 1 = s.1 + 1; rw [h1], h2, h3, fun _ => ?_, h5⟩
        show g.2.2.2.2.1 = (if s.1 = 0 then path else s.2.2.2).length ∧ ∀ i, i < (if s.1 = 0 then path else s.2.2.2).length → g.2.1 i = (if s.1 = 0 then path else s.2.2.2).getD i 0
        rw [if_neg y]
        exact h4 y
    · rw [if_neg q, if_neg q]
      have hl := hx.ll q
      unfold cdL
      rw [← hs (llN x) (by omega)]
      refine gsV_sa (fun v g s hv hg => ?_) _ _ g s h
      have := ih (x &&& (v ^^^ (-1))) (path ++ [v]) g s (hx.sb (fun k hk => by rw [btL_mi] at hk; cases h9 : btL x k with | true => rfl | false => rw [h9] at hk; cases hk)) hg
      rw [List.length_append, List.length_singleton] at this
      exact this
/-! the class's -/
def clS (wl : Nat) (way : Nat → Int64) (s : T4) : Prop := ¬ s.1 = 0 → wl = s.2.2.2.length ∧ ∀ i, i < s.2.2.2.length → way i = s.2.2.2.getD i 0
def outS (r : Nat × Nat × Bool × Nat × (Nat → Int64) × (Nat → Nat)) (s : T4) : Prop := r.1 = s.1 ∧ r.2.1 = s.2.1 ∧ r.2.2.1 = s.2.2.1 ∧ clS r.2.2.2.1 r.2.2.2.2.1 s ∧ ∀ j, r.2.2.2.2.2 j ≤ 60000
theorem waF_get {f : Nat → Int64} {R : Nat} {tk : Nat → Nat} {way : Nat → Int64} : ∀ m, (∀ i, i < m → tk i < R) → ∀ i, i < m → waF f R tk way m i = f (tk i)
  | 0, _, i, h => by omega
  | m + 1, hR, i, h => by
    show (if tk m < R then vp_updL (waF f R tk way m) m (f (tk m)) else waF f R tk way m) i = f (tk i)
    rw [if_pos (hR m (by omega))]
    by_cases z : i = m
    · subst z; exact pk_uLs
    · rw [pk_uLn z]; exact waF_get m (fun i hi => hR i (by omega)) i (by omega)
theorem nrA_sg (f : Nat → Int64) (x : Int64) : ∀ z i, (nrA f x z i = none ∧ (sg f i z).filter (inG x) = []) ∨ ∃ j, i ≤ j ∧ j < i + z ∧ nrA f x z i = some j ∧ inG x (f j) = true ∧ (sg f i z).filter (inG x) = f j :: (sg f (j + 1) (i + z - (j + 1))).filter (inG x)
  | 0, i => Or.inl ⟨rfl, rfl⟩
  | z + 1, i => by
    have e : nrA f x (z + 1) i = if f i &&& (x ^^^ (-1)) = 0 then some i else nrA f x z (i + 1) := rfl
    rw [e, sg_s]
    by_cases q : f i &&& (x ^^^ (-1)) = 0
    · right
      rw [if_pos q, fl_p q]
      refine ⟨i, Nat.le_refl _, by omega, rfl, decide_eq_true q, ?_⟩
      rw [show i + (z + 1) - (i + 1) = z by omega]
    · rw [if_neg q, fl_n q]
      rcases nrA_sg f x z (i + 1) with ⟨a, b⟩ | ⟨j, a, b, c, d, e9⟩
      · exact Or.inl ⟨a, b⟩
      · refine Or.inr ⟨j, by omega, by omega, c, d, ?_⟩
        rw [e9, show i + 1 + z - (j + 1) = i + (z + 1) - (j + 1) by omega]
theorem wk_sa {f : Nat → Int64} {R : Nat} {sN : Nat → Nat} {c : Nat} {once : Bool} {P : List Int64} (hcR : c ≤ R) (hc : c ≤ 30000) (hup : ∀ l, sN l ≤ sN (l + 1)) (hle : ∀ l, sN l ≤ c) (h0 : ∀ v, v ∈ P → ¬ v = 0) (hP : ∀ i, i < c → f i ∈ P) {G : Int64}
    (hs : ∀ x, sbL x G → ¬ x = 0 → (sg f (sN (llN x)) (sN (llN x + 1) - sN (llN x))).filter (inG x) = cdL P x) : ∀ (r : Nat) (x : Int64) (path : List Int64) (l : List Int64) (s : T4) (z fr : Nat) (tk : Nat → Nat) (wl : Nat) (way : Nat → Int64), ok55 x → sbL x G → ¬ x = 0 → pcN x ≤ r → path.length + pcN x ≤ 55 → sN (llN x) ≤ fr → fr ≤ sN (llN x + 1) → l = (sg f fr (sN (llN x + 1) - fr)).filter (inG x) → s.2.2.1 = false → ¬ (once = true ∧ ¬ s.1 = 0) → s.2.1 ≤ 20000 → 50000 ≤ z + 2 * s.2.1 → clS wl way s → (∀ i, i < path.length → tk i < c ∧ f (tk i) = path.getD i 0) → (∀ j, tk j ≤ 60000) →
      ((saV (saF P once r) once x path l s).2.2.1 = true ∨ (once = true ∧ ¬ (saV (saF P once r) once x path l s).1 = 0) → outS (wkS f R sN c once z x path.length fr tk s.1 s.2.1 wl way) (saV (saF P once r) once x path l s)) ∧
      (¬ ((saV (saF P once r) once x path l s).2.2.1 = true ∨ (once = true ∧ ¬ (saV (saF P once r) once x path l s).1 = 0)) → ∃ z' fr' tk' wl' way', z' + 2 * (saV (saF P once r) once x path l s).2.1 = z + 2 * s.2.1 ∧ (saV (saF P once r) once x path l s).2.1 ≤ 20000 ∧ wkS f R sN c once z x path.length fr tk s.1 s.2.1 wl way = wkS f R sN c once z' x path.length fr' tk' (saV (saF P once r) once x path l s).1 (saV (saF P once r) once x path l s).2.1 wl' way' ∧ nrN f sN x fr' = none ∧ (∀ i, i < path.length → tk' i = tk i) ∧ clS wl' way' (saV (saF P once r) once x path l s) ∧ ∀ j, tk' j ≤ 60000) := by
  intro r
  induction r with
  | zero =>
    intro x path l s z fr tk wl way hx hG hne hr
    have := pc_pos hne
    omega
  | succ r ih =>
    intro x path l
    induction l with
    | nil =>
      intro s z fr tk wl way hx hG hne hr hdp hf1 hf2 hl hcut hon hst hz hw htk htk2
      have hll := hx.ll hne
      refine ⟨fun h => ?_, fun _ => ⟨z, fr, tk, wl, way, rfl, hst, rfl, ?_, fun _ _ => rfl, hw, htk2⟩⟩
      · exfalso
        have h : s.2.2.1 = true ∨ (once = true ∧ ¬ s.1 = 0) := h
        rcases h with h | h
        · rw [hcut] at h; cases h
        · exact hon h
      · unfold nrN
        rw [if_pos (by omega)]
        rcases nrA_sg f x (sN (llN x + 1) - fr) fr with ⟨a, -⟩ | ⟨j, -, -, -, -, b⟩
        · exact a
        · rw [b] at hl; cases hl
    | cons v t iht =>
      intro s z fr tk wl way hx hG hne hr hdp hf1 hf2 hl hcut hon hst hz hw htk htk2
      have hll := hx.ll hne
      have hp1 := pc_pos hne
      rcases nrA_sg f x (sN (llN x + 1) - fr) fr with ⟨-, b⟩ | ⟨j, j1, j2, j3, j4, j5⟩
      · rw [b] at hl; cases hl
      · rw [j5] at hl
        injection hl with hv ht
        have hjc : j < c := by have := hle (llN x + 1); omega
        have hnr : nrN f sN x fr = some j := by unfold nrN; rw [if_pos (by omega)]; exact j3
        obtain ⟨z0, hz0⟩ : ∃ z0, z = z0 + 1 := ⟨z - 1, by omega⟩
        subst hz0
        have hstop : ¬ (s.2.2.1 = true ∨ (once = true ∧ ¬ s.1 = 0)) := by
          rintro (h | h)
          · rw [hcut] at h; cases h
          · exact hon h
        have es : saV (saF P once (r + 1)) once x path (v :: t) s = if s.2.1 = 20000 then (s.1, s.2.1, true, s.2.2.2) else saV (saF P once (r + 1)) once x path t (saF P once (r + 1) (x &&& (v ^^^ (-1))) (path ++ [v]) (s.1, s.2.1 + 1, s.2.2.1, s.2.2.2)) := if_neg hstop
        have ew : wkS f R sN c once (z0 + 1) x path.length fr tk s.1 s.2.1 wl way = if s.2.1 = 20000 then (s.1, s.2.1, true, wl, way, tk) else
            if path.length < 55 then
              if x &&& (f j ^^^ (-1)) = 0 then
                if once = true then (s.1 + 1, s.2.1 + 1, false, (if s.1 = 0 then path.length + 1 else wl), (if s.1 = 0 then waF f R (updN tk path.length j) way (path.length + 1) else way), updN tk path.length j)
                else wkS f R sN c once z0 (x &&& (f j ^^^ (-1))) (path.length + 1) (frN sN c (x &&& (f j ^^^ (-1)))) (updN tk path.length j) (s.1 + 1) (s.2.1 + 1) (if s.1 = 0 then path.length + 1 else wl) (if s.1 = 0 then waF f R (updN tk path.length j) way (path.length + 1) else way)
              else if once = true ∧ 0 < s.1 then (s.1, s.2.1 + 1, false, wl, way, updN tk path.length j)
              else wkS f R sN c once z0 (x &&& (f j ^^^ (-1))) (path.length + 1) (frN sN c (x &&& (f j ^^^ (-1)))) (updN tk path.length j) s.1 (s.2.1 + 1) wl way
            else wkS f R sN c once z0 (x ||| (if tk (path.length - 1) < R then f (tk (path.length - 1)) else 0)) (path.length - 1) (tk (path.length - 1) + 1) tk s.1 s.2.1 wl way := wkS_o hnr
        rw [es, ew]
        by_cases q : s.2.1 = 20000
        · rw [if_pos q, if_pos q]
          exact ⟨fun _ => ⟨rfl, rfl, rfl, hw, htk2⟩, fun h => absurd (Or.inl rfl) h⟩
        · rw [if_neg q, if_neg q, if_pos (show path.length < 55 by omega), ← hv]
          have hvP : v ∈ P := by rw [hv]; exact hP j hjc
          have hvx : sbL v x := by rw [hv]; exact inG_iff.mp j4
          have hv0 := h0 v hvP
          have hpv := pc_pos hv0
          have hpc := pc_sb hvx
          have hx' : ok55 (x &&& (v ^^^ (-1))) := hx.sb (fun k hk => by rw [btL_mi] at hk; cases h9 : btL x k with | true => rfl | false => rw [h9] at hk; cases hk)
          have hG' : sbL (x &&& (v ^^^ (-1))) G := fun k hk => hG k (by rw [btL_mi] at hk; cases h9 : btL x k with | true => rfl | false => rw [h9] at hk; cases hk)
          have hback : (x &&& (v ^^^ (-1))) ||| v = x := btL_ext (fun k _ => by
            rw [btL_or, btL_mi]
            cases h9 : btL v k with
            | false => cases btL x k <;> rfl
            | true => rw [hvx k h9]; rfl)
          have tks : updN tk path.length j path.length = j := updN_s _ _ _
          have htk' : ∀ i, i < path.length + 1 → updN tk path.length j i < c ∧ f (updN tk path.length j i) = (path ++ [v]).getD i 0 := fun i hi => by
            by_cases w : i = path.length
            · subst w; rw [tks, getD_app2]; exact ⟨hjc, hv.symm⟩
            · rw [updN_n tk w, getD_app1 _ _ (by omega)]; exact htk i (by omega)
          have htk2' : ∀ i, updN tk path.length j i ≤ 60000 := fun i => by
            by_cases w : i = path.length
            · subst w; rw [tks]; omega
            · rw [updN_n tk w]; exact htk2 i
          -- going on behind this row, from a state in which the machine has come back
          have goon : ∀ (s1 : T4) (z1 : Nat) (tk1 : Nat → Nat) (wl1 : Nat) (way1 : Nat → Int64), s1.2.2.1 = false → ¬ (once = true ∧ ¬ s1.1 = 0) → s1.2.1 ≤ 20000 → 50000 ≤ z1 + 2 * s1.2.1 → z1 + 2 * s1.2.1 = z0 + 1 + 2 * s.2.1 → clS wl1 way1 s1 → (∀ i, i < path.length → tk1 i = tk i) → (∀ j, tk1 j ≤ 60000) → ∀ W, W = wkS f R sN c once z1 x path.length (j + 1) tk1 s1.1 s1.2.1 wl1 way1 →
              ((saV (saF P once (r + 1)) once x path t s1).2.2.1 = true ∨ (once = true ∧ ¬ (saV (saF P once (r + 1)) once x path t s1).1 = 0) → outS W (saV (saF P once (r + 1)) once x path t s1)) ∧
              (¬ ((saV (saF P once (r + 1)) once x path t s1).2.2.1 = true ∨ (once = true ∧ ¬ (saV (saF P once (r + 1)) once x path t s1).1 = 0)) → ∃ z' fr' tk' wl' way', z' + 2 * (saV (saF P once (r + 1)) once x path t s1).2.1 = z0 + 1 + 2 * s.2.1 ∧ (saV (saF P once (r + 1)) once x path t s1).2.1 ≤ 20000 ∧ W = wkS f R sN c once z' x path.length fr' tk' (saV (saF P once (r + 1)) once x path t s1).1 (saV (saF P once (r + 1)) once x path t s1).2.1 wl' way' ∧ nrN f sN x fr' = none ∧ (∀ i, i < path.length → tk' i = tk i) ∧ clS wl' way' (saV (saF P once (r + 1)) once x path t s1) ∧ ∀ j, tk' j ≤ 60000) := by
            intro s1 z1 tk1 wl1 way1 g1 g2 g3 g4 g5 g6 g7 g8 W hW
            subst hW
            have := iht s1 z1 (j + 1) tk1 wl1 way1 hx hG hne hr hdp (by omega) (by omega) (by rw [ht]; congr 1; congr 1; omega) g1 g2 g3 g4 g6 (fun i hi => by rw [g7 i hi]; exact htk i hi) g8
            refine ⟨this.1, fun h => ?_⟩
            obtain ⟨z', fr', tk', wl', way', k1, k2, k3, k4, k5, k6, k7⟩ := this.2 h
            exact ⟨z', fr', tk', wl', way', by omega, k2, k3, k4, fun i hi => (k5 i hi).trans (g7 i hi), k6, k7⟩
          by_cases y : x &&& (v ^^^ (-1)) = 0
          · rw [if_pos y]
            have eF : saF P once (r + 1) (x &&& (v ^^^ (-1))) (path ++ [v]) (s.1, s.2.1 + 1, s.2.2.1, s.2.2.2) = (s.1 + 1, s.2.1 + 1, s.2.2.1, if s.1 = 0 then path ++ [v] else s.2.2.2) := if_pos y
            rw [eF]
            have hw1 : clS (if s.1 = 0 then path.length + 1 else wl) (if s.1 = 0 then waF f R (updN tk path.length j) way (path.length + 1) else way) (s.1 + 1, s.2.1 + 1, s.2.2.1, if s.1 = 0 then path ++ [v] else s.2.2.2) := by
              intro _
              show (if s.1 = 0 then path.length + 1 else wl) = (if s.1 = 0 then path ++ [v] else s.2.2.2).length ∧ ∀ i, i < (if s.1 = 0 then path ++ [v] else s.2.2.2).length → (if s.1 = 0 then waF f R (updN tk path.length j) way (path.length + 1) else way) i = (if s.1 = 0 then path ++ [v] else s.2.2.2).getD i 0
              by_cases u : s.1 = 0
              · rw [if_pos u, if_pos u, if_pos u, List.length_append, List.length_singleton]
                exact ⟨rfl, fun i hi => by rw [waF_get _ (fun i hi => by have := (htk' i hi).1; omega) i hi]; exact (htk' i hi).2⟩
              · rw [if_neg u, if_neg u, if_neg u]; exact hw u
            by_cases o : once = true
            · rw [if_pos o]
              rw [saV_stop (Or.inr ⟨o, by show ¬ s.1 + 1 = 0; omega⟩)]
              exact ⟨fun _ => ⟨rfl, rfl, hcut.symm, hw1, htk2'⟩, fun h => absurd (Or.inr ⟨o, by show ¬ s.1 + 1 = 0; omega⟩) h⟩
            · rw [if_neg o]
              obtain ⟨z1, hz1⟩ : ∃ z1, z0 = z1 + 1 := ⟨z0 - 1, by omega⟩
              subst hz1
              refine goon (s.1 + 1, s.2.1 + 1, s.2.2.1, if s.1 = 0 then path ++ [v] else s.2.2.2) z1 (updN tk path.length j) _ _ hcut (fun h => o h.1) (by show s.2.1 + 1 ≤ 20000; omega) (by show 50000 ≤ z1 + 2 * (s.2.1 + 1); omega) (by show z1 + 2 * (s.2.1 + 1) = _; omega) hw1 (fun i hi => updN_n tk (by omega)) htk2' _ ?_
              rw [wkS_n (by unfold nrN; rw [y, llN_0, if_neg (by omega)]), if_pos (by omega), show path.length + 1 - 1 = path.length by omega, tks, if_pos (by omega), ← hv, hback]
          · rw [if_neg y, if_neg (show ¬ (once = true ∧ 0 < s.1) from fun h => hon ⟨h.1, by omega⟩)]
            have eF : saF P once (r + 1) (x &&& (v ^^^ (-1))) (path ++ [v]) (s.1, s.2.1 + 1, s.2.2.1, s.2.2.2) = saV (saF P once r) once (x &&& (v ^^^ (-1))) (path ++ [v]) (cdL P (x &&& (v ^^^ (-1)))) (s.1, s.2.1 + 1, s.2.2.1, s.2.2.2) := if_neg y
            rw [eF]
            have hll' := hx'.ll y
            have efr : frN sN c (x &&& (v ^^^ (-1))) = sN (llN (x &&& (v ^^^ (-1)))) := if_pos (by omega)
            rw [efr]
            have inner := ih (x &&& (v ^^^ (-1))) (path ++ [v]) (cdL P (x &&& (v ^^^ (-1)))) (s.1, s.2.1 + 1, s.2.2.1, s.2.2.2) z0 (sN (llN (x &&& (v ^^^ (-1))))) (updN tk path.length j) wl way hx' hG' y (by omega) (by rw [List.length_append, List.length_singleton]; omega) (Nat.le_refl _) (hup _) (hs _ hG' y).symm hcut hon (by show s.2.1 + 1 ≤ 20000; omega) (by show 50000 ≤ z0 + 2 * (s.2.1 + 1); omega) hw (fun i hi => htk' i (by rw [List.length_append, List.length_singleton] at hi; exact hi)) htk2'
            rw [List.length_append, List.length_singleton] at inner
            generalize hs1 : saV (saF P once r) once (x &&& (v ^^^ (-1))) (path ++ [v]) (cdL P (x &&& (v ^^^ (-1)))) (s.1, s.2.1 + 1, s.2.2.1, s.2.2.2) = s1 at inner ⊢
            obtain ⟨in1, in2⟩ := inner
            by_cases o : s1.2.2.1 = true ∨ (once = true ∧ ¬ s1.1 = 0)
            · rw [saV_stop o]
              exact ⟨fun _ => in1 o, fun h => absurd o h⟩
            · obtain ⟨z', fr', tk', wl', way', k1, k2, k3, k4, k5, k6, k7⟩ := in2 o
              have k1 : z' + 2 * s1.2.1 = z0 + 2 * (s.2.1 + 1) := k1
              obtain ⟨z1, hz1⟩ : ∃ z1, z' = z1 + 1 := ⟨z' - 1, by omega⟩
              subst hz1
              have kj : tk' path.length = j := by rw [k5 _ (by omega)]; exact tks
              refine goon s1 z1 tk' wl' way' (by cases h9 : s1.2.2.1 with | false => rfl | true => exact absurd (Or.inl h9) o) (fun h => o (Or.inr h)) k2 (by omega) (by omega) k6 (fun i hi => (k5 i (by omega)).trans (updN_n tk (by omega))) k7 _ ?_
              show wkS f R sN c once z0 (x &&& (v ^^^ (-1))) (path.length + 1) (sN (llN (x &&& (v ^^^ (-1))))) (updN tk path.length j) s.1 (s.2.1 + 1) wl way = _
              rw [show wkS f R sN c once z0 (x &&& (v ^^^ (-1))) (path.length + 1) (sN (llN (x &&& (v ^^^ (-1))))) (updN tk path.length j) s.1 (s.2.1 + 1) wl way = _ from k3, wkS_n k4, if_pos (by omega), show path.length + 1 - 1 = path.length by omega, kj, if_pos (by omega), ← hv, hback]
theorem go_sa {f : Nat → Int64} {R : Nat} {sN : Nat → Nat} {c : Nat} {once : Bool} {P : List Int64} {x : Int64} (hcR : c ≤ R) (hc : c ≤ 30000) (hup : ∀ l, sN l ≤ sN (l + 1)) (hle : ∀ l, sN l ≤ c) (h0 : ∀ v, v ∈ P → ¬ v = 0) (hP : ∀ i, i < c → f i ∈ P)
    (hs : ∀ y, sbL y x → ¬ y = 0 → (sg f (sN (llN y)) (sN (llN y + 1) - sN (llN y))).filter (inG y) = cdL P y) (hx : ok55 x) (way : Nat → Int64) (tk : Nat → Nat) (htk : ∀ j, tk j ≤ 60000) : outS (goR f R sN c once x way tk) (saF P once 56 x [] (0, 0, false, [])) := by
  unfold goR
  have e : saF P once 56 x [] (0, 0, false, []) = if x = 0 then (0 + 1, 0, false, if (0 : Nat) = 0 then [] else []) else saV (saF P once 55) once x [] (cdL P x) (0, 0, false, []) := rfl
  rw [e]
  by_cases q : x = 0
  · rw [if_pos q, if_pos q]
    exact ⟨rfl, rfl, rfl, fun _ => ⟨rfl, fun i hi => by cases hi⟩, htk⟩
  · rw [if_neg q, if_neg q]
    have hll := hx.ll q
    have hpc := pc_55 hx
    have := wk_sa (once := once) (R := R) hcR hc hup hle h0 hP hs 55 x [] (cdL P x) (0, 0, false, []) 60000 (sN (llN x)) tk 0 way hx (sbL.rfl' x) q hpc (by show 0 + pcN x ≤ 55; omega) (Nat.le_refl _) (hup _) (hs x (sbL.rfl' x) q).symm rfl (fun h => h.2 rfl) (by show 0 ≤ 20000; omega) (by show 50000 ≤ 60000 + 2 * 0; omega) (fun h => absurd rfl h) (fun i hi => by cases hi) htk
    have efr : frN sN c x = sN (llN x) := if_pos (by omega)
    rw [efr]
    generalize saV (saF P once 55) once x [] (cdL P x) (0, 0, false, []) = s1 at this ⊢
    by_cases o : s1.2.2.1 = true ∨ (once = true ∧ ¬ s1.1 = 0)
    · exact this.1 o
    · obtain ⟨z', fr', tk', wl', way', k1, k2, k3, k4, k5, k6, k7⟩ := this.2 o
      have k1 : z' + 2 * s1.2.1 = 60000 + 2 * 0 := k1
      obtain ⟨z1, hz1⟩ : ∃ z1, z' = z1 + 1 := ⟨z' - 1, by omega⟩
      subst hz1
      have k3 : wkS f R sN c once 60000 x 0 (sN (llN x)) tk 0 0 0 way = wkS f R sN c once (z1 + 1) x 0 fr' tk' s1.1 s1.2.1 wl' way' := k3
      rw [k3, wkS_n k4, if_neg (by omega)]
      exact ⟨rfl, rfl, by cases h9 : s1.2.2.1 with | false => rfl | true => exact absurd (Or.inl h9) o, k6, k7⟩
