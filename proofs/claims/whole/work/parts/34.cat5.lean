def nxR (m : Nat) : Nat := if m ≤ 32 then 32 else if m ≤ 64 then 64 else if m ≤ 128 then 128 else if m ≤ 256 then 256 else if m ≤ 512 then 512 else if m ≤ 1024 then 1024 else if m ≤ 2048 then 2048 else if m ≤ 4096 then 4096 else if m ≤ 8192 then 8192 else if m ≤ 16384 then 16384 else 27720
def rT (R m : Nat) : Nat := if m ≤ R then R else nxR m
theorem nxR_ok {m : Nat} (h : m ≤ 27720) : (nxR m = 32 ∨ nxR m = 64 ∨ nxR m = 128 ∨ nxR m = 256 ∨ nxR m = 512 ∨ nxR m = 1024 ∨ nxR m = 2048 ∨ nxR m = 4096 ∨ nxR m = 8192 ∨ nxR m = 16384 ∨ nxR m = 27720) ∧ m ≤ nxR m := by
  unfold nxR
  refine ⟨?_, ?_⟩
  · repeat' split
    all_goals simp
  · repeat' split
    all_goals omega
theorem nxR_least {m R : Nat} (h : m ≤ R) (hr : rOk R) (h0 : R ≠ 0) : nxR m ≤ R := by
  unfold rOk at hr
  unfold nxR
  rcases hr with hr | hr | hr | hr | hr | hr | hr | hr | hr | hr | hr | hr <;> subst hr
  · exact absurd rfl h0
  all_goals (repeat' split)
  all_goals omega
theorem nxR_rOk {m : Nat} (h : m ≤ 27720) : rOk (nxR m) := by
  have := (nxR_ok h).1
  unfold rOk
  omega
theorem nxR_mono {a b : Nat} (h : a ≤ b) (hb : b ≤ 27720) : nxR a ≤ nxR b := by
  refine nxR_least (Nat.le_trans h (nxR_ok hb).2) (nxR_rOk hb) ?_
  have := (nxR_ok hb).1
  omega
theorem rT_ok {R m : Nat} (hr : rOk R) (h : m ≤ 27720) : rOk (rT R m) ∧ R ≤ rT R m ∧ m ≤ rT R m ∧ rT R m ≤ 27720 := by
  have h1 := nxR_ok h
  have h2 := rOk_le hr
  unfold rT
  split
  · exact ⟨hr, by omega, by omega, by omega⟩
  · exact ⟨nxR_rOk h, by omega, by omega, by omega⟩
theorem rT_mono {R a b : Nat} (hr : rOk R) (h : a ≤ b) (hb : b ≤ 27720) : rT R a ≤ rT R b := by
  have h1 := nxR_ok hb
  have h2 := nxR_mono h hb
  unfold rT
  split <;> split <;> omega
theorem rT_rT {R a b : Nat} (hr : rOk R) (h : a ≤ b) (hb : b ≤ 27720) : rT (rT R a) b = rT R b := by
  have h1 := nxR_ok hb
  have h2 := nxR_mono h hb
  have h3 := nxR_ok (m := a) (by omega)
  unfold rT
  by_cases e1 : a ≤ R
  · rw [if_pos e1]
  · rw [if_neg e1, if_neg (show ¬ b ≤ R by omega)]
    by_cases e2 : b ≤ nxR a
    · rw [if_pos e2]
      refine Nat.le_antisymm h2 ?_
      exact nxR_least e2 (nxR_rOk (by omega)) (by omega)
    · rw [if_neg e2]
theorem g1N_rT {R c : Nat} (hr : rOk R) (hc : c < 27720) (hcR : c ≤ R) : g1N R c = rT R (c + 1) := by
  unfold g1N rT
  by_cases e : c = R
  · rw [if_pos e, if_neg (by omega)]
    unfold rOk at hr
    subst e
    rcases hr with hr | hr | hr | hr | hr | hr | hr | hr | hr | hr | hr | hr <;> subst hr <;> first | rfl | omega
  · rw [if_neg e, if_pos (by omega)]
theorem cCS_le {a b : Nat} (h : a ≤ b) : cC b ≤ cC a ∧ cS b ≤ cS a := by
  unfold cC cS
  omega
theorem f1N_lt {R c : Nat} {f : Nat → Int64} {x : Int64} (hcR : c ≤ R) : (∀ i, i < c → f1N R c f x i = f i) ∧ f1N R c f x c = x := by
  unfold f1N vp_updL va_cpy
  split
  · refine ⟨fun i hi => ?_, by simp⟩
    show (if i = c then x else if 0 ≤ i ∧ i < 0 + R then f (0 + (i - 0)) else 0) = f i
    rw [if_neg (by omega), if_pos (by omega)]
    congr 1
    omega
  · refine ⟨fun i hi => ?_, by simp⟩
    show (if i = c then x else f i) = f i
    rw [if_neg (by omega)]
theorem gdA (l m : List Int64) (j : Nat) (h : j < l.length) : (l ++ m).getD j 0 = l.getD j 0 := by
  rw [List.getD_eq_getElem?_getD, List.getD_eq_getElem?_getD, List.getElem?_append_left h]
theorem gdB (l m : List Int64) (j : Nat) (h : l.length ≤ j) : (l ++ m).getD j 0 = m.getD (j - l.length) 0 := by
  rw [List.getD_eq_getElem?_getD, List.getD_eq_getElem?_getD, List.getElem?_append_right h]
def fmV (F : Nat → List Int64) : Nat → List Int64
  | 0 => []
  | v + 1 => fmV F v ++ F v
theorem fmV_le (F : Nat → List Int64) {v : Nat} : ∀ {n : Nat}, v ≤ n → (fmV F v).length ≤ (fmV F n).length
  | 0, h => by rw [show v = 0 by omega]; exact Nat.le_refl _
  | n + 1, h => by
    by_cases e : v = n + 1
    · rw [e]; exact Nat.le_refl _
    · have := fmV_le F (v := v) (n := n) (by omega)
      show (fmV F v).length ≤ (fmV F n ++ F n).length
      rw [List.length_append]
      omega
theorem fmV_congr {F F' : Nat → List Int64} : ∀ {n : Nat}, (∀ v, v < n → F v = F' v) → fmV F n = fmV F' n
  | 0, _ => rfl
  | n + 1, h => by
    unfold fmV
    rw [fmV_congr (n := n) (fun v hv => h v (by omega)), h n (by omega)]
/-- the parts that come out of a place, in the order of the search -/
def chL (n sh k pl : Nat) (g : Int64) : Nat → Nat → (Nat → Nat) → Int64 → List Int64
  | 0, _, _, x => [x]
  | m + 1, dp, cN, x => fmV (fun v => if msN sh k pl cN v dp = true then (if lbN n sh pl (updN cN dp v) dp &&& (g ^^^ (-1)) = 0 then chL n sh k pl g m (dp + 1) (updN cN dp v) (x ||| lbN n sh pl (updN cN dp v) dp) else []) else []) n
def chF (n sh k pl : Nat) (g : Int64) (m dp : Nat) (cN : Nat → Nat) (x : Int64) (v : Nat) : List Int64 := if msN sh k pl cN v dp = true then (if lbN n sh pl (updN cN dp v) dp &&& (g ^^^ (-1)) = 0 then chL n sh k pl g m (dp + 1) (updN cN dp v) (x ||| lbN n sh pl (updN cN dp v) dp) else []) else []
theorem chL_s (n sh k pl : Nat) (g : Int64) (m dp : Nat) (cN : Nat → Nat) (x : Int64) : chL n sh k pl g (m + 1) dp cN x = fmV (chF n sh k pl g m dp cN x) n := rfl
theorem msN_congr {sh k pl v dp : Nat} {cN cN' : Nat → Nat} (hp : sh = 1 ∨ sh = 2 ∨ 3 ≤ pl) (h : ∀ i, i < dp → cN i = cN' i) : msN sh k pl cN v dp = msN sh k pl cN' v dp := by
  unfold msN
  apply decide_eq_decide.mpr
  refine and_congr ⟨fun q i hi => by rw [← h i hi]; exact q i hi, fun q i hi => by rw [h i hi]; exact q i hi⟩ ?_
  by_cases e : dp = 0
  · omega
  · have h0 := h 0 (by omega)
    have h1 := h (dp - 1) (by omega)
    have h2 := h 1
    by_cases e2 : 1 < dp
    · have h2 := h2 e2
      omega
    · omega
theorem lbN_congr {n sh pl dp : Nat} {cN cN' : Nat → Nat} (h : ∀ i, i ≤ dp → cN i = cN' i) : lbN n sh pl cN dp = lbN n sh pl cN' dp := by
  unfold lbN
  rw [h dp (by omega), h 0 (by omega), h (if sh = 2 then 0 else dp - 1) (by split <;> omega)]
theorem updN_congr {cN cN' : Nat → Nat} {dp v : Nat} (h : ∀ i, i < dp → cN i = cN' i) : ∀ i, i ≤ dp → updN cN dp v i = updN cN' dp v i := by
  intro i hi
  unfold updN
  split
  · rfl
  · exact h i (by omega)
theorem chL_congr {n sh k pl : Nat} {g : Int64} (hp : sh = 1 ∨ sh = 2 ∨ 3 ≤ pl) : ∀ (m dp : Nat) (cN cN' : Nat → Nat) (x : Int64), (∀ i, i < dp → cN i = cN' i) → chL n sh k pl g m dp cN x = chL n sh k pl g m dp cN' x
  | 0, _, _, _, _, _ => rfl
  | m + 1, dp, cN, cN', x, h => by
    rw [chL_s, chL_s]
    refine fmV_congr (fun v _ => ?_)
    unfold chF
    rw [msN_congr hp h, lbN_congr (updN_congr h), chL_congr hp m (dp + 1) (updN cN dp v) (updN cN' dp v) _ (fun i hi => updN_congr h i (by omega))]
theorem chF_congr {n sh k pl : Nat} {g : Int64} (hp : sh = 1 ∨ sh = 2 ∨ 3 ≤ pl) {m dp v : Nat} {cN cN' : Nat → Nat} {x : Int64} (h : ∀ i, i < dp → cN i = cN' i) : chF n sh k pl g m dp cN x v = chF n sh k pl g m dp cN' x v := by
  unfold chF
  rw [msN_congr hp h, lbN_congr (updN_congr h), chL_congr hp m (dp + 1) (updN cN dp v) (updN cN' dp v) _ (fun i hi => updN_congr h i (by omega))]
def chQ (c : Nat) (f : Nat → Int64) (dp : Nat) (cN : Nat → Nat) (l : List Int64) (s : (Nat → Int64) × (Nat → Nat)) : Prop := (∀ i, i < c → s.1 i = f i) ∧ (∀ j, j < l.length → s.1 (c + j) = l.getD j 0) ∧ (∀ i, i < dp → s.2 i = cN i) ∧ ∀ j, s.2 j ≤ 10
set_option maxRecDepth 100000 in
theorem c_choose (adK : Nat → Nat) (d : Nat) (stt : Nat → Int32) (fd : Int64) (n sh k : Nat) (g : Int64) (pl : Nat) (pc bc : Nat) (ps : Nat → Int64) (bs sf : Nat → Int32) (hS : shOk sh k) (hpl : pl = plN sh k) (hn : n ≤ 11) : ∀ (m dp c R : Nat) (f : Nat → Int64) (cN : Nat → Nat) (x : Int64), dp + m = pl → rOk R → c ≤ R → (∀ j, cN j ≤ 10) → (∀ i, i < dp → cN i < n) → c + (chL n sh k pl g m dp cN x).length ≤ 27720 → pnCt mX1_choose adK (d + 3 + m) (cC R - cC (rT R (c + (chL n sh k pl g m dp cN x).length))) (cS R - cS (rT R (c + (chL n sh k pl g m dp cN x).length))) [.ref 0, .ref 4, .int (nI dp), .long x] (hCat c R f stt fd n sh k g pl (fun j => nI (cN j)) ++ (hNetO 4 n g sh k pc bc ps bs sf)) (pnExP (chQ c f dp cN (chL n sh k pl g m dp cN x)) (fun _ => none) (fun s => hCat (c + (chL n sh k pl g m dp cN x).length) (rT R (c + (chL n sh k pl g m dp cN x).length)) s.1 stt fd n sh k g pl (fun j => nI (s.2 j)) ++ (hNetO 4 n g sh k pc bc ps bs sf))) := by
  obtain ⟨b1, b2, b3, b4, b5, -⟩ := shOk_b hS
  have hp3 : sh = 1 ∨ sh = 2 ∨ 3 ≤ pl := by
    unfold shOk at hS
    rw [hpl]
    unfold plN clN
    rcases hS with ⟨h1, h2⟩ | ⟨h1, h2, h3⟩ | ⟨h1, h2, h3⟩ | ⟨h1, h2, h3⟩
    · subst h1; right; right; simp; omega
    · left; exact h1
    · right; left; exact h1
    · subst h1; right; right; simp; omega
  intro m
  induction m with
  | zero =>
    intro dp c R f cN x hdp hr hcR hc10 hcn hle
    have el : (chL n sh k pl g 0 dp cN x).length = 1 := rfl
    rw [el] at hle ⊢
    have eg := g1N_rT hr (by omega) hcR
    have hf := f1N_lt (R := R) (c := c) (f := f) (x := x) hcR
    refine pnCt_of (by decide) kX1_choose (Nat.le_of_ble_eq_true rfl) rfl (pnCH_b rfl) (pnCS_b rfl) ?_
    refine pn_iload_n (q := 1) dX1_choose_0 rfl rfl ?_
    refine pn_aload_n (q := 2) dX1_choose_1 rfl rfl rfl ?_
    refine pn_get (q := 5) fX1_39 dX1_choose_2 rfl rfl rfl ?_
    first | refine pn_nlt (q := 8) (tgt := 14) dX1_choose_5 (by decide) rfl (by omega) (by omega) (fun hc5 => ?_) (fun hc5 => ?_) | refine pn_icmp_lt (q := 8) (tgt := 14) dX1_choose_5 (by decide) rfl (fun hc5 => ?_) (fun hc5 => ?_)
    · omega
    · refine pn_aload_n (q := 9) dX1_choose_8 rfl rfl rfl ?_
      refine pn_lload_n (q := 10) dX1_choose_9 rfl rfl ?_
      refine pn_upV0 (q := 13) (bc9 := 0) (bs9 := 0) ((by have := c_add adK d c R f stt fd n sh k g pl (fun j => nI (cN j)) x hr (by omega) hcR; rw [eg] at this; exact this)) lkX1_64 dX1_choose_10 rfl rfl (pnSel_of (I := [0, 1, 2, 3]) rfl rfl) (pnFree_b rfl rfl) rfl rfl rfl (by omega) (by omega) (by omega) (Nat.le_of_ble_eq_true rfl) ?_
      refine pn_eq (h' := (hCat (c + 1) (rT R (c + 1)) (f1N R c f x) stt fd n sh k g pl (fun j => nI (cN j)) ++ (hNetO 4 n g sh k pc bc ps bs sf))) (st' := _) rfl rfl ?_
      refine pn_vret dX1_choose_13 rfl ?_
      exact ⟨(f1N R c f x, cN), ⟨hf.1, fun j hj => by rw [show j = 0 from by have : j < 1 := hj; omega]; exact hf.2, fun _ _ => rfl, hc10⟩, rfl, rfl⟩
  | succ m ih =>
    intro dp c R f cN x hdp hr hcR hc10 hcn hle
    have el : chL n sh k pl g (m + 1) dp cN x = fmV (chF n sh k pl g m dp cN x) n := chL_s _ _ _ _ _ _ _ _ _
    rw [el] at hle ⊢
    obtain ⟨F, hF⟩ : ∃ F, F = chF n sh k pl g m dp cN x := ⟨_, rfl⟩
    rw [← hF] at hle ⊢
    obtain ⟨l, hl⟩ : ∃ l, l = fmV F n := ⟨_, rfl⟩
    rw [← hl] at hle ⊢
    refine pnCt_of (by decide) kX1_choose (Nat.le_of_ble_eq_true rfl) rfl (pnCH_b rfl) (pnCS_b rfl) ?_
    have loop : ∀ (z v : Nat) (f1 : Nat → Int64) (cN1 : Nat → Nat) (c1 : Nat), v + z = n → c1 = c + (fmV F v).length → (∀ i, i < c → f1 i = f i) → (∀ j, j < (fmV F v).length → f1 (c + j) = (fmV F v).getD j 0) → (∀ i, i < dp → cN1 i = cN i) → (∀ j, cN1 j ≤ 10) → pnWP mX1_choose adK (d + 3 + (m + 1)) (pnExP (chQ c f dp cN l) (fun _ => none) (fun s => hCat (c + l.length) (rT R (c + l.length)) s.1 stt fd n sh k g pl (fun j => nI (s.2 j)) ++ (hNetO 4 n g sh k pc bc ps bs sf))) (cC (rT R c1) - cC (rT R (c + l.length))) (cS (rT R c1) - cS (rT R (c + l.length))) (hCat c1 (rT R c1) f1 stt fd n sh k g pl (fun j => nI (cN1 j)) ++ (hNetO 4 n g sh k pc bc ps bs sf)) [some (.ref 0), some (.ref 4), some (.int (nI dp)), some (.long x), none, some (.int (nI v))] [] 31 := by
      intro z
      induction z with
      | zero =>
        intro v f1 cN1 c1 hz e1 q1 q2 q3 q4
        have hv : v = n := by omega
        subst hv
        rw [← hl] at e1 q2
        subst e1
        refine pn_iload (q := 33) dX1_choose_31 rfl rfl ?_
        refine pn_aload_n (q := 34) dX1_choose_33 rfl rfl rfl ?_
        refine pn_get (q := 37) fX1_27 dX1_choose_34 rfl rfl rfl ?_
        first | refine pn_nge (q := 40) (tgt := 100) dX1_choose_37 (by decide) rfl (by omega) (by omega) (fun hc37 => ?_) (fun hc37 => ?_) | refine pn_icmp_ge (q := 40) (tgt := 100) dX1_choose_37 (by decide) rfl (fun hc37 => ?_) (fun hc37 => ?_)
        · refine pn_vret dX1_choose_100 rfl ?_
          exact ⟨(f1, cN1), ⟨q1, q2, q3, q4⟩, rfl, rfl⟩
        · omega
      | succ z iz =>
        intro v f1 cN1 c1 hz e1 q1 q2 q3 q4
        have hle1 : (fmV F v).length ≤ l.length := by rw [hl]; exact fmV_le F (by omega)
        have hle2 : (fmV F (v + 1)).length ≤ l.length := by rw [hl]; exact fmV_le F (by omega)
        have ef : (fmV F (v + 1)).length = (fmV F v).length + (F v).length := by
          show (fmV F v ++ F v).length = _
          rw [List.length_append]
        have eF : F v = chF n sh k pl g m dp cN1 x v := by rw [hF]; exact (chF_congr hp3 q3).symm
        have r1 := rT_ok (m := c1) hr (by omega)
        have r2 := rT_mono (a := c1) (b := c + l.length) hr (by omega) hle
        have r3 := cCS_le r2
        have hdp5 : dp < 5 := by omega
        have nil : F v = [] → ∀ cN2 : Nat → Nat, (∀ i, i < dp → cN2 i = cN i) → (∀ j, cN2 j ≤ 10) → pnWP mX1_choose adK (d + 3 + (m + 1)) (pnExP (chQ c f dp cN l) (fun _ => none) (fun s => hCat (c + l.length) (rT R (c + l.length)) s.1 stt fd n sh k g pl (fun j => nI (s.2 j)) ++ (hNetO 4 n g sh k pc bc ps bs sf))) (cC (rT R c1) - cC (rT R (c + l.length))) (cS (rT R c1) - cS (rT R (c + l.length))) (hCat c1 (rT R c1) f1 stt fd n sh k g pl (fun j => nI (cN2 j)) ++ (hNetO 4 n g sh k pc bc ps bs sf)) [some (.ref 0), some (.ref 4), some (.int (nI dp)), some (.long x), none, some (.int (nI (v + 1)))] [] 31 := by
          intro e9 cN2 p1 p2
          have e8 : fmV F (v + 1) = fmV F v := by
            show fmV F v ++ F v = _
            rw [e9, List.append_nil]
          exact iz (v + 1) f1 cN2 c1 (by omega) (by rw [e8]; exact e1) q1 (by rw [e8]; exact q2) p1 p2
        have u1 : ∀ i, i < dp → updN cN1 dp v i = cN i := fun i hi => by unfold updN; rw [if_neg (by omega)]; exact q3 i hi
        have u2 : ∀ j, updN cN1 dp v j ≤ 10 := fun j => by unfold updN; split; omega; exact q4 j
        have u3 : ∀ i, i ≤ dp → updN cN1 dp v i < n := fun i hi => by
          unfold updN
          split
          · omega
          · rw [q3 i (by omega)]; exact hcn i (by omega)
        refine pn_iload (q := 33) dX1_choose_31 rfl rfl ?_
        refine pn_aload_n (q := 34) dX1_choose_33 rfl rfl rfl ?_
        refine pn_get (q := 37) fX1_27 dX1_choose_34 rfl rfl rfl ?_
        first | refine pn_nge (q := 40) (tgt := 100) dX1_choose_37 (by decide) rfl (by omega) (by omega) (fun hc37 => ?_) (fun hc37 => ?_) | refine pn_icmp_ge (q := 40) (tgt := 100) dX1_choose_37 (by decide) rfl (fun hc37 => ?_) (fun hc37 => ?_)
        · omega
        · refine pn_aload_n (q := 41) dX1_choose_40 rfl rfl rfl ?_
          refine pn_iload (q := 43) dX1_choose_41 rfl rfl ?_
          refine pn_iload_n (q := 44) dX1_choose_43 rfl rfl ?_
          refine pn_roV1 (q := 47) (c_mayStand adK d c1 (rT R c1) f1 stt fd n sh k g pl cN1 v dp b1 b3 (by omega) q4 (by omega) hdp5) lkX1_68 dX1_choose_44 rfl rfl (pnSel_of (I := [0, 1, 2, 3]) rfl rfl) (pnFree_b rfl rfl) rfl rfl rfl (by omega) (Nat.le_of_ble_eq_true rfl) rfl ?_
          refine pn_beq (q := 50) (tgt := 94) dX1_choose_47 (by decide) rfl (fun hc47 => ?_) (fun hc47 => ?_)
          · first | refine pn_iinc1 (q := 97) dX1_choose_94 rfl rfl (by decide) ?_ | refine pn_iinc (q := 97) (mm := 1) dX1_choose_94 rfl rfl (by decide) (by decide) ?_
            refine pn_goto (q := 31) dX1_choose_97 (by decide) ?_
            first | exact pn_take 6 (nil (by rw [eF]; unfold chF; rw [if_neg (by rw [hc47]; exact Bool.false_ne_true)]) cN1 q3 q4) | exact pn_take 6 (nil (by rw [eF]; unfold chF; rw [if_pos hc47, if_neg hc78]) (updN cN1 dp v) u1 u2) | exact pn_take 6 (iz (v + 1) s.1 s.2 (c1 + (F v).length) (by omega) (by rw [ef]; omega) (fun i hi => by rw [hs.1 i (by omega)]; exact q1 i hi) (fun j hj => by rw [ef] at hj; show _ = (fmV F v ++ F v).getD j 0; by_cases e7 : j < (fmV F v).length; (rw [gdA _ _ _ e7, hs.1 _ (by omega)]; exact q2 j e7); (rw [gdB _ _ _ (by omega), show c + j = c1 + (j - (fmV F v).length) by omega]; exact hs.2.1 _ (by omega))) (fun i hi => by rw [hs.2.2.1 i (by omega)]; exact u1 i hi) hs.2.2.2)
          · refine pn_aload_n (q := 51) dX1_choose_50 rfl rfl rfl ?_
            refine pn_get (q := 54) fX1_42 dX1_choose_51 rfl rfl rfl ?_
            refine pn_iload_n (q := 55) dX1_choose_54 rfl rfl ?_
            refine pn_iload (q := 57) dX1_choose_55 rfl rfl ?_
            refine pn_iast (q := 58) dX1_choose_57 rfl rfl rfl (by omega) (by decide) ?_; refine pn_eq (h' := hCat c1 (rT R c1) f1 stt fd n sh k g pl (fun j => nI (updN cN1 dp v j)) ++ (hNetO 4 n g sh k pc bc ps bs sf)) (st' := _) (by rw [← updN_nI]; rfl) rfl ?_
            refine pn_aload_n (q := 59) dX1_choose_58 rfl rfl rfl ?_
            refine pn_aload_n (q := 60) dX1_choose_59 rfl rfl rfl ?_
            refine pn_iload_n (q := 61) dX1_choose_60 rfl rfl ?_
            refine pn_roV1 (q := 64) (c_linesBack adK d c1 (rT R c1) f1 stt fd n sh k g pl (updN cN1 dp v) pc bc ps bs sf dp b1 hn (by omega) hdp5 u3 (fun i hi => by have := (of_decide_eq_true hc47).1 i hi; unfold updN; rw [if_neg (by omega), if_pos rfl]; exact this)) lkX1_72 dX1_choose_61 rfl rfl (pnSel_of (I := [0, 1, 2, 3, 4, 5, 6, 7]) rfl rfl) (pnFree_b rfl rfl) rfl rfl rfl (by omega) (Nat.le_of_ble_eq_true rfl) rfl ?_
            refine pn_lstore (q := 66) dX1_choose_64 rfl (by decide) ?_
            refine pn_lload (q := 68) dX1_choose_66 rfl rfl ?_
            refine pn_aload_n (q := 69) dX1_choose_68 rfl rfl rfl ?_
            refine pn_get (q := 72) fX1_36 dX1_choose_69 rfl rfl rfl ?_
            refine pn_ldc2 (q := 75) pw_453 dX1_choose_72 rfl ?_
            refine pn_lxor (q := 76) dX1_choose_75 rfl ?_
            refine pn_land (q := 77) dX1_choose_76 rfl ?_
            refine pn_lconst (q := 78) (v := 0) dX1_choose_77 rfl (by decide) ?_
            refine pn_lne (q1 := 79) (q := 82) (tgt := 94) dX1_choose_78 rfl dX1_choose_79 (by decide) rfl (fun hc78 => ?_) (fun hc78 => ?_)
            · first | refine pn_iinc1 (q := 97) dX1_choose_94 rfl rfl (by decide) ?_ | refine pn_iinc (q := 97) (mm := 1) dX1_choose_94 rfl rfl (by decide) (by decide) ?_
              refine pn_goto (q := 31) dX1_choose_97 (by decide) ?_
              first | exact pn_take 6 (nil (by rw [eF]; unfold chF; rw [if_neg (by rw [hc47]; exact Bool.false_ne_true)]) cN1 q3 q4) | exact pn_take 6 (nil (by rw [eF]; unfold chF; rw [if_pos hc47, if_neg hc78]) (updN cN1 dp v) u1 u2) | exact pn_take 6 (iz (v + 1) s.1 s.2 (c1 + (F v).length) (by omega) (by rw [ef]; omega) (fun i hi => by rw [hs.1 i (by omega)]; exact q1 i hi) (fun j hj => by rw [ef] at hj; show _ = (fmV F v ++ F v).getD j 0; by_cases e7 : j < (fmV F v).length; (rw [gdA _ _ _ e7, hs.1 _ (by omega)]; exact q2 j e7); (rw [gdB _ _ _ (by omega), show c + j = c1 + (j - (fmV F v).length) by omega]; exact hs.2.1 _ (by omega))) (fun i hi => by rw [hs.2.2.1 i (by omega)]; exact u1 i hi) hs.2.2.2)
            · have e9 : F v = chL n sh k pl g m (dp + 1) (updN cN1 dp v) (x ||| lbN n sh pl (updN cN1 dp v) dp) := (by rw [eF]; unfold chF; rw [if_pos hc47, if_pos hc78]); have r4 := rT_ok (m := c1 + (F v).length) hr (by omega); have r5 := rT_rT (a := c1) (b := c1 + (F v).length) hr (by omega) (by omega); have r6 := cCS_le (rT_mono (a := c1 + (F v).length) (b := c + l.length) hr (by omega) hle); have r7 := cCS_le (rT_mono (a := c1) (b := c1 + (F v).length) hr (by omega) (by omega)); have C9 := ih (dp + 1) c1 (rT R c1) f1 (updN cN1 dp v) (x ||| lbN n sh pl (updN cN1 dp v) dp) (by omega) r1.1 r1.2.2.1 u2 (fun i hi => u3 i (by omega)) (by rw [← e9]; omega); rw [← e9, r5] at C9; refine pn_aload_n (q := 83) dX1_choose_82 rfl rfl rfl ?_
              refine pn_aload_n (q := 84) dX1_choose_83 rfl rfl rfl ?_
              refine pn_iload_n (q := 85) dX1_choose_84 rfl rfl ?_
              refine pn_iconst (q := 86) (v := nI 1) dX1_choose_85 rfl (by decide) ?_
              first | with_reducible refine pn_iaddN (q := 87) dX1_choose_86 rfl ?_ | refine pn_iadd (q := 87) dX1_choose_86 rfl ?_
              refine pn_lload_n (q := 88) dX1_choose_87 rfl rfl ?_
              refine pn_lload (q := 90) dX1_choose_88 rfl rfl ?_
              refine pn_lor (q := 91) dX1_choose_90 rfl ?_
              refine pn_ePV0 (q := 94) (bc9 := (cC (rT R (c1 + (F v).length)) - cC (rT R (c + l.length)))) (bs9 := (cS (rT R (c1 + (F v).length)) - cS (rT R (c + l.length)))) (C9) lkX1_54 dX1_choose_91 rfl rfl (pnSel_of (I := [0, 1, 2, 3, 4, 5, 6, 7]) rfl rfl) (pnFree_b rfl rfl) rfl rfl rfl (by omega) (by omega) (by omega) (Nat.le_of_ble_eq_true rfl) (fun s hs => ?_)
              refine pn_eq (h' := (hCat (c1 + (F v).length) (rT R (c1 + (F v).length)) s.1 stt fd n sh k g pl (fun j => nI (s.2 j)) ++ (hNetO 4 n g sh k pc bc ps bs sf))) (st' := _) rfl rfl ?_
              first | refine pn_iinc1 (q := 97) dX1_choose_94 rfl rfl (by decide) ?_ | refine pn_iinc (q := 97) (mm := 1) dX1_choose_94 rfl rfl (by decide) (by decide) ?_
              refine pn_goto (q := 31) dX1_choose_97 (by decide) ?_
              first | exact pn_take 6 (nil (by rw [eF]; unfold chF; rw [if_neg (by rw [hc47]; exact Bool.false_ne_true)]) cN1 q3 q4) | exact pn_take 6 (nil (by rw [eF]; unfold chF; rw [if_pos hc47, if_neg hc78]) (updN cN1 dp v) u1 u2) | exact pn_take 6 (iz (v + 1) s.1 s.2 (c1 + (F v).length) (by omega) (by rw [ef]; omega) (fun i hi => by rw [hs.1 i (by omega)]; exact q1 i hi) (fun j hj => by rw [ef] at hj; show _ = (fmV F v ++ F v).getD j 0; by_cases e7 : j < (fmV F v).length; (rw [gdA _ _ _ e7, hs.1 _ (by omega)]; exact q2 j e7); (rw [gdB _ _ _ (by omega), show c + j = c1 + (j - (fmV F v).length) by omega]; exact hs.2.1 _ (by omega))) (fun i hi => by rw [hs.2.2.1 i (by omega)]; exact u1 i hi) hs.2.2.2)
    have e0 : rT R c = R := if_pos hcR
    have k9 := loop n 0 f cN c (by omega) rfl (fun _ _ => rfl) (fun j hj => absurd hj (Nat.not_lt_zero _)) (fun _ _ => rfl) hc10
    rw [e0] at k9
    refine pn_iload_n (q := 1) dX1_choose_0 rfl rfl ?_
    refine pn_aload_n (q := 2) dX1_choose_1 rfl rfl rfl ?_
    refine pn_get (q := 5) fX1_39 dX1_choose_2 rfl rfl rfl ?_
    first | refine pn_nlt (q := 8) (tgt := 14) dX1_choose_5 (by decide) rfl (by omega) (by omega) (fun hc5 => ?_) (fun hc5 => ?_) | refine pn_icmp_lt (q := 8) (tgt := 14) dX1_choose_5 (by decide) rfl (fun hc5 => ?_) (fun hc5 => ?_)
    · refine pn_iload_n (q := 15) dX1_choose_14 rfl rfl ?_
      first | refine pn_zlt (q := 18) (tgt := 27) dX1_choose_15 (by decide) rfl (by omega) (fun hc15 => ?_) (fun hc15 => ?_) | refine pn_if_lt (q := 18) (tgt := 27) dX1_choose_15 (by decide) rfl (fun hc15 => ?_) (fun hc15 => ?_)
      · first | omega | exact hc15.elim
      · refine pn_iload_n (q := 19) dX1_choose_18 rfl rfl ?_
        refine pn_aload_n (q := 20) dX1_choose_19 rfl rfl rfl ?_
        refine pn_get (q := 23) fX1_42 dX1_choose_20 rfl rfl rfl ?_
        refine pn_alen (q := 24) dX1_choose_23 rfl rfl (by decide) ?_
        first | refine pn_nlt (q := 27) (tgt := 28) dX1_choose_24 (by decide) rfl (by omega) (by omega) (fun hc24 => ?_) (fun hc24 => ?_) | refine pn_icmp_lt (q := 27) (tgt := 28) dX1_choose_24 (by decide) rfl (fun hc24 => ?_) (fun hc24 => ?_)
        · refine pn_iconst (q := 29) (v := nI 0) dX1_choose_28 rfl (by decide) ?_
          refine pn_istore (q := 31) dX1_choose_29 rfl (by decide) ?_
          exact k9
        · omega
    · omega
