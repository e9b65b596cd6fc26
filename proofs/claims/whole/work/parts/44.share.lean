/-! ===== shares ===== -/
def hSha (parts : Nat) (pN cl : Nat → Int32) : List pnE := [.inr (4, [.ref 1, .ref 2, .int (nI parts)]), .inl (0, 14, .inl pN), .inl (0, 14, .inl cl)]
set_option maxRecDepth 100000 in
theorem c_ShaInit (adK : Nat → Nat) (d : Nat) : pnCt mX4_init adK (d + 1) 2 28 [.ref 0] [.inr (4, [.null, .null, .int (nI 0)])] (pnIs (.inl none) (hSha 0 (fun _ => 0) (fun _ => 0))) := by
  refine pnCt_of (by decide) kX4_init (Nat.le_of_ble_eq_true rfl) rfl (pnCH_b rfl) (pnCS_b rfl) ?_
  refine pn_aload_n (q := 1) dX4_init_0 rfl rfl rfl ?_
  refine pn_obj (q := 4) pw_336 pw_106 pw_107 dX4_init_1 rfl (by omega) (Nat.le_of_ble_eq_true rfl) ?_
  refine pn_aload_n (q := 5) dX4_init_4 rfl rfl rfl ?_
  refine pn_bipush (q := 7) (v := nI 14) dX4_init_5 rfl (by decide) ?_
  refine pn_newi (q := 9) pw_164 dX4_init_7 rfl rfl (by first | decide | omega) ?_
  refine pn_putF (q := 12) fX4_9 rfl hdeclX4 dX4_init_9 rfl rfl (Nat.le_of_ble_eq_true rfl) (pnF_arr rfl) ?_
  refine pn_aload_n (q := 13) dX4_init_12 rfl rfl rfl ?_
  refine pn_bipush (q := 15) (v := nI 14) dX4_init_13 rfl (by decide) ?_
  refine pn_newi (q := 17) pw_164 dX4_init_15 rfl rfl (by first | decide | omega) ?_
  refine pn_putF (q := 20) fX4_15 rfl hdeclX4 dX4_init_17 rfl rfl (Nat.le_of_ble_eq_true rfl) (pnF_arr rfl) ?_
  refine pn_aload_n (q := 21) dX4_init_20 rfl rfl rfl ?_
  refine pn_iconst (q := 22) (v := nI 0) dX4_init_21 rfl (by decide) ?_
  refine pn_put (q := 25) fX4_18 dX4_init_22 rfl rfl (Nat.le_of_ble_eq_true rfl) (pnF_int _) ?_
  refine pn_vret dX4_init_25 rfl ?_
  exact ⟨rfl, rfl⟩
def anyF (F : Nat → Bool) : Nat → Nat → Bool
  | 0, _ => false
  | w + 1, i => if F i = true then true else anyF F w (i + 1)
theorem anyF_congr {F F' : Nat → Bool} : ∀ (w i : Nat), (∀ j, F j = F' j) → anyF F w i = anyF F' w i
  | 0, _, _ => rfl
  | w + 1, i, h => by
    unfold anyF
    rw [h i, anyF_congr w (i + 1) h]
/-- the parts from one on go into classes -/
def plB (pN : Nat → Int32) (limit : Nat) : Nat → Nat → Nat → (Nat → Int32) → Bool
  | 0, _, _, _ => true
  | z + 1, part, used, cl => anyF (fun i => decide (cl i &&& pN part = 0) && plB pN limit z (part + 1) (max used (i + 1)) (upd cl i (cl i ||| pN part))) (min (used + 1) limit) 0
def plG (pN : Nat → Int32) (limit z part used : Nat) (cl : Nat → Int32) (i : Nat) : Bool := decide (cl i &&& pN part = 0) && plB pN limit z (part + 1) (max used (i + 1)) (upd cl i (cl i ||| pN part))
theorem plB_s (pN : Nat → Int32) (limit z part used : Nat) (cl : Nat → Int32) : plB pN limit (z + 1) part used cl = anyF (plG pN limit z part used cl) (min (used + 1) limit) 0 := rfl
theorem or_back {x p : Int32} (h : x &&& p = 0) : (x ||| p) &&& (p ^^^ (-1)) = x := by
  have h1 := congrArg Int32.toBitVec h
  apply Int32.toBitVec_inj.mp
  rw [Int32.toBitVec_and] at h1
  rw [Int32.toBitVec_and, Int32.toBitVec_or, Int32.toBitVec_xor]
  have e1 : (-1 : Int32).toBitVec = BitVec.allOnes 32 := by decide
  rw [e1]
  have e0 : (0 : Int32).toBitVec = 0#32 := by decide
  rw [e0] at h1
  ext i hi
  have h2 := congrArg (fun b => b.getLsbD i) h1
  simp only [BitVec.getLsbD_and, BitVec.getLsbD_zero] at h2
  simp only [BitVec.getElem_and, BitVec.getElem_or, BitVec.getElem_xor, BitVec.getElem_allOnes]
  rw [← BitVec.getLsbD_eq_getElem, ← BitVec.getLsbD_eq_getElem]
  revert h2
  cases x.toBitVec.getLsbD i <;> cases p.toBitVec.getLsbD i <;> simp
theorem upd_back {cl : Nat → Int32} {i : Nat} {p : Int32} (h : cl i &&& p = 0) : upd (upd cl i (cl i ||| p)) i ((upd cl i (cl i ||| p)) i &&& (p ^^^ (-1))) = cl := by
  funext j
  unfold upd
  by_cases e : j = i
  · subst e
    simp only [if_pos]
    exact or_back h
  · simp [e]
set_option maxRecDepth 100000 in
theorem c_place (adK : Nat → Nat) (d : Nat) (parts : Nat) (pN : Nat → Int32) (limit : Nat) (hp : parts ≤ 14) (hl : limit ≤ 14) : ∀ (z part used : Nat) (cl : Nat → Int32), part + z = parts → used ≤ 14 → pnCt mX4_place adK (d + 1 + z) 0 0 [.ref 0, .int (nI part), .int (nI used), .int (nI limit)] (hSha parts pN cl) (pnExP (fun cl' => plB pN limit z part used cl = false → cl' = cl) (fun _ => some (.int (nB (plB pN limit z part used cl)))) (fun cl' => hSha parts pN cl')) := by
  intro z
  induction z with
  | zero =>
    intro part used cl hz hu
    refine pnCt_of (by decide) kX4_place (Nat.le_of_ble_eq_true rfl) rfl (pnCH_b rfl) (pnCS_b rfl) ?_
    refine pn_iload_n (q := 1) dX4_place_0 rfl rfl ?_
    refine pn_aload_n (q := 2) dX4_place_1 rfl rfl rfl ?_
    refine pn_get (q := 5) fX4_18 dX4_place_2 rfl rfl rfl ?_
    first | refine pn_nge (q := 8) (tgt := 17) dX4_place_5 (by decide) rfl (by omega) (by omega) (fun hc5 => ?_) (fun hc5 => ?_) | refine pn_icmp_ge (q := 8) (tgt := 17) dX4_place_5 (by decide) rfl (fun hc5 => ?_) (fun hc5 => ?_)
    · refine pn_iconst (q := 18) (v := nI 1) dX4_place_17 rfl (by decide) ?_
      refine pn_tret (b := true) _ ?_ dX4_place_18 rfl ?_
      · rfl
      · exact ⟨cl, fun _ => rfl, rfl, rfl⟩
    · omega
  | succ z ih =>
    intro part used cl hz hu
    refine pnCt_of (by decide) kX4_place (Nat.le_of_ble_eq_true rfl) rfl (pnCH_b rfl) (pnCS_b rfl) ?_
    have loop : ∀ (w i : Nat), i + w = min (used + 1) limit → anyF (plG pN limit z part used cl) w i = plB pN limit (z + 1) part used cl → pnWP mX4_place adK (d + 1 + (z + 1)) (pnExP (fun cl' => plB pN limit (z + 1) part used cl = false → cl' = cl) (fun _ => some (.int (nB (plB pN limit (z + 1) part used cl)))) (fun cl' => hSha parts pN cl')) 0 0 (hSha parts pN cl) [some (.ref 0), some (.int (nI part)), some (.int (nI used)), some (.int (nI limit)), some (.int (nI i))] [] 22 := by
      intro w
      induction w with
      | zero =>
        intro i hw e
        have e : false = plB pN limit (z + 1) part used cl := e
        refine pn_iload (q := 24) dX4_place_22 rfl rfl ?_
        refine pn_iload_n (q := 25) dX4_place_24 rfl rfl ?_
        first | refine pn_ngt (q := 28) (tgt := 122) dX4_place_25 (by decide) rfl (by omega) (by omega) (fun hc25 => ?_) (fun hc25 => ?_) | refine pn_icmp_gt (q := 28) (tgt := 122) dX4_place_25 (by decide) rfl (fun hc25 => ?_) (fun hc25 => ?_)
        · refine pn_iconst (q := 123) (v := nI 0) dX4_place_122 rfl (by decide) ?_
          refine pn_tret (b := false) _ ?_ dX4_place_123 rfl ?_
          · rfl
          · exact ⟨cl, fun _ => rfl, by rw [← e], rfl⟩
        · refine pn_iload (q := 30) dX4_place_28 rfl rfl ?_
          refine pn_iload_n (q := 31) dX4_place_30 rfl rfl ?_
          first | refine pn_nge (q := 34) (tgt := 122) dX4_place_31 (by decide) rfl (by omega) (by omega) (fun hc31 => ?_) (fun hc31 => ?_) | refine pn_icmp_ge (q := 34) (tgt := 122) dX4_place_31 (by decide) rfl (fun hc31 => ?_) (fun hc31 => ?_)
          · refine pn_iconst (q := 123) (v := nI 0) dX4_place_122 rfl (by decide) ?_
            refine pn_tret (b := false) _ ?_ dX4_place_123 rfl ?_
            · rfl
            · exact ⟨cl, fun _ => rfl, by rw [← e], rfl⟩
          · omega
      | succ w iw =>
        intro i hw e
        have e2 : anyF (plG pN limit z part used cl) (w + 1) i = if plG pN limit z part used cl i = true then true else anyF (plG pN limit z part used cl) w (i + 1) := rfl
        have e3 : plG pN limit z part used cl i = (decide (cl i &&& pN part = 0) && plB pN limit z (part + 1) (max used (i + 1)) (upd cl i (cl i ||| pN part))) := rfl
        refine pn_iload (q := 24) dX4_place_22 rfl rfl ?_
        refine pn_iload_n (q := 25) dX4_place_24 rfl rfl ?_
        first | refine pn_ngt (q := 28) (tgt := 122) dX4_place_25 (by decide) rfl (by omega) (by omega) (fun hc25 => ?_) (fun hc25 => ?_) | refine pn_icmp_gt (q := 28) (tgt := 122) dX4_place_25 (by decide) rfl (fun hc25 => ?_) (fun hc25 => ?_)
        · omega
        · refine pn_iload (q := 30) dX4_place_28 rfl rfl ?_
          refine pn_iload_n (q := 31) dX4_place_30 rfl rfl ?_
          first | refine pn_nge (q := 34) (tgt := 122) dX4_place_31 (by decide) rfl (by omega) (by omega) (fun hc31 => ?_) (fun hc31 => ?_) | refine pn_icmp_ge (q := 34) (tgt := 122) dX4_place_31 (by decide) rfl (fun hc31 => ?_) (fun hc31 => ?_)
          · omega
          · refine pn_iload (q := 36) dX4_place_34 rfl rfl ?_
            refine pn_aload_n (q := 37) dX4_place_36 rfl rfl rfl ?_
            refine pn_get (q := 40) fX4_15 dX4_place_37 rfl rfl rfl ?_
            refine pn_alen (q := 41) dX4_place_40 rfl rfl (by decide) ?_
            first | refine pn_nge (q := 44) (tgt := 122) dX4_place_41 (by decide) rfl (by omega) (by omega) (fun hc41 => ?_) (fun hc41 => ?_) | refine pn_icmp_ge (q := 44) (tgt := 122) dX4_place_41 (by decide) rfl (fun hc41 => ?_) (fun hc41 => ?_)
            · omega
            · refine pn_aload_n (q := 45) dX4_place_44 rfl rfl rfl ?_
              refine pn_get (q := 48) fX4_15 dX4_place_45 rfl rfl rfl ?_
              refine pn_iload (q := 50) dX4_place_48 rfl rfl ?_
              refine pn_iald (q := 51) dX4_place_50 rfl rfl rfl (by omega) (by first | decide | omega) ?_
              refine pn_aload_n (q := 52) dX4_place_51 rfl rfl rfl ?_
              refine pn_get (q := 55) fX4_9 dX4_place_52 rfl rfl rfl ?_
              refine pn_iload_n (q := 56) dX4_place_55 rfl rfl ?_
              refine pn_iald (q := 57) dX4_place_56 rfl rfl rfl (by omega) (by first | decide | omega) ?_
              refine pn_iand (q := 58) dX4_place_57 rfl ?_
              refine pn_if_ne (q := 61) (tgt := 116) dX4_place_58 (by decide) rfl (fun hc58 => ?_) (fun hc58 => ?_)
              · first | refine pn_iinc1 (q := 119) dX4_place_116 rfl rfl (by decide) ?_ | refine pn_iinc (q := 119) (mm := 1) dX4_place_116 rfl rfl (by decide) (by decide) ?_
                refine pn_goto (q := 22) dX4_place_119 (by decide) ?_
                first | exact iw (i + 1) (by omega) (by rw [← e, e2, if_neg (by rw [e3, decide_eq_false hc58, Bool.false_and]; exact Bool.false_ne_true)]) | exact iw (i + 1) (by omega) (by rw [← e, e2, if_neg (by rw [e3, hc93, Bool.and_false]; exact Bool.false_ne_true)])
              · refine pn_aload_n (q := 62) dX4_place_61 rfl rfl rfl ?_
                refine pn_get (q := 65) fX4_15 dX4_place_62 rfl rfl rfl ?_
                refine pn_iload (q := 67) dX4_place_65 rfl rfl ?_
                first | refine pn_dup2 (q := 68) dX4_place_67 rfl rfl rfl ?_ | refine pn_dup2l (q := 68) dX4_place_67 rfl ?_
                refine pn_iald (q := 69) dX4_place_68 rfl rfl rfl (by omega) (by first | decide | omega) ?_
                refine pn_aload_n (q := 70) dX4_place_69 rfl rfl rfl ?_
                refine pn_get (q := 73) fX4_9 dX4_place_70 rfl rfl rfl ?_
                refine pn_iload_n (q := 74) dX4_place_73 rfl rfl ?_
                refine pn_iald (q := 75) dX4_place_74 rfl rfl rfl (by omega) (by first | decide | omega) ?_
                refine pn_ior (q := 76) dX4_place_75 rfl ?_
                refine pn_iast (q := 77) dX4_place_76 rfl rfl rfl (by omega) (by first | decide | omega) ?_
                refine pn_aload_n (q := 78) dX4_place_77 rfl rfl rfl ?_
                refine pn_iload_n (q := 79) dX4_place_78 rfl rfl ?_
                refine pn_iconst (q := 80) (v := nI 1) dX4_place_79 rfl (by decide) ?_
                first | with_reducible refine pn_iaddN (q := 81) dX4_place_80 rfl ?_ | refine pn_iadd (q := 81) dX4_place_80 rfl ?_
                refine pn_iload_n (q := 82) dX4_place_81 rfl rfl ?_
                refine pn_iload (q := 84) dX4_place_82 rfl rfl ?_
                refine pn_iconst (q := 85) (v := nI 1) dX4_place_84 rfl (by decide) ?_
                first | with_reducible refine pn_iaddN (q := 86) dX4_place_85 rfl ?_ | refine pn_iadd (q := 86) dX4_place_85 rfl ?_
                refine pn_roS1 (q := 89) (c_max adK d used (i + 1) (by omega) (by omega)) lkX4_44 dX4_place_86 rfl rfl (pnSel_of (I := []) rfl rfl) (pnFree_none rfl) rfl (by omega) (Nat.le_of_ble_eq_true rfl) rfl ?_
                refine pn_iload_n (q := 90) dX4_place_89 rfl rfl ?_
                refine pn_ePV1 (q := 93) (bc9 := 0) (bs9 := 0) (ih (part + 1) (max used (i + 1)) (upd cl i (cl i ||| pN part)) (by omega) (by omega)) lkX4_56 dX4_place_90 rfl rfl (pnSel_of (I := [0, 1, 2]) rfl rfl) (pnFree_none rfl) rfl rfl rfl (by omega) (by omega) (by omega) (Nat.le_of_ble_eq_true rfl) (fun _ => rfl) (fun s hs => ?_)
                refine pn_eq (h' := (hSha parts pN s)) (st' := _) rfl rfl ?_
                refine pn_beq (q := 96) (tgt := 98) dX4_place_93 (by decide) rfl (fun hc93 => ?_) (fun hc93 => ?_)
                · have hs9 := hs hc93; subst hs9; refine pn_aload_n (q := 99) dX4_place_98 rfl rfl rfl ?_
                  refine pn_get (q := 102) fX4_15 dX4_place_99 rfl rfl rfl ?_
                  refine pn_iload (q := 104) dX4_place_102 rfl rfl ?_
                  first | refine pn_dup2 (q := 105) dX4_place_104 rfl rfl rfl ?_ | refine pn_dup2l (q := 105) dX4_place_104 rfl ?_
                  refine pn_iald (q := 106) dX4_place_105 rfl rfl rfl (by omega) (by first | decide | omega) ?_
                  refine pn_aload_n (q := 107) dX4_place_106 rfl rfl rfl ?_
                  refine pn_get (q := 110) fX4_9 dX4_place_107 rfl rfl rfl ?_
                  refine pn_iload_n (q := 111) dX4_place_110 rfl rfl ?_
                  refine pn_iald (q := 112) dX4_place_111 rfl rfl rfl (by omega) (by first | decide | omega) ?_
                  refine pn_iconst (q := 113) (v := (-1)) dX4_place_112 rfl (by decide) ?_
                  refine pn_ixor (q := 114) dX4_place_113 rfl ?_
                  refine pn_iand (q := 115) dX4_place_114 rfl ?_
                  refine pn_iast (q := 116) dX4_place_115 rfl rfl rfl (by omega) (by decide) ?_; refine pn_eq (h' := hSha parts pN cl) (st' := _) (by have := upd_back hc58; unfold hSha; rw [← this]; simp only [this]; rfl) rfl ?_
                  first | refine pn_iinc1 (q := 119) dX4_place_116 rfl rfl (by decide) ?_ | refine pn_iinc (q := 119) (mm := 1) dX4_place_116 rfl rfl (by decide) (by decide) ?_
                  refine pn_goto (q := 22) dX4_place_119 (by decide) ?_
                  first | exact iw (i + 1) (by omega) (by rw [← e, e2, if_neg (by rw [e3, decide_eq_false hc58, Bool.false_and]; exact Bool.false_ne_true)]) | exact iw (i + 1) (by omega) (by rw [← e, e2, if_neg (by rw [e3, hc93, Bool.and_false]; exact Bool.false_ne_true)])
                · refine pn_iconst (q := 97) (v := nI 1) dX4_place_96 rfl (by decide) ?_
                  refine pn_tret (b := true) _ ?_ dX4_place_97 rfl ?_
                  · rfl
                  · have e7 : plB pN limit (z + 1) part used cl = true := (by rw [← e, e2, if_pos (by rw [e3, decide_eq_true hc58, hc93]; rfl)]); exact ⟨s, ⟨(fun q => absurd (e7.symm.trans q) Bool.noConfusion), ⟨(by rw [e7]), rfl⟩⟩⟩
    refine pn_iload_n (q := 1) dX4_place_0 rfl rfl ?_
    refine pn_aload_n (q := 2) dX4_place_1 rfl rfl rfl ?_
    refine pn_get (q := 5) fX4_18 dX4_place_2 rfl rfl rfl ?_
    first | refine pn_nge (q := 8) (tgt := 17) dX4_place_5 (by decide) rfl (by omega) (by omega) (fun hc5 => ?_) (fun hc5 => ?_) | refine pn_icmp_ge (q := 8) (tgt := 17) dX4_place_5 (by decide) rfl (fun hc5 => ?_) (fun hc5 => ?_)
    · omega
    · refine pn_iload_n (q := 9) dX4_place_8 rfl rfl ?_
      refine pn_aload_n (q := 10) dX4_place_9 rfl rfl rfl ?_
      refine pn_get (q := 13) fX4_9 dX4_place_10 rfl rfl rfl ?_
      refine pn_alen (q := 14) dX4_place_13 rfl rfl (by decide) ?_
      first | refine pn_nlt (q := 17) (tgt := 19) dX4_place_14 (by decide) rfl (by omega) (by omega) (fun hc14 => ?_) (fun hc14 => ?_) | refine pn_icmp_lt (q := 17) (tgt := 19) dX4_place_14 (by decide) rfl (fun hc14 => ?_) (fun hc14 => ?_)
      · refine pn_iconst (q := 20) (v := nI 0) dX4_place_19 rfl (by decide) ?_
        refine pn_istore (q := 22) dX4_place_20 rfl (by decide) ?_
        exact loop (min (used + 1) limit) 0 (by omega) rfl
      · omega

set_option maxRecDepth 100000 in
theorem c_fill (adK : Nat → Nat) (d len : Nat) (f : Nat → Int32) (v : Int32) (hl : len ≤ 100000) : pnCt mJ7_fill_53178 adK d 0 0 [.ref 0, .int v] [.inl (0, len, .inl f)] (pnIs (.inl none) [.inl (0, len, .inl (fun _ => v))]) := by
  refine pnCt_of (by decide) kJ7_fill_53178 (Nat.le_of_ble_eq_true rfl) rfl (pnCH_b rfl) (pnCS_b rfl) ?_
  refine pn_iconst (q := 1) (v := nI 0) dJ7_fill_53178_0 rfl (by decide) ?_
  refine pn_istore_n (q := 2) dJ7_fill_53178_1 rfl (by decide) ?_
  refine pn_aload_n (q := 3) dJ7_fill_53178_2 rfl rfl rfl ?_
  refine pn_alen (q := 4) dJ7_fill_53178_3 rfl rfl (by decide) ?_
  refine pn_istore_n (q := 5) dJ7_fill_53178_4 rfl (by decide) ?_
  have loop : ∀ (z i : Nat), i + z = len → pnWP mJ7_fill_53178 adK d (pnIs (.inl none) [.inl (0, len, .inl (fun _ => v))]) 0 0 [.inl (0, len, .inl (fun j => if j < i then v else f j))] [some (.ref 0), some (.int v), some (.int (nI i)), some (.int (nI len))] [] 5 := by
    intro z
    induction z with
    | zero =>
      intro i hz
      refine pn_exti (a := 0) (n := len) (f := fun j => if j < i then v else f j) (fun _ => v) rfl (fun j hj => if_pos (by omega)) ?_
      refine pn_iload_n (q := 6) dJ7_fill_53178_5 rfl rfl ?_
      refine pn_iload_n (q := 7) dJ7_fill_53178_6 rfl rfl ?_
      first | refine pn_nge (q := 10) (tgt := 20) dJ7_fill_53178_7 (by decide) rfl (by omega) (by omega) (fun hc7 => ?_) (fun hc7 => ?_) | refine pn_icmp_ge (q := 10) (tgt := 20) dJ7_fill_53178_7 (by decide) rfl (fun hc7 => ?_) (fun hc7 => ?_)
      · refine pn_vret dJ7_fill_53178_20 rfl ?_
        exact ⟨rfl, rfl⟩
      · omega
    | succ z ih =>
      intro i hz
      have e9 : upd (fun j => if j < i then v else f j) i v = fun j => if j < i + 1 then v else f j := by
        funext j
        unfold upd
        by_cases e : j = i
        · subst e; simp
        · by_cases e2 : j < i
          · simp [e, e2, Nat.lt_succ_of_lt e2]
          · simp [e, e2]
            intro h
            omega
      refine pn_iload_n (q := 6) dJ7_fill_53178_5 rfl rfl ?_
      refine pn_iload_n (q := 7) dJ7_fill_53178_6 rfl rfl ?_
      first | refine pn_nge (q := 10) (tgt := 20) dJ7_fill_53178_7 (by decide) rfl (by omega) (by omega) (fun hc7 => ?_) (fun hc7 => ?_) | refine pn_icmp_ge (q := 10) (tgt := 20) dJ7_fill_53178_7 (by decide) rfl (fun hc7 => ?_) (fun hc7 => ?_)
      · omega
      · refine pn_aload_n (q := 11) dJ7_fill_53178_10 rfl rfl rfl ?_
        refine pn_iload_n (q := 12) dJ7_fill_53178_11 rfl rfl ?_
        refine pn_iload_n (q := 13) dJ7_fill_53178_12 rfl rfl ?_
        refine pn_iast (q := 14) dJ7_fill_53178_13 rfl rfl rfl (by omega) (by omega) ?_; refine pn_eq (h' := [.inl (0, len, .inl (fun j => if j < i + 1 then v else f j))]) (st' := _) (by rw [← e9]; rfl) rfl ?_
        first | refine pn_iinc1 (q := 17) dJ7_fill_53178_14 rfl rfl (by decide) ?_ | refine pn_iinc (q := 17) (mm := 1) dJ7_fill_53178_14 rfl rfl (by decide) (by decide) ?_
        refine pn_goto (q := 5) dJ7_fill_53178_17 (by decide) ?_
        exact ih (i + 1) (by omega)
  exact loop len 0 (by omega)
