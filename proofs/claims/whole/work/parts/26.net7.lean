def fmN (x : Int32) (n : Nat) : Nat := (x.toInt % (n : Int)).toNat
theorem tdiv_abs (X : Int) (n : Nat) : (X.tdiv n).natAbs = X.natAbs / n := by
  rw [Int.natAbs_tdiv, Int.natAbs_natCast]; rfl
theorem irem_toInt (x : Int32) (n : Nat) (h0 : 0 < n) (hn : n < 2 ^ 31) : (x - x / nI n * nI n).toInt = x.toInt.tmod n := by
  have hx := x.toInt_lt
  have hx2 := x.le_toInt
  have e1 : (nI n).toInt = (n : Int) := nI_toInt hn
  generalize hX : x.toInt = X at *
  have hab := tdiv_abs X n
  have hdl : X.natAbs / n ≤ X.natAbs := Nat.div_le_self _ _
  have hml : X.natAbs / n * n ≤ X.natAbs := Nat.div_mul_le_self _ _
  have hd : (x / nI n).toInt = X.tdiv n := by
    rw [Int32.toInt_div, e1, hX]
    by_cases h1 : n = 1
    · subst h1
      rw [show ((1 : Nat) : Int) = 1 from rfl, Int.tdiv_one]
      exact Int.bmod_eq_of_le (by omega) (by omega)
    · have h2 : X.natAbs / n * 2 ≤ X.natAbs / n * n := Nat.mul_le_mul_left _ (by omega)
      exact Int.bmod_eq_of_le (by omega) (by omega)
  have hdm : X.tdiv n * n + X.tmod n = X := by
    have := Int.mul_tdiv_add_tmod X n
    rw [Int.mul_comm]; exact this
  have hsg : (0 ≤ X → 0 ≤ X.tdiv n) ∧ (X ≤ 0 → X.tdiv n ≤ 0) := by
    refine ⟨fun h => Int.tdiv_nonneg h (by omega), fun h => ?_⟩
    rw [show X = -(-X) by omega, Int.neg_tdiv]
    have := Int.tdiv_nonneg (a := -X) (b := n) (by omega) (by omega)
    omega
  have b3 : (X.tdiv n * n).natAbs ≤ X.natAbs := by
    rw [Int.natAbs_mul, hab, Int.natAbs_natCast]; exact hml
  have b4 : (0 ≤ X → 0 ≤ X.tdiv n * n) ∧ (X ≤ 0 → X.tdiv n * n ≤ 0) :=
    ⟨fun h => Int.mul_nonneg (hsg.1 h) (by omega), fun h => Int.mul_nonpos_of_nonpos_of_nonneg (hsg.2 h) (by omega)⟩
  have hmul0 : (x / nI n * nI n).toInt = (X.tdiv n * n).bmod (2 ^ 32) := by rw [Int32.toInt_mul, hd, e1]
  generalize X.tdiv n * n = Y at *
  have hmul : (x / nI n * nI n).toInt = Y := by
    rw [hmul0]
    by_cases h9 : 0 ≤ X
    · have := b4.1 h9
      exact Int.bmod_eq_of_le (by omega) (by omega)
    · have := b4.2 (by omega)
      exact Int.bmod_eq_of_le (by omega) (by omega)
  rw [Int32.toInt_sub, hmul, hX]
  have : X - Y = X.tmod n := by omega
  rw [this]
  by_cases h9 : 0 ≤ X
  · have := b4.1 h9
    exact Int.bmod_eq_of_le (by omega) (by omega)
  · have := b4.2 (by omega)
    exact Int.bmod_eq_of_le (by omega) (by omega)
theorem xor_sign (x : Int32) (n : Nat) (hn : n < 2 ^ 31) : (0 ≤ x ^^^ nI n) ↔ 0 ≤ x := by
  have h1 : ∀ y : Int32, (0 ≤ y) ↔ y.toBitVec.msb = false := fun y => by
    rw [Int32.le_iff_toInt_le, BitVec.msb_eq_toInt]
    show (0 : Int) ≤ y.toBitVec.toInt ↔ _
    rw [decide_eq_false_iff_not]; omega
  rw [h1, h1]
  have h2 : (nI n).toBitVec.msb = false := (h1 _).mp (nI_pos' hn)
  rw [Int32.toBitVec_xor, BitVec.msb_xor, h2, Bool.xor_false]
set_option maxRecDepth 100000 in
theorem c_floorMod (adK : Nat → Nat) (d : Nat) (x : Int32) (n : Nat) (h0 : 0 < n) (hn : n < 2 ^ 31) : pnCt mJ9_floorMod_7cf53 adK d 0 0 [.int x, .int (nI n)] [] (pnIs (.inl (some (.int (nI (fmN x n))))) []) := by
  refine pnCt_ofF (by decide +kernel) kJ9_floorMod_7cf53 (Nat.le_of_ble_eq_true rfl) rfl (pnCH_b rfl) (pnCS_b rfl) ?_
  have hr := irem_toInt x n h0 hn
  have hxs := xor_sign x n hn
  have e1 : (nI n).toInt = (n : Int) := nI_toInt hn
  have hpos := Int.emod_nonneg x.toInt (show (n : Int) ≠ 0 by omega)
  have hlt := Int.emod_lt_of_pos x.toInt (show (0 : Int) < n by omega)
  have hfm : (nI (fmN x n)).toInt = x.toInt % (n : Int) := by
    unfold fmN
    rw [nI_toInt (by omega)]; omega
  have hx0 : (0 ≤ x) ↔ 0 ≤ x.toInt := by rw [Int32.le_iff_toInt_le]; exact Iff.rfl
  have key : ∀ y : Int32, y.toInt = x.toInt % (n : Int) → y = nI (fmN x n) := fun y hy => Int32.toInt_inj.mp (by rw [hy, hfm])
  have hdm := Int.mul_tdiv_add_tmod x.toInt n
  have hm0 : x.toInt.tmod n = 0 → x.toInt % (n : Int) = 0 := fun q => by
    rw [q, Int.add_zero] at hdm
    rw [← hdm]; exact Int.mul_emod_right _ _
  have hmpos : 0 ≤ x.toInt → x.toInt.tmod n = x.toInt % (n : Int) := fun q => Int.tmod_eq_emod_of_nonneg q
  have hmneg : x.toInt < 0 → x.toInt.tmod n ≠ 0 → x.toInt.tmod n + n = x.toInt % (n : Int) := fun q q2 => by
    have := Int.tmod_eq_emod (a := x.toInt) (b := n)
    rw [if_neg (by
      intro h9
      rcases h9 with h9 | h9
      · omega
      · exact q2 (Int.tmod_eq_zero_of_dvd h9)), Int.natAbs_natCast] at this
    omega
  refine pn_iload_n (q := 1) dJ9_floorMod_7cf53_0 rfl rfl ?_
  refine pn_iload_n (q := 2) dJ9_floorMod_7cf53_1 rfl rfl ?_
  refine pn_irem (q := 3) dJ9_floorMod_7cf53_2 rfl (nI_ne0 h0 hn) ?_
  refine pn_istore_n (q := 4) dJ9_floorMod_7cf53_3 rfl (by decide) ?_
  refine pn_iload_n (q := 5) dJ9_floorMod_7cf53_4 rfl rfl ?_
  refine pn_iload_n (q := 6) dJ9_floorMod_7cf53_5 rfl rfl ?_
  refine pn_ixor (q := 7) dJ9_floorMod_7cf53_6 rfl ?_
  refine pn_if_ge (q := 10) (tgt := 18) dJ9_floorMod_7cf53_7 (by decide) rfl (fun hc7 => ?_) (fun hc7 => ?_)
  · refine pn_iload_n (q := 19) dJ9_floorMod_7cf53_18 rfl rfl ?_
    refine pn_iret dJ9_floorMod_7cf53_19 rfl ?_
    exact ⟨congrArg (fun z => Sum.inl (some (Value.int z))) (key _ (by first | (rw [hr]; exact hmpos (hx0.mp (hxs.mp hc7))) | (have h9 : (x - x / nI n * nI n).toInt = 0 := (by rw [hc11]; rfl); rw [h9]; rw [hr] at h9; exact (hm0 h9).symm))), rfl⟩
  · refine pn_iload_n (q := 11) dJ9_floorMod_7cf53_10 rfl rfl ?_
    refine pn_if_eq (q := 14) (tgt := 18) dJ9_floorMod_7cf53_11 (by decide) rfl (fun hc11 => ?_) (fun hc11 => ?_)
    · refine pn_iload_n (q := 19) dJ9_floorMod_7cf53_18 rfl rfl ?_
      refine pn_iret dJ9_floorMod_7cf53_19 rfl ?_
      exact ⟨congrArg (fun z => Sum.inl (some (Value.int z))) (key _ (by first | (rw [hr]; exact hmpos (hx0.mp (hxs.mp hc7))) | (have h9 : (x - x / nI n * nI n).toInt = 0 := (by rw [hc11]; rfl); rw [h9]; rw [hr] at h9; exact (hm0 h9).symm))), rfl⟩
    · refine pn_iload_n (q := 15) dJ9_floorMod_7cf53_14 rfl rfl ?_
      refine pn_iload_n (q := 16) dJ9_floorMod_7cf53_15 rfl rfl ?_
      first | with_reducible refine pn_iaddN (q := 17) dJ9_floorMod_7cf53_16 rfl ?_ | refine pn_iadd (q := 17) dJ9_floorMod_7cf53_16 rfl ?_
      refine pn_iret dJ9_floorMod_7cf53_17 rfl ?_
      exact ⟨congrArg (fun z => Sum.inl (some (Value.int z))) (key _ (by have hneg : x.toInt < 0 := (by rcases Int.lt_or_le x.toInt 0 with q | q; exact q; exact absurd (hxs.mpr (hx0.mpr q)) hc7); have h9 := hmneg hneg (fun q => hc11 (Int32.toInt_inj.mp (by rw [hr, q]; rfl))); rw [Int32.toInt_add, hr, e1, h9]; exact Int.bmod_eq_of_le (by omega) (by omega))), rfl⟩
