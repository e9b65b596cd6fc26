def cfR : Nat → Nat → Nat → Bool
  | 0, _, _ => false
  | z + 1, a, b => if a % 2 = b % 2 then cfR z (a / 2) (b / 2) else decide (a % 2 = 1)
def ky : Nat → Nat → Nat
  | 0, _ => 0
  | z + 1, a => (1 - a % 2) * 2 ^ z + ky z (a / 2)
theorem ky_lt : ∀ z a, ky z a < 2 ^ z
  | 0, _ => Nat.zero_lt_one
  | z + 1, a => by
    have := ky_lt z (a / 2)
    unfold ky
    rw [Nat.pow_succ]
    have h : a % 2 = 0 ∨ a % 2 = 1 := by omega
    rcases h with h | h <;> rw [h] <;> simp <;> omega
theorem cfR_ky : ∀ z a b, cfR z a b = true ↔ ky z a < ky z b
  | 0, a, b => by simp [cfR, ky]
  | z + 1, a, b => by
    have h1 := ky_lt z (a / 2)
    have h2 := ky_lt z (b / 2)
    have ih := cfR_ky z (a / 2) (b / 2)
    unfold cfR ky
    have ha : a % 2 = 0 ∨ a % 2 = 1 := by omega
    have hb : b % 2 = 0 ∨ b % 2 = 1 := by omega
    rcases ha with ha | ha <;> rcases hb with hb | hb <;> rw [ha, hb] <;> simp <;> first | omega | (rw [ih])
theorem and_h (x y : Nat) : x &&& y = 2 * (x / 2 &&& y / 2) + (x % 2) * (y % 2) := by
  have h1 : (x &&& y) / 2 = x / 2 &&& y / 2 := Nat.and_div_two
  have h2 : (x &&& y) % 2 = (x % 2) * (y % 2) := by
    have := Nat.and_mod_two_pow (a := x) (b := y) (n := 1)
    rw [Nat.pow_one] at this
    rw [this]
    have ha : x % 2 = 0 ∨ x % 2 = 1 := by omega
    have hb : y % 2 = 0 ∨ y % 2 = 1 := by omega
    rcases ha with ha | ha <;> rcases hb with hb | hb <;> rw [ha, hb] <;> rfl
  omega
theorem xor_h (x y : Nat) : x ^^^ y = 2 * (x / 2 ^^^ y / 2) + (x + y) % 2 := by
  have h1 : (x ^^^ y) / 2 = x / 2 ^^^ y / 2 := Nat.xor_div_two
  have h2 : (x ^^^ y) % 2 = (x + y) % 2 := by
    have := Nat.xor_mod_two_pow (a := x) (b := y) (n := 1)
    rw [Nat.pow_one] at this
    rw [this]
    have ha : x % 2 = 0 ∨ x % 2 = 1 := by omega
    have hb : y % 2 = 0 ∨ y % 2 = 1 := by omega
    rcases ha with ha | ha <;> rcases hb with hb | hb <;> rw [ha, hb] <;> simp <;> omega
  omega
theorem and_co : ∀ z u, u < 2 ^ z → u &&& (2 ^ z - 1 - u) = 0
  | 0, u, h => by
    have : u = 0 := by simpa using h
    subst this; rfl
  | z + 1, u, h => by
    rw [Nat.pow_succ] at h ⊢
    have ih := and_co z (u / 2) (by omega)
    rw [and_h, show (2 ^ z * 2 - 1 - u) / 2 = 2 ^ z - 1 - u / 2 by omega, ih]
    have ha : u % 2 = 0 ∨ u % 2 = 1 := by omega
    rcases ha with ha | ha
    · rw [ha]; simp
    · rw [show (2 ^ z * 2 - 1 - u) % 2 = 0 by omega]; simp
theorem cfR_and : ∀ z a b, a < 2 ^ z → b < 2 ^ z → a ^^^ b ≠ 0 → ((a &&& (a ^^^ b)) &&& (2 ^ z - (a ^^^ b)) ≠ 0 ↔ cfR z a b = true)
  | 0, a, b, ha, hb, h => by
    have ha : a = 0 := by simpa using ha
    have hb : b = 0 := by simpa using hb
    subst ha; subst hb; exact absurd rfl h
  | z + 1, a, b, ha, hb, h => by
    rw [Nat.pow_succ] at ha hb ⊢
    have hu : a / 2 ^^^ b / 2 < 2 ^ z := Nat.xor_lt_two_pow (by omega) (by omega)
    have ih := cfR_and z (a / 2) (b / 2) (by omega) (by omega)
    have hx := xor_h a b
    unfold cfR
    by_cases e : a % 2 = b % 2
    · rw [if_pos e]
      have h0 : (a + b) % 2 = 0 := by omega
      rw [h0, Nat.add_zero] at hx
      have hne : a / 2 ^^^ b / 2 ≠ 0 := fun q => h (by rw [hx, q])
      rw [← ih hne]
      have k1 := and_h (a &&& (a ^^^ b)) (2 ^ z * 2 - (a ^^^ b))
      have k2 := and_h a (a ^^^ b)
      have m1 : (a ^^^ b) / 2 = a / 2 ^^^ b / 2 := Nat.xor_div_two
      have m2 : (a ^^^ b) % 2 = 0 := by omega
      have m3 : (2 ^ z * 2 - (a ^^^ b)) / 2 = 2 ^ z - (a / 2 ^^^ b / 2) := by omega
      have m4 : (2 ^ z * 2 - (a ^^^ b)) % 2 = 0 := by omega
      have m5 : (a &&& (a ^^^ b)) / 2 = a / 2 &&& (a / 2 ^^^ b / 2) := by rw [Nat.and_div_two, m1]
      rw [k1, m3, m4, m5, Nat.mul_zero, Nat.add_zero]
      omega
    · rw [if_neg e]
      have h0 : (a + b) % 2 = 1 := by omega
      rw [h0] at hx
      have k1 := and_h (a &&& (a ^^^ b)) (2 ^ z * 2 - (a ^^^ b))
      have m1 : (a ^^^ b) / 2 = a / 2 ^^^ b / 2 := Nat.xor_div_two
      have m3 : (2 ^ z * 2 - (a ^^^ b)) / 2 = 2 ^ z - 1 - (a / 2 ^^^ b / 2) := by omega
      have m4 : (2 ^ z * 2 - (a ^^^ b)) % 2 = 1 := by omega
      have m5 : (a &&& (a ^^^ b)) / 2 = a / 2 &&& (a / 2 ^^^ b / 2) := by rw [Nat.and_div_two, m1]
      have m6 : (a &&& (a ^^^ b)) % 2 = a % 2 := by
        have := and_h a (a ^^^ b)
        have m7 : (a ^^^ b) % 2 = 1 := by omega
        rw [m7, Nat.mul_one] at this
        omega
      rw [k1, m3, m4, m5, m6, Nat.mul_one, Nat.and_assoc, and_co z _ hu, Nat.and_zero]
      simp

def n64 (x : Int64) : Nat := x.toBitVec.toNat
theorem n64_lt (x : Int64) : n64 x < 2 ^ 64 := x.toBitVec.isLt
theorem n64_inj {x y : Int64} (h : n64 x = n64 y) : x = y := Int64.toBitVec_inj.mp (BitVec.eq_of_toNat_eq h)
theorem n64_0 {x : Int64} : x = 0 ↔ n64 x = 0 := ⟨fun h => by rw [h]; rfl, fun h => n64_inj (by rw [h]; rfl)⟩
theorem n64_and (x y : Int64) : n64 (x &&& y) = n64 x &&& n64 y := by unfold n64; rw [Int64.toBitVec_and, BitVec.toNat_and]
theorem n64_or (x y : Int64) : n64 (x ||| y) = n64 x ||| n64 y := by unfold n64; rw [Int64.toBitVec_or, BitVec.toNat_or]
theorem n64_xor (x y : Int64) : n64 (x ^^^ y) = n64 x ^^^ n64 y := by unfold n64; rw [Int64.toBitVec_xor, BitVec.toNat_xor]
theorem n64_neg (x : Int64) : n64 (-x) = (2 ^ 64 - n64 x) % 2 ^ 64 := by unfold n64; rw [Int64.toBitVec_neg, BitVec.toNat_neg]
theorem cfR_self : ∀ z a, cfR z a a = false
  | 0, _ => rfl
  | z + 1, a => by unfold cfR; rw [if_pos rfl]; exact cfR_self z _
theorem cfN_R (x y : Int64) : cfN x y = cfR 64 (n64 x) (n64 y) := by
  unfold cfN
  by_cases e : n64 x ^^^ n64 y = 0
  · have hxy : n64 x = n64 y := by
      have := congrArg (fun t => t ^^^ n64 y) e
      simpa [Nat.xor_assoc] using this
    have := n64_inj hxy
    subst this
    rw [cfR_self]
    apply decide_eq_false
    intro q
    apply q
    rw [n64_0, n64_and, n64_and, n64_xor, Nat.xor_self, Nat.and_zero, Nat.zero_and]
  · have h := cfR_and 64 (n64 x) (n64 y) (n64_lt x) (n64_lt y) e
    have hlt : n64 x ^^^ n64 y < 2 ^ 64 := Nat.xor_lt_two_pow (n64_lt x) (n64_lt y)
    cases hc : cfR 64 (n64 x) (n64 y) with
    | true =>
      apply decide_eq_true
      intro q
      rw [n64_0, n64_and, n64_and, n64_neg, n64_xor, Nat.mod_eq_of_lt (by omega)] at q
      exact h.mpr hc q
    | false =>
      apply decide_eq_false
      intro q
      rw [hc] at h
      apply q
      rw [n64_0, n64_and, n64_and, n64_neg, n64_xor, Nat.mod_eq_of_lt (by omega)]
      exact Classical.not_not.mp (fun q2 => Bool.false_ne_true (h.mp q2))
/-- the rows' order as an order of numbers -/
def ky64 (x : Int64) : Nat := ky 64 (n64 x)
theorem cfN_ky (x y : Int64) : cfN x y = true ↔ ky64 x < ky64 y := by rw [cfN_R]; exact cfR_ky 64 _ _
theorem ky_inj : ∀ z a b, a < 2 ^ z → b < 2 ^ z → ky z a = ky z b → a = b
  | 0, a, b, ha, hb, _ => by
    have ha : a = 0 := by simpa using ha
    have hb : b = 0 := by simpa using hb
    rw [ha, hb]
  | z + 1, a, b, ha, hb, h => by
    rw [Nat.pow_succ] at ha hb
    have h1 := ky_lt z (a / 2)
    have h2 := ky_lt z (b / 2)
    have ih := ky_inj z (a / 2) (b / 2) (by omega) (by omega)
    unfold ky at h
    have ea : a % 2 = 0 ∨ a % 2 = 1 := by omega
    have eb : b % 2 = 0 ∨ b % 2 = 1 := by omega
    rcases ea with ea | ea <;> rcases eb with eb | eb <;> rw [ea, eb] at h <;> simp at h <;> first | omega | (have := ih h; omega)
theorem ky64_inj {x y : Int64} (h : ky64 x = ky64 y) : x = y := n64_inj (ky_inj 64 _ _ (n64_lt x) (n64_lt y) h)
