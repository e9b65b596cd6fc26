/-! ===== numbers as digits ===== -/
def vsD (W : Nat) : (Nat → Nat) → Nat → Nat
  | _, 0 => 0
  | f, n + 1 => f 0 + W * vsD W (fun i => f (i + 1)) n
theorem vsD_congr {W : Nat} : ∀ {n : Nat} {f g : Nat → Nat}, (∀ i, i < n → f i = g i) → vsD W f n = vsD W g n
  | 0, _, _, _ => rfl
  | n + 1, f, g, h => by
    show f 0 + W * vsD W (fun i => f (i + 1)) n = g 0 + W * vsD W (fun i => g (i + 1)) n
    rw [h 0 (by omega), vsD_congr (fun i hi => h (i + 1) (by omega))]
theorem vsD_add (W : Nat) : ∀ (n : Nat) (f g : Nat → Nat), vsD W f n + vsD W g n = vsD W (fun i => f i + g i) n
  | 0, _, _ => rfl
  | n + 1, f, g => by
    have ih := vsD_add W n (fun i => f (i + 1)) (fun i => g (i + 1))
    show f 0 + W * vsD W (fun i => f (i + 1)) n + (g 0 + W * vsD W (fun i => g (i + 1)) n) = f 0 + g 0 + W * vsD W (fun i => f (i + 1) + g (i + 1)) n
    rw [← ih, Nat.mul_add]; omega
theorem vsD_top (W : Nat) : ∀ (n : Nat) (f : Nat → Nat), f n = 0 → vsD W f (n + 1) = vsD W f n
  | 0, f, h => by show f 0 + W * 0 = 0; rw [h]; omega
  | n + 1, f, h => by
    have ih := vsD_top W n (fun i => f (i + 1)) h
    show f 0 + W * vsD W (fun i => f (i + 1)) (n + 1) = f 0 + W * vsD W (fun i => f (i + 1)) n
    rw [ih]
theorem vsD_div {W : Nat} (n : Nat) (f : Nat → Nat) (h0 : f 0 < W) (hn : f n = 0) : vsD W f n / W = vsD W (fun i => f (i + 1)) n := by
  have h1 := vsD_top W n f hn
  have h2 : vsD W f (n + 1) = f 0 + W * vsD W (fun i => f (i + 1)) n := rfl
  rw [← h1, h2, Nat.add_mul_div_left _ _ (by omega), Nat.div_eq_of_lt h0, Nat.zero_add]
theorem vsD_pair (W : Nat) : ∀ (n : Nat) (f : Nat → Nat), vsD W f (2 * n) = vsD (W * W) (fun i => f (2 * i) + W * f (2 * i + 1)) n
  | 0, f => rfl
  | n + 1, f => by
    have ih := vsD_pair W n (fun i => f (i + 2))
    have e : vsD W f (2 * (n + 1)) = f 0 + W * (f 1 + W * vsD W (fun i => f (i + 2)) (2 * n)) := rfl
    have e2 : vsD (W * W) (fun i => f (2 * i) + W * f (2 * i + 1)) (n + 1) = f 0 + W * f 1 + W * W * vsD (W * W) (fun i => f (2 * (i + 1)) + W * f (2 * (i + 1) + 1)) n := rfl
    rw [e, e2, ih, Nat.mul_add, ← Nat.mul_assoc, Nat.add_assoc]
    rfl
theorem and_dig {w a b r s : Nat} (ha : a < 2 ^ w) (hb : b < 2 ^ w) : (a + 2 ^ w * r) &&& (b + 2 ^ w * s) = (a &&& b) + 2 ^ w * (r &&& s) := by
  have hab : a &&& b < 2 ^ w := Nat.and_lt_two_pow _ hb
  apply Nat.eq_of_testBit_eq
  intro i
  rw [Nat.testBit_and, Nat.add_comm a, Nat.add_comm b, Nat.add_comm (a &&& b), Nat.testBit_two_pow_mul_add _ ha, Nat.testBit_two_pow_mul_add _ hb, Nat.testBit_two_pow_mul_add _ hab]
  split
  · rw [Nat.testBit_and]
  · rw [Nat.testBit_and]
theorem vsD_and (w : Nat) : ∀ (n : Nat) (f g : Nat → Nat), (∀ i, f i < 2 ^ w) → (∀ i, g i < 2 ^ w) → vsD (2 ^ w) f n &&& vsD (2 ^ w) g n = vsD (2 ^ w) (fun i => f i &&& g i) n
  | 0, _, _, _, _ => by show (0 &&& 0 : Nat) = 0; rfl
  | n + 1, f, g, hf, hg => by
    have ih := vsD_and w n (fun i => f (i + 1)) (fun i => g (i + 1)) (fun i => hf _) (fun i => hg _)
    show (f 0 + 2 ^ w * vsD (2 ^ w) (fun i => f (i + 1)) n) &&& (g 0 + 2 ^ w * vsD (2 ^ w) (fun i => g (i + 1)) n) = (f 0 &&& g 0) + 2 ^ w * vsD (2 ^ w) (fun i => f (i + 1) &&& g (i + 1)) n
    rw [and_dig (hf 0) (hg 0), ih]
theorem vsD_lt (w : Nat) : ∀ (n : Nat) (f : Nat → Nat), (∀ i, f i < 2 ^ w) → vsD (2 ^ w) f n < 2 ^ (w * n)
  | 0, _, _ => by show 0 < 2 ^ (w * 0); exact Nat.two_pow_pos _
  | n + 1, f, hf => by
    have ih := vsD_lt w n (fun i => f (i + 1)) (fun i => hf _)
    have h0 := hf 0
    show f 0 + 2 ^ w * vsD (2 ^ w) (fun i => f (i + 1)) n < 2 ^ (w * (n + 1))
    rw [Nat.mul_add, Nat.mul_one, Nat.add_comm (w * n), Nat.pow_add]
    have : 2 ^ w * (vsD (2 ^ w) (fun i => f (i + 1)) n + 1) ≤ 2 ^ w * 2 ^ (w * n) := Nat.mul_le_mul_left _ ih
    rw [Nat.mul_add] at this
    omega
/-! ===== how many bits are set: Long.bitCount is right ===== -/
def btN (u i : Nat) : Nat := u / 2 ^ i % 2
theorem btN_vs : ∀ (n u : Nat), u < 2 ^ n → vsD 2 (btN u) n = u
  | 0, u, h => by
    have : u = 0 := by simpa using h
    subst this; rfl
  | n + 1, u, h => by
    have ih := btN_vs n (u / 2) (by rw [Nat.pow_succ] at h; omega)
    have e : vsD 2 (btN u) (n + 1) = btN u 0 + 2 * vsD 2 (fun i => btN u (i + 1)) n := rfl
    have e2 : (fun i => btN u (i + 1)) = btN (u / 2) := by
      funext i
      unfold btN
      rw [Nat.pow_succ, Nat.mul_comm, ← Nat.div_div_eq_div_mul]
    rw [e, e2, ih]
    unfold btN
    rw [Nat.pow_zero, Nat.div_one]
    omega
def smB (f : Nat → Nat) : Nat → Nat
  | 0 => 0
  | n + 1 => smB f n + f n
theorem p4 {a b : Nat} (ha : a < 4) : (a + 4 * b) &&& 3 = a := by
  rw [show (3 : Nat) = 2 ^ 2 - 1 from rfl, Nat.and_two_pow_sub_one_eq_mod]; omega
theorem p2 {a b : Nat} (ha : a < 2) : (a + 2 * b) &&& 1 = a := by
  rw [show (1 : Nat) = 2 ^ 1 - 1 from rfl, Nat.and_two_pow_sub_one_eq_mod]; omega
theorem p16 {a b : Nat} (ha : a < 16) : (a + 16 * b) &&& 15 = a := by
  rw [show (15 : Nat) = 2 ^ 4 - 1 from rfl, Nat.and_two_pow_sub_one_eq_mod]; omega
theorem bc_1 (β : Nat → Nat) (hβ : ∀ i, β i < 2) (h64 : ∀ i, 64 ≤ i → β i = 0) : vsD 2 β 64 - (vsD 2 β 64 / 2 &&& 6148914691236517205) = vsD 4 (fun i => β (2 * i) + β (2 * i + 1)) 32 ∧ vsD 2 β 64 / 2 &&& 6148914691236517205 ≤ vsD 2 β 64 := by
  have e1 : vsD 2 β 64 = vsD 4 (fun i => β (2 * i) + 2 * β (2 * i + 1)) 32 := vsD_pair 2 32 β
  have e2 : vsD 2 β 64 / 2 = vsD 4 (fun i => β (2 * i + 1) + 2 * β (2 * i + 1 + 1)) 32 := by
    rw [vsD_div 64 β (hβ 0) (h64 64 (by omega))]; exact vsD_pair 2 32 (fun i => β (i + 1))
  have e3 : (6148914691236517205 : Nat) = vsD 4 (fun _ => 1) 32 := by decide
  have e4 : vsD 2 β 64 / 2 &&& 6148914691236517205 = vsD 4 (fun i => β (2 * i + 1)) 32 := by
    rw [e2, e3, vsD_and 2 32 _ _ (fun i => by have := hβ (2 * i + 1); have := hβ (2 * i + 1 + 1); omega) (fun _ => by decide)]
    exact vsD_congr (fun i _ => p2 (hβ _))
  have e5 := vsD_add 4 32 (fun i => β (2 * i) + β (2 * i + 1)) (fun i => β (2 * i + 1))
  have e6 : vsD 4 (fun i => β (2 * i) + β (2 * i + 1) + β (2 * i + 1)) 32 = vsD 2 β 64 := by
    rw [e1]; exact vsD_congr (fun i _ => by omega)
  rw [e4]
  omega
theorem bc_2 (p : Nat → Nat) (hp : ∀ i, p i ≤ 2) (h32 : ∀ i, 32 ≤ i → p i = 0) : (vsD 4 p 32 &&& 3689348814741910323) + (vsD 4 p 32 / 4 &&& 3689348814741910323) = vsD 16 (fun i => p (2 * i) + p (2 * i + 1)) 16 := by
  have e1 : vsD 4 p 32 = vsD 16 (fun i => p (2 * i) + 4 * p (2 * i + 1)) 16 := vsD_pair 4 16 p
  have e2 : vsD 4 p 32 / 4 = vsD 16 (fun i => p (2 * i + 1) + 4 * p (2 * i + 1 + 1)) 16 := by
    rw [vsD_div 32 p (by have := hp 0; omega) (h32 32 (by omega))]; exact vsD_pair 4 16 (fun i => p (i + 1))
  have e3 : (3689348814741910323 : Nat) = vsD 16 (fun _ => 3) 16 := by decide
  rw [e2, e1, e3, vsD_and 4 16 _ _ (fun i => by have := hp (2 * i); have := hp (2 * i + 1); omega) (fun _ => by decide), vsD_and 4 16 _ _ (fun i => by have := hp (2 * i + 1); have := hp (2 * i + 1 + 1); omega) (fun _ => by decide), vsD_add]
  exact vsD_congr (fun i _ => by rw [p4 (by have := hp (2 * i); omega), p4 (by have := hp (2 * i + 1); omega)])
theorem bc_3 (q : Nat → Nat) (hq : ∀ i, q i ≤ 4) (h16 : ∀ i, 16 ≤ i → q i = 0) : ((vsD 16 q 16 + vsD 16 q 16 / 16) &&& 1085102592571150095) = vsD 256 (fun i => q (2 * i) + q (2 * i + 1)) 8 ∧ vsD 16 q 16 + vsD 16 q 16 / 16 < 2 ^ 64 := by
  have e2 : vsD 16 q 16 / 16 = vsD 16 (fun i => q (i + 1)) 16 := vsD_div 16 q (by have := hq 0; omega) (h16 16 (by omega))
  have e4 : vsD 16 q 16 + vsD 16 q 16 / 16 = vsD 256 (fun i => (q (2 * i) + q (2 * i + 1)) + 16 * (q (2 * i + 1) + q (2 * i + 1 + 1))) 8 := by
    rw [e2, vsD_add]; exact vsD_pair 16 8 (fun i => q i + q (i + 1))
  have e3 : (1085102592571150095 : Nat) = vsD 256 (fun _ => 15) 8 := by decide
  have hd : ∀ i, (q (2 * i) + q (2 * i + 1)) + 16 * (q (2 * i + 1) + q (2 * i + 1 + 1)) < 2 ^ 8 := fun i => by
    have := hq (2 * i); have := hq (2 * i + 1); have := hq (2 * i + 1 + 1); omega
  refine ⟨?_, ?_⟩
  · rw [e4, e3, vsD_and 8 8 _ _ hd (fun _ => by decide)]
    exact vsD_congr (fun i _ => p16 (by have := hq (2 * i); have := hq (2 * i + 1); omega))
  · rw [e4]; exact vsD_lt 8 8 _ hd
theorem bc_4 (r : Nat → Nat) (j m : Nat) (hr : ∀ i, r i ≤ m) (hm : 2 * m ≤ 255) (h8 : ∀ i, 8 ≤ i → r i = 0) (hj : j ≤ 8) : vsD 256 r 8 + vsD 256 r 8 / 256 ^ j = vsD 256 (fun i => r i + r (i + j)) 8 := by
  have hd : ∀ j, j ≤ 8 → vsD 256 r 8 / 256 ^ j = vsD 256 (fun i => r (i + j)) 8 := by
    intro j
    induction j with
    | zero => intro _; rw [Nat.pow_zero, Nat.div_one]; rfl
    | succ j ih =>
      intro hj
      rw [Nat.pow_succ, ← Nat.div_div_eq_div_mul, ih (by omega), vsD_div 8 (fun i => r (i + j)) (by have := hr (0 + j); omega) (h8 _ (by omega))]
      exact vsD_congr (fun i _ => by rw [show i + 1 + j = i + (j + 1) by omega])
  rw [hd j hj, vsD_add]
theorem bc_all (β : Nat → Nat) (hβ : ∀ i, β i < 2) (h64 : ∀ i, 64 ≤ i → β i = 0) : ∃ r : Nat → Nat, (∀ i, r i ≤ 8) ∧ (∀ i, 8 ≤ i → r i = 0) ∧ r 0 + r 1 + r 2 + r 3 + r 4 + r 5 + r 6 + r 7 = smB β 64 ∧ ∀ i, r i = (β (8 * i) + β (8 * i + 1) + (β (8 * i + 2) + β (8 * i + 3))) + (β (8 * i + 4) + β (8 * i + 5) + (β (8 * i + 6) + β (8 * i + 7))) := by
  refine ⟨fun i => (β (8 * i) + β (8 * i + 1) + (β (8 * i + 2) + β (8 * i + 3))) + (β (8 * i + 4) + β (8 * i + 5) + (β (8 * i + 6) + β (8 * i + 7))), fun i => ?_, fun i hi => ?_, ?_, fun i => rfl⟩
  · have h0 := hβ (8 * i); have h1 := hβ (8 * i + 1); have h2 := hβ (8 * i + 2); have h3 := hβ (8 * i + 3); have h4 := hβ (8 * i + 4); have h5 := hβ (8 * i + 5); have h6 := hβ (8 * i + 6); have h7 := hβ (8 * i + 7)
    dsimp only
    omega
  · dsimp only
    rw [h64 _ (by omega), h64 _ (by omega), h64 _ (by omega), h64 _ (by omega), h64 _ (by omega), h64 _ (by omega), h64 _ (by omega), h64 _ (by omega)]
  · simp only [smB, Nat.reduceMul, Nat.reduceAdd, Nat.mul_zero, Nat.zero_add]
    omega
/-! a long as a number -/
def uN (x : Int64) : Nat := x.toUInt64.toNat
theorem uN_lt (x : Int64) : uN x < 18446744073709551616 := x.toUInt64.toNat_lt
theorem uN_inj {x y : Int64} (h : uN x = uN y) : x = y := congrArg UInt64.toInt64 (UInt64.toNat_inj.mp h)
theorem uN_add (x y : Int64) : uN (x + y) = (uN x + uN y) % 18446744073709551616 := by
  show (x.toUInt64 + y.toUInt64).toNat = _
  exact UInt64.toNat_add _ _
theorem uN_sub {x y : Int64} (h : uN y ≤ uN x) : uN (x - y) = uN x - uN y := by
  show (x.toUInt64 - y.toUInt64).toNat = _
  exact UInt64.toNat_sub_of_le _ _ (UInt64.le_iff_toNat_le.mpr h)
theorem uN_and (x y : Int64) : uN (x &&& y) = uN x &&& uN y := by
  show (x.toUInt64 &&& y.toUInt64).toNat = _
  exact UInt64.toNat_and _ _
theorem uN_shr (x : Int64) (s : UInt64) : uN (x.toUInt64 >>> s).toInt64 = uN x / 2 ^ (s.toNat % 64) := by
  show (x.toUInt64 >>> s).toNat = _
  rw [UInt64.toNat_shiftRight, Nat.shiftRight_eq_div_pow]
  rfl
theorem uN_sk (x : Int64) {k : Nat} (hk : k < 64) : uN (x.toUInt64 >>> ((nI k).toInt64.toUInt64 &&& Int64.toUInt64 63)).toInt64 = uN x / 2 ^ k := by
  have h : ((nI k).toInt64.toUInt64 &&& Int64.toUInt64 63).toNat % 64 = k := (show ∀ k, k < 64 → ((nI k).toInt64.toUInt64 &&& Int64.toUInt64 63).toNat % 64 = k by decide +kernel) k hk
  rw [uN_shr, h]
theorem uN_lN {n : Nat} (h : n < 2 ^ 64) : uN (lN n) = n := by
  show n % 2 ^ 64 = n
  exact Nat.mod_eq_of_lt h
theorem lN_uN (x : Int64) : lN (uN x) = x := uN_inj (uN_lN (uN_lt x))
theorem nI_and (a b : Nat) : nI a &&& nI b = nI (a &&& b) := by
  apply Int32.toBitVec_inj.mp
  rw [Int32.toBitVec_and]
  show BitVec.ofNat 32 a &&& BitVec.ofNat 32 b = BitVec.ofNat 32 (a &&& b)
  apply BitVec.eq_of_toNat_eq
  rw [BitVec.toNat_and, BitVec.toNat_ofNat, BitVec.toNat_ofNat, BitVec.toNat_ofNat, Nat.and_mod_two_pow]
theorem bc4_u (j : Nat) (hj : j < 64) (y : Int64) : uN (bc4 j y) = (uN y + uN y / 2 ^ j) % 18446744073709551616 := by
  unfold bc4
  rw [uN_add, uN_sk _ hj]
theorem pcN_eq (x : Int64) : pcN x = smB (btN (uN x)) 64 := by
  have hx := uN_lt x
  have hβ : ∀ i, btN (uN x) i < 2 := fun i => Nat.mod_lt _ (by omega)
  have h64 : ∀ i, 64 ≤ i → btN (uN x) i = 0 := fun i hi => by
    have h9 : uN x < 2 ^ i := Nat.lt_of_lt_of_le (show uN x < 2 ^ 64 from hx) (Nat.pow_le_pow_right (by omega) hi)
    unfold btN
    rw [Nat.div_eq_of_lt h9]
  have hu : vsD 2 (btN (uN x)) 64 = uN x := btN_vs 64 (uN x) hx
  obtain ⟨r, hr, hr8, hrs, hrd⟩ := bc_all (btN (uN x)) hβ h64
  generalize hbe : btN (uN x) = β at *
  obtain ⟨a1, a2⟩ := bc_1 β hβ h64
  have u1 : uN (bc1 x) = vsD 4 (fun i => β (2 * i) + β (2 * i + 1)) 32 := by
    unfold bc1
    have e : uN ((x.toUInt64 >>> ((nI 1).toInt64.toUInt64 &&& Int64.toUInt64 63)).toInt64 &&& 6148914691236517205) = vsD 2 β 64 / 2 &&& 6148914691236517205 := by
      rw [uN_and, uN_sk x (by omega), hu]; rfl
    rw [uN_sub (by rw [e, ← hu]; exact a2), e, ← hu, a1]
  have hp : ∀ i, β (2 * i) + β (2 * i + 1) ≤ 2 := fun i => by have := hβ (2 * i); have := hβ (2 * i + 1); omega
  have b1 := bc_2 (fun i => β (2 * i) + β (2 * i + 1)) hp (fun i hi => by rw [h64 _ (by omega), h64 _ (by omega)])
  have u2 : uN (bc2 (bc1 x)) = vsD 16 (fun i => β (2 * (2 * i)) + β (2 * (2 * i) + 1) + (β (2 * (2 * i + 1)) + β (2 * (2 * i + 1) + 1))) 16 := by
    unfold bc2
    rw [uN_add, uN_and, uN_and, uN_sk _ (by omega), u1]
    rw [show uN (3689348814741910323 : Int64) = 3689348814741910323 from rfl, show (2 : Nat) ^ 2 = 4 from rfl, b1]
    exact Nat.mod_eq_of_lt (vsD_lt 4 16 _ (fun i => by have := hp (2 * i); have := hp (2 * i + 1); omega))
  have hq : ∀ i, β (2 * (2 * i)) + β (2 * (2 * i) + 1) + (β (2 * (2 * i + 1)) + β (2 * (2 * i + 1) + 1)) ≤ 4 := fun i => by have := hp (2 * i); have := hp (2 * i + 1); omega
  obtain ⟨c1, c2⟩ := bc_3 (fun i => β (2 * (2 * i)) + β (2 * (2 * i) + 1) + (β (2 * (2 * i + 1)) + β (2 * (2 * i + 1) + 1))) hq (fun i hi => by rw [h64 _ (by omega), h64 _ (by omega), h64 _ (by omega), h64 _ (by omega)])
  have u3 : uN (bc3 (bc2 (bc1 x))) = vsD 256 r 8 := by
    unfold bc3
    rw [uN_and, uN_add, uN_sk _ (by omega), u2]
    rw [show uN (1085102592571150095 : Int64) = 1085102592571150095 from rfl, show (2 : Nat) ^ 4 = 16 from rfl, Nat.mod_eq_of_lt c2, c1]
    exact vsD_congr (fun i _ => by
      rw [hrd i]
      rw [show 2 * (2 * (2 * i)) = 8 * i by omega, show 2 * (2 * (2 * i) + 1) = 8 * i + 2 by omega, show 2 * (2 * (2 * i + 1)) = 8 * i + 4 by omega, show 2 * (2 * (2 * i + 1) + 1) = 8 * i + 6 by omega])
  have lt8 : ∀ f : Nat → Nat, (∀ i, f i < 256) → vsD 256 f 8 < 18446744073709551616 := fun f hf => vsD_lt 8 8 f hf
  have u4 : uN (bc4 8 (bc3 (bc2 (bc1 x)))) = vsD 256 (fun i => r i + r (i + 1)) 8 := by
    rw [bc4_u 8 (by omega), u3, show (2 : Nat) ^ 8 = 256 ^ 1 from rfl, bc_4 r 1 8 hr (by omega) hr8 (by omega)]
    exact Nat.mod_eq_of_lt (lt8 _ (fun i => by have := hr i; have := hr (i + 1); omega))
  have u5 : uN (bc4 16 (bc4 8 (bc3 (bc2 (bc1 x))))) = vsD 256 (fun i => (r i + r (i + 1)) + (r (i + 2) + r (i + 2 + 1))) 8 := by
    rw [bc4_u 16 (by omega), u4, show (2 : Nat) ^ 16 = 256 ^ 2 from rfl, bc_4 (fun i => r i + r (i + 1)) 2 16 (fun i => by have := hr i; have := hr (i + 1); omega) (by omega) (fun i hi => by rw [hr8 _ hi, hr8 _ (by omega)]) (by omega)]
    exact Nat.mod_eq_of_lt (lt8 _ (fun i => by have := hr i; have := hr (i + 1); have := hr (i + 2); have := hr (i + 2 + 1); omega))
  have u6 : uN (bc4 32 (bc4 16 (bc4 8 (bc3 (bc2 (bc1 x)))))) = vsD 256 (fun i => ((r i + r (i + 1)) + (r (i + 2) + r (i + 2 + 1))) + ((r (i + 4) + r (i + 4 + 1)) + (r (i + 4 + 2) + r (i + 4 + 2 + 1)))) 8 := by
    rw [bc4_u 32 (by omega), u5, show (2 : Nat) ^ 32 = 256 ^ 4 from rfl, bc_4 (fun i => (r i + r (i + 1)) + (r (i + 2) + r (i + 2 + 1))) 4 32 (fun i => by have := hr i; have := hr (i + 1); have := hr (i + 2); have := hr (i + 2 + 1); omega) (by omega) (fun i hi => by rw [hr8 _ hi, hr8 _ (by omega), hr8 _ (by omega), hr8 _ (by omega)]) (by omega)]
    exact Nat.mod_eq_of_lt (lt8 _ (fun i => by have := hr i; have := hr (i + 1); have := hr (i + 2); have := hr (i + 2 + 1); have := hr (i + 4); have := hr (i + 4 + 1); have := hr (i + 4 + 2); have := hr (i + 4 + 2 + 1); omega))
  have hb : bcI x = nI (smB β 64) := by
    unfold bcI
    generalize bc4 32 (bc4 16 (bc4 8 (bc3 (bc2 (bc1 x))))) = z at u6
    rw [← lN_uN z, u6]
    rw [lN_i, nI_and]
    have h0 := hr 0; have h1 := hr 1; have h2 := hr 2; have h3 := hr 3; have h4 := hr 4; have h5 := hr 5; have h6 := hr 6; have h7 := hr 7
    have key : ∀ f : Nat → Nat, f 0 = smB β 64 → vsD 256 f 8 &&& 127 = smB β 64 := fun f hf => by
      have e8 : vsD 256 f 8 = f 0 + 256 * vsD 256 (fun i => f (i + 1)) 7 := rfl
      rw [e8, hf, show (127 : Nat) = 2 ^ 7 - 1 from rfl, Nat.and_two_pow_sub_one_eq_mod]
      omega
    rw [key _ (by simp only [Nat.zero_add, Nat.reduceAdd]; omega)]
  have hs : smB β 64 ≤ 64 := by
    have h0 := hr 0; have h1 := hr 1; have h2 := hr 2; have h3 := hr 3; have h4 := hr 4; have h5 := hr 5; have h6 := hr 6; have h7 := hr 7
    omega
  unfold pcN
  rw [hb, nI_clamp (by omega)]
