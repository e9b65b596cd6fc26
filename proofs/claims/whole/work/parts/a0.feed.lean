/-! ===== both sides feed the same bytes ===== -/
theorem b255 : ∀ i, i < 32 → (255#32).getLsbD i = decide (i < 8) := by decide +kernel
theorem and255 (x : Int32) : x.toInt8.toInt32 &&& 255 = x &&& 255 := by
  apply Int32.toBitVec_inj.mp
  rw [Int32.toBitVec_and, Int32.toBitVec_and]
  apply BitVec.eq_of_getLsbD_eq
  intro i hi
  rw [BitVec.getLsbD_and, BitVec.getLsbD_and, show (Int32.toBitVec 255) = 255#32 from rfl, b255 i hi]
  by_cases h : i < 8
  · rw [decide_eq_true h, Bool.and_true, Bool.and_true]
    rw [Int8.toBitVec_toInt32, Int32.toBitVec_toInt8]
    rw [BitVec.getLsbD_signExtend]
    simp [hi, h, BitVec.getElem_signExtend]
  · rw [decide_eq_false h, Bool.and_false, Bool.and_false]
theorem shr255 (x : Int32) : ∀ s, s ≤ 24 → (x >>> (nI s &&& 31)) &&& 255 = ((x.toUInt32 >>> ((nI s).toUInt32 &&& Int32.toUInt32 31)).toInt32) &&& 255 := by
  intro s hs
  have e1 : nI s &&& 31 = nI s := (show ∀ s, s ≤ 24 → nI s &&& 31 = nI s by decide +kernel) s hs
  have e2 : (nI s).toUInt32 &&& Int32.toUInt32 31 = UInt32.ofNat s := (show ∀ s, s ≤ 24 → (nI s).toUInt32 &&& Int32.toUInt32 31 = UInt32.ofNat s by decide +kernel) s hs
  rw [e1, e2]
  apply Int32.toBitVec_inj.mp
  rw [Int32.toBitVec_and, Int32.toBitVec_and]
  apply BitVec.eq_of_getLsbD_eq
  intro i hi
  rw [BitVec.getLsbD_and, BitVec.getLsbD_and, show (Int32.toBitVec 255) = 255#32 from rfl, b255 i hi]
  by_cases h : i < 8
  · rw [decide_eq_true h, Bool.and_true, Bool.and_true]
    rw [Int32.toBitVec_shiftRight]
    have e3 : ((nI s).toBitVec.smod 32).toNat = s := (show ∀ s, s ≤ 24 → ((nI s).toBitVec.smod 32).toNat = s by decide +kernel) s hs
    have e4 : (x.toUInt32 >>> UInt32.ofNat s).toInt32.toBitVec = x.toBitVec >>> s := by
      have e5 : (UInt32.ofNat s).toBitVec % 32 = BitVec.ofNat 32 s := (show ∀ s, s ≤ 24 → (UInt32.ofNat s).toBitVec % 32 = BitVec.ofNat 32 s by decide +kernel) s hs
      show x.toBitVec >>> ((UInt32.ofNat s).toBitVec % 32) = _
      rw [e5]
      show x.toBitVec >>> (BitVec.ofNat 32 s).toNat = _
      rw [show (BitVec.ofNat 32 s).toNat = s from (by rw [BitVec.toNat_ofNat]; omega)]
    rw [e4, BitVec.getLsbD_ushiftRight]
    show (x.toBitVec.sshiftRight ((nI s).toBitVec.smod 32).toNat).getLsbD i = _
    rw [e3, BitVec.getLsbD_sshiftRight]
    have h1 : s + i < 32 := by omega
    have h2 : ¬ 32 ≤ i := by omega
    simp [h1, h2]
  · rw [decide_eq_false h, Bool.and_false, Bool.and_false]
theorem byI_eq (x s : Int32) : byI x s = ((x.toUInt32 >>> (s.toUInt32 &&& Int32.toUInt32 31)).toInt32.toInt8.toInt32).toInt8.toInt32 := rfl
theorem feed_byte (x : Int32) (s : Nat) (hs : s ≤ 24) : mfB x s = byI x (nI s) &&& 255 := by
  rw [byI_eq, and255, and255]
  show (x >>> (nI s &&& 31)) &&& 255 = _
  exact shr255 x s hs
/-- the reference's tape holds the class's bytes, as numbers from 0 to 255 -/
def tpR (F b : Nat → Int32) : Prop := ∀ j, F j = b j &&& 255
theorem tpR_upd {F b : Nat → Int32} {t s : Nat} {x : Int32} (hs : s ≤ 24) (h : tpR F b) : tpR (upd F t (mfB x s)) (upd b t (byI x (nI s))) := fun j => by
  unfold upd
  by_cases q : j = t
  · rw [if_pos q, if_pos q]; exact feed_byte x s hs
  · rw [if_neg q, if_neg q]; exact h j
theorem feed_eq {F b : Nat → Int32} {t : Nat} {x1 x2 x3 x4 x5 : Int32} (h : tpR F b) : tpR (mfd F t x1 x2 x3 x4 x5 20) (fdN b t x1 x2 x3 x4 x5) := by
  have four : ∀ {F b : Nat → Int32} (t : Nat) (x : Int32), tpR F b → tpR (upd (upd (upd (upd F t (mfB x 24)) (t + 1) (mfB x 16)) (t + 2) (mfB x 8)) (t + 3) (mfB x 0)) (tpN b t x) := fun t x h => tpR_upd (by omega) (tpR_upd (by omega) (tpR_upd (by omega) (tpR_upd (by omega) h)))
  exact four (t + 16) x5 (four (t + 12) x4 (four (t + 8) x3 (four (t + 4) x2 (four t x1 h))))
