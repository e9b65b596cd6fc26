/-! ===== one row of nodes for each part ===== -/
def alB (p : Nat → Bool) : Nat → Bool
  | 0 => true
  | n + 1 => alB p n && p n
def exB9 (p : Nat → Bool) : Nat → Bool
  | 0 => false
  | n + 1 => exB9 p n || p n
theorem alB_iff (p : Nat → Bool) : ∀ n, alB p n = true ↔ ∀ i, i < n → p i = true
  | 0 => ⟨fun _ i h => by omega, fun _ => rfl⟩
  | n + 1 => by
    show (alB p n && p n) = true ↔ _
    rw [Bool.and_eq_true, alB_iff p n]
    constructor
    · rintro ⟨h1, h2⟩ i hi
      by_cases q : i = n
      · subst q; exact h2
      · exact h1 i (by omega)
    · intro h
      exact ⟨fun i hi => h i (by omega), h n (by omega)⟩
theorem exB9_iff (p : Nat → Bool) : ∀ n, exB9 p n = true ↔ ∃ i, i < n ∧ p i = true
  | 0 => ⟨fun h => (by cases h), fun ⟨i, h, _⟩ => by omega⟩
  | n + 1 => by
    show (exB9 p n || p n) = true ↔ _
    rw [Bool.or_eq_true, exB9_iff p n]
    constructor
    · rintro (⟨i, h1, h2⟩ | h2)
      · exact ⟨i, by omega, h2⟩
      · exact ⟨n, by omega, h2⟩
    · rintro ⟨i, h1, h2⟩
      by_cases q : i = n
      · subst q; exact Or.inr h2
      · exact Or.inl ⟨i, by omega, h2⟩
def fn5 (a b c d e : Nat) : Nat → Nat
  | 0 => a
  | 1 => b
  | 2 => c
  | 3 => d
  | _ => e
/-- a row of nodes that stands for its part -/
def cnB (sh k : Nat) (c : Nat → Nat) : Bool :=
  match sh with
  | 2 => (Nat.blt 2 (plN sh k) || Nat.blt (c 0) (c 1)) && alB (fun i => Nat.blt i 2 || Nat.blt (c (i - 1)) (c i)) (plN sh k)
  | 1 => Nat.blt (c 0) (c (plN sh k - 1))
  | _ => alB (fun i => !Nat.blt (c i) (c 0)) (plN sh k) && Nat.blt (c 1) (c (plN sh k - 1))
def ljB (pl : Nat) (p : Nat → Nat) : Bool := alB (fun i => alB (fun j => !Nat.beq (p j) (p i)) i) pl
/-- lines go to lines -/
def au1 (sh k : Nat) (p : Nat → Nat) : Bool := ljB (plN sh k) p && alB (fun t => exB9 (fun s => (Nat.beq (p (lsN sh t)) (lsN sh s) && Nat.beq (p (leN sh k t)) (leN sh k s)) || (Nat.beq (p (lsN sh t)) (leN sh k s) && Nat.beq (p (leN sh k t)) (lsN sh s))) k) k
def au2 (sh k : Nat) (p : Nat → Nat) : Bool := alB (fun s => exB9 (fun t => (Nat.beq (p (lsN sh t)) (lsN sh s) && Nat.beq (p (leN sh k t)) (leN sh k s)) || (Nat.beq (p (lsN sh t)) (leN sh k s) && Nat.beq (p (leN sh k t)) (lsN sh s))) k) k
def bnd (pl i : Nat) : Nat := if i < pl then pl else 1
def al5 (pl : Nat) (q : (Nat → Nat) → Bool) : Bool := alB (fun a => alB (fun b => alB (fun c => alB (fun d => alB (fun e => q (fn5 a b c d e)) (bnd pl 4)) (bnd pl 3)) (bnd pl 2)) (bnd pl 1)) (bnd pl 0)
def ex5 (pl : Nat) (q : (Nat → Nat) → Bool) : Bool := exB9 (fun a => exB9 (fun b => exB9 (fun c => exB9 (fun d => exB9 (fun e => q (fn5 a b c d e)) (bnd pl 4)) (bnd pl 3)) (bnd pl 2)) (bnd pl 1)) (bnd pl 0)
theorem al5_use {pl : Nat} {q : (Nat → Nat) → Bool} (h : al5 pl q = true) (hpl : pl ≤ 5) (p : Nat → Nat) (hp : ∀ i, i < pl → p i < pl) : ∃ p' : Nat → Nat, q p' = true ∧ ∀ i, i < pl → p' i = p i := by
  have hb : ∀ i, (if i < pl then p i else 0) < bnd pl i := fun i => by
    unfold bnd
    by_cases z : i < pl
    · rw [if_pos z, if_pos z]; exact hp i z
    · rw [if_neg z, if_neg z]; omega
  unfold al5 at h
  have h1 := (alB_iff _ _).mp ((alB_iff _ _).mp ((alB_iff _ _).mp ((alB_iff _ _).mp ((alB_iff _ _).mp h _ (hb 0)) _ (hb 1)) _ (hb 2)) _ (hb 3)) _ (hb 4)
  refine ⟨_, h1, fun i hi => ?_⟩
  have hi5 : i = 0 ∨ i = 1 ∨ i = 2 ∨ i = 3 ∨ i = 4 := by omega
  rcases hi5 with z | z | z | z | z <;> subst z <;> exact if_pos hi
theorem ex5_use {pl : Nat} {q : (Nat → Nat) → Bool} (h : ex5 pl q = true) (hpl : pl ≤ 5) : ∃ p : Nat → Nat, q p = true ∧ ∀ i, i < pl → p i < pl := by
  unfold ex5 at h
  obtain ⟨a, ha, h⟩ := (exB9_iff _ _).mp h
  obtain ⟨b, hb, h⟩ := (exB9_iff _ _).mp h
  obtain ⟨c, hc, h⟩ := (exB9_iff _ _).mp h
  obtain ⟨d, hd, h⟩ := (exB9_iff _ _).mp h
  obtain ⟨e, he, h⟩ := (exB9_iff _ _).mp h
  refine ⟨_, h, fun i hi => ?_⟩
  have hi5 : i = 0 ∨ i = 1 ∨ i = 2 ∨ i = 3 ∨ i = 4 := by omega
  unfold bnd at ha hb hc hd he
  rcases hi5 with z | z | z | z | z <;> subst z
  · rw [if_pos hi] at ha; exact ha
  · rw [if_pos hi] at hb; exact hb
  · rw [if_pos hi] at hc; exact hc
  · rw [if_pos hi] at hd; exact hd
  · rw [if_pos hi] at he; exact he
/-- two rows that stand for parts and tell one part are one -/
def chU (sh k : Nat) : Bool := al5 (plN sh k) (fun p => !au1 sh k p || al5 (plN sh k) (fun r => !(ljB (plN sh k) r && (cnB sh k r && cnB sh k (fun i => r (p i)))) || alB (fun i => Nat.beq (p i) i) (plN sh k)))
/-- each row tells a part for which some row stands -/
def chE (sh k : Nat) : Bool := al5 (plN sh k) (fun r => !ljB (plN sh k) r || ex5 (plN sh k) (fun p => au1 sh k p && (au2 sh k p && cnB sh k (fun i => r (p i)))))
theorem chU_0_3 : chU 0 3 = true := by decide +kernel
theorem chE_0_3 : chE 0 3 = true := by decide +kernel
theorem chU_1_1 : chU 1 1 = true := by decide +kernel
theorem chE_1_1 : chE 1 1 = true := by decide +kernel
theorem chU_1_2 : chU 1 2 = true := by decide +kernel
theorem chE_1_2 : chE 1 2 = true := by decide +kernel
theorem chU_1_3 : chU 1 3 = true := by decide +kernel
theorem chE_1_3 : chE 1 3 = true := by decide +kernel
theorem chU_1_4 : chU 1 4 = true := by decide +kernel
theorem chE_1_4 : chE 1 4 = true := by decide +kernel
theorem chU_2_1 : chU 2 1 = true := by decide +kernel
theorem chE_2_1 : chE 2 1 = true := by decide +kernel
theorem chU_2_2 : chU 2 2 = true := by decide +kernel
theorem chE_2_2 : chE 2 2 = true := by decide +kernel
theorem chU_2_3 : chU 2 3 = true := by decide +kernel
theorem chE_2_3 : chE 2 3 = true := by decide +kernel
theorem chU_2_4 : chU 2 4 = true := by decide +kernel
theorem chE_2_4 : chE 2 4 = true := by decide +kernel
theorem chU_3_3 : chU 3 3 = true := by decide +kernel
theorem chE_3_3 : chE 3 3 = true := by decide +kernel
theorem chU_3_4 : chU 3 4 = true := by decide +kernel
theorem chE_3_4 : chE 3 4 = true := by decide +kernel
theorem chU_3_5 : chU 3 5 = true := by decide +kernel
theorem chE_3_5 : chE 3 5 = true := by decide +kernel
def shB (sh k : Nat) : Bool := (Nat.beq sh 0 && Nat.beq k 3) || ((Nat.beq sh 1 && (Nat.ble 1 k && Nat.ble k 4)) || ((Nat.beq sh 2 && (Nat.ble 1 k && Nat.ble k 4)) || (Nat.beq sh 3 && (Nat.ble 3 k && Nat.ble k 5))))
theorem shB_of {sh k : Nat} (hS : shOk sh k) : shB sh k = true := by
  rcases hS with ⟨h1, h2⟩ | ⟨h1, h2, h3⟩ | ⟨h1, h2, h3⟩ | ⟨h1, h2, h3⟩ <;> subst h1
  · subst h2; rfl
  · have : k = 1 ∨ k = 2 ∨ k = 3 ∨ k = 4 := by omega
    rcases this with z | z | z | z <;> subst z <;> rfl
  · have : k = 1 ∨ k = 2 ∨ k = 3 ∨ k = 4 := by omega
    rcases this with z | z | z | z <;> subst z <;> rfl
  · have : k = 3 ∨ k = 4 ∨ k = 5 := by omega
    rcases this with z | z | z <;> subst z <;> rfl
theorem sh_all {p : Nat → Nat → Bool} (h : alB (fun sh => alB (fun k => !shB sh k || p sh k) 6) 4 = true) {sh k : Nat} (hS : shOk sh k) : p sh k = true := by
  obtain ⟨b1, b2, b3, -⟩ := shOk_b hS
  have := (alB_iff _ _).mp ((alB_iff _ _).mp h sh (by omega)) k (by omega)
  rw [shB_of hS] at this
  exact this
theorem and9 {a b : Bool} : (a && b) = true ↔ a = true ∧ b = true := Bool.and_eq_true_iff
theorem beq9 {a b : Nat} : Nat.beq a b = true ↔ a = b := ⟨Nat.eq_of_beq_eq_true, fun h => by rw [h, Nat.beq_refl]⟩
