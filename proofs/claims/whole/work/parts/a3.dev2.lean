/-! ===== develop: both rows hold the same parts ===== -/
theorem dvP_agree {n sh k : Nat} {bN : Nat → Nat} {ps ps' : Nat → Int64} {b : Nat} (h : ∀ j, j < b * n → ps j = ps' j) : ∀ s j, j < b * n + s → dvP n sh k bN ps b s j = dvP n sh k bN ps' b s j := by
  intro s
  induction s with
  | zero => exact fun j hj => h j (by omega)
  | succ s ih =>
    intro j hj
    show vp_updL (dvP n sh k bN ps b s) (b * n + s) (spN n sh k bN b s) j = vp_updL (dvP n sh k bN ps' b s) (b * n + s) (spN n sh k bN b s) j
    unfold vp_updL
    by_cases q : j = b * n + s
    · rw [if_pos q, if_pos q]
    · rw [if_neg q, if_neg q]
      exact ih j (by omega)
theorem dvPs_agree {n sh k : Nat} {bN : Nat → Nat} {ps ps' : Nat → Int64} : ∀ b j, j < b * n → dvPs n sh k bN ps b j = dvPs n sh k bN ps' b j := by
  intro b
  induction b with
  | zero => intro j hj; rw [Nat.zero_mul] at hj; omega
  | succ b ih =>
    intro j hj
    rw [Nat.succ_mul] at hj
    exact dvP_agree ih n j hj
/-- the lines that are left hang on the parts below the count alone -/
theorem lfN_agree {ps ps' : Nat → Int64} {g : Int64} : ∀ m, (∀ j, j < m → ps j = ps' j) → lfN ps g m = lfN ps' g m := by
  intro m
  induction m with
  | zero => exact fun _ => rfl
  | succ m ih =>
    intro h
    show lfN ps g m &&& (ps m ^^^ (-1)) = lfN ps' g m &&& (ps' m ^^^ (-1))
    rw [ih (fun j hj => h j (by omega)), h m (by omega)]
