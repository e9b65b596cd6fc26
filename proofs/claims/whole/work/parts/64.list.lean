theorem ct_perm {f g : Nat → Int64} {c : Nat} (h : ∀ x, ctN f x c = ctN g x c) : ((List.range c).map f).Perm ((List.range c).map g) :=
  List.perm_iff_count.mpr (fun x => by rw [ctN_count, ctN_count]; exact h x)
theorem srt_list {K : Int64 → Nat} {f : Nat → Int64} {c : Nat} (h : ∀ i j, i ≤ j → j < c → K (f i) ≤ K (f j)) : ((List.range c).map f).Pairwise (fun a b => K a ≤ K b) := by
  rw [List.pairwise_map]
  have : (List.range c).Pairwise (· < ·) := List.pairwise_lt_range
  refine List.Pairwise.imp_of_mem (fun {a b} ha hb hab => ?_) this
  exact h a b (by omega) (List.mem_range.mp hb)
theorem list_rg {f : Nat → Int64} {l : List Int64} (h : ∀ j, j < l.length → f j = l.getD j 0) : (List.range l.length).map f = l := by
  apply List.ext_getElem?
  intro i
  rw [List.getElem?_map]
  by_cases e : i < l.length
  · rw [List.getElem?_range e, Option.map_some, h i e, List.getElem?_eq_getElem e, List.getD_eq_getElem?_getD, List.getElem?_eq_getElem e]
    rfl
  · rw [List.getElem?_eq_none (by simp; omega), List.getElem?_eq_none (by omega)]
    rfl
