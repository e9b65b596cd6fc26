def updN (cN : Nat → Nat) (i v : Nat) : Nat → Nat := fun j => if j = i then v else cN j
theorem updN_nI (cN : Nat → Nat) (i v : Nat) : upd (fun j => nI (cN j)) i (nI v) = fun j => nI (updN cN i v j) := by
  funext j
  unfold upd updN
  split <;> rfl
/-- a node may stand at a place -/
def msP (sh k pl : Nat) (cN : Nat → Nat) (v dp : Nat) : Prop := (∀ i, i < dp → ¬ cN i = v) ∧ (dp = 0 ∨ (sh = 1 ∧ (dp + 1 = pl → cN 0 < v)) ∨ (sh = 2 ∧ ((dp = 1 ∧ (1 < k ∨ cN 0 < v)) ∨ (dp ≠ 1 ∧ cN (dp - 1) < v))) ∨ (sh ≠ 1 ∧ sh ≠ 2 ∧ cN 0 < v ∧ (dp + 1 = pl → cN 1 < v)))
def msN (sh k pl : Nat) (cN : Nat → Nat) (v dp : Nat) : Bool := decide ((∀ i, i < dp → ¬ cN i = v) ∧ (dp = 0 ∨ (sh = 1 ∧ (dp + 1 = pl → cN 0 < v)) ∨ (sh = 2 ∧ ((dp = 1 ∧ (1 < k ∨ cN 0 < v)) ∨ (dp ≠ 1 ∧ cN (dp - 1) < v))) ∨ (sh ≠ 1 ∧ sh ≠ 2 ∧ cN 0 < v ∧ (dp + 1 = pl → cN 1 < v))))
theorem msN_t {sh k pl v dp : Nat} {cN : Nat → Nat} (h : msP sh k pl cN v dp) : nB (msN sh k pl cN v dp) = 1 := by
  rw [show msN sh k pl cN v dp = true from decide_eq_true h]; rfl
theorem msN_f {sh k pl v dp : Nat} {cN : Nat → Nat} (h : ¬ msP sh k pl cN v dp) : nB (msN sh k pl cN v dp) = 0 := by
  rw [show msN sh k pl cN v dp = false from decide_eq_false h]; rfl
set_option maxRecDepth 100000 in
theorem c_mayStand (adK : Nat → Nat) (d : Nat) (c R : Nat) (f : Nat → Int64) (stt : Nat → Int32) (fd : Int64) (n sh k : Nat) (g : Int64) (pl : Nat) (cN : Nat → Nat) (v dp : Nat) (hsh : sh ≤ 3) (hk : k ≤ 5) (hpl : pl ≤ 5) (hcN : ∀ j, cN j ≤ 10) (hv : v ≤ 10) (hdp : dp < 5) : pnCt mX1_mayStand adK d 0 0 [.ref 0, .int (nI v), .int (nI dp)] (hCat c R f stt fd n sh k g pl (fun j => nI (cN j))) (pnIs (.inl (some (.int (nB (msN sh k pl cN v dp))))) (hCat c R f stt fd n sh k g pl (fun j => nI (cN j)))) := by
  refine pnCt_of (by decide) kX1_mayStand (Nat.le_of_ble_eq_true rfl) rfl (hCat_cl _ _ _ _ _ _ _ _ _ _ _) (pnCS_b rfl) ?_
  have h0 := hcN 0
  have h1 := hcN 1
  have h2 := hcN (dp - 1)
  have tail : (∀ i, i < dp → ¬ cN i = v) → pnWP mX1_mayStand adK d (pnIs (.inl (some (.int (nB (msN sh k pl cN v dp))))) (hCat c R f stt fd n sh k g pl (fun j => nI (cN j)))) 0 0 (hCat c R f stt fd n sh k g pl (fun j => nI (cN j))) [some (.ref 0), some (.int (nI v)), some (.int (nI dp))] [] 34 := by
    intro hu
    have hc : sh = 0 ∨ sh = 1 ∨ sh = 2 ∨ sh = 3 := by omega
    rcases hc with hc | hc | hc | hc <;> subst hc
    · refine pn_iload_n (q := 35) dX1_mayStand_34 rfl rfl ?_
      first | refine pn_zne (q := 38) (tgt := 40) dX1_mayStand_35 (by decide) rfl (by omega) (fun hc35 => ?_) (fun hc35 => ?_) | refine pn_if_ne (q := 38) (tgt := 40) dX1_mayStand_35 (by decide) rfl (fun hc35 => ?_) (fun hc35 => ?_)
      · refine pn_iload_n (q := 41) dX1_mayStand_40 rfl rfl ?_
        refine pn_iconst (q := 42) (v := nI 1) dX1_mayStand_41 rfl (by decide) ?_
        first | with_reducible refine pn_iaddN (q := 43) dX1_mayStand_42 rfl ?_ | refine pn_iadd (q := 43) dX1_mayStand_42 rfl ?_
        refine pn_aload_n (q := 44) dX1_mayStand_43 rfl rfl rfl ?_
        refine pn_get (q := 47) fX1_39 dX1_mayStand_44 rfl rfl rfl ?_
        first | refine pn_nne (q := 50) (tgt := 54) dX1_mayStand_47 (by decide) rfl (by omega) (by omega) (fun hc47 => ?_) (fun hc47 => ?_) | refine pn_icmp_ne (q := 50) (tgt := 54) dX1_mayStand_47 (by decide) rfl (fun hc47 => ?_) (fun hc47 => ?_)
        · refine pn_iconst (q := 55) (v := nI 0) dX1_mayStand_54 rfl (by decide) ?_
          refine pn_istore_n (q := 56) dX1_mayStand_55 rfl (by decide) ?_
          refine pn_aload_n (q := 57) dX1_mayStand_56 rfl rfl rfl ?_
          refine pn_get (q := 60) fX1_30 dX1_mayStand_57 rfl rfl rfl ?_
          refine pn_lookup (q := 157) (off := 97) dX1_mayStand_60 (by decide) (by decide) (by decide) ?_
          refine pn_iload_n (q := 158) dX1_mayStand_157 rfl rfl ?_
          refine pn_aload_n (q := 159) dX1_mayStand_158 rfl rfl rfl ?_
          refine pn_get (q := 162) fX1_42 dX1_mayStand_159 rfl rfl rfl ?_
          refine pn_iconst (q := 163) (v := nI 0) dX1_mayStand_162 rfl (by decide) ?_
          refine pn_iald (q := 164) dX1_mayStand_163 rfl rfl rfl (by omega) (by first | decide | omega) ?_
          first | refine pn_nle (q := 167) (tgt := 185) dX1_mayStand_164 (by decide) rfl (by omega) (by omega) (fun hc164 => ?_) (fun hc164 => ?_) | refine pn_icmp_le (q := 167) (tgt := 185) dX1_mayStand_164 (by decide) rfl (fun hc164 => ?_) (fun hc164 => ?_)
          · refine pn_iconst (q := 186) (v := nI 0) dX1_mayStand_185 rfl (by decide) ?_
            refine pn_tret (b := msN 0 k pl cN v dp) _ ?_ dX1_mayStand_186 rfl ?_
            · first | exact (msN_t ⟨hu, by omega⟩).symm | exact (msN_f (fun q => by have := q.2; omega)).symm
            · exact ⟨rfl, rfl⟩
          · refine pn_iload_n (q := 168) dX1_mayStand_167 rfl rfl ?_
            first | refine pn_zeq (q := 171) (tgt := 181) dX1_mayStand_168 (by decide) rfl (by omega) (fun hc168 => ?_) (fun hc168 => ?_) | refine pn_if_eq (q := 171) (tgt := 181) dX1_mayStand_168 (by decide) rfl (fun hc168 => ?_) (fun hc168 => ?_)
            · refine pn_iconst (q := 182) (v := nI 1) dX1_mayStand_181 rfl (by decide) ?_
              refine pn_goto (q := 186) dX1_mayStand_182 (by decide) ?_
              refine pn_tret (b := msN 0 k pl cN v dp) _ ?_ dX1_mayStand_186 rfl ?_
              · first | exact (msN_t ⟨hu, by omega⟩).symm | exact (msN_f (fun q => by have := q.2; omega)).symm
              · exact ⟨rfl, rfl⟩
            · refine pn_iload_n (q := 172) dX1_mayStand_171 rfl rfl ?_
              refine pn_aload_n (q := 173) dX1_mayStand_172 rfl rfl rfl ?_
              refine pn_get (q := 176) fX1_42 dX1_mayStand_173 rfl rfl rfl ?_
              refine pn_iconst (q := 177) (v := nI 1) dX1_mayStand_176 rfl (by decide) ?_
              refine pn_iald (q := 178) dX1_mayStand_177 rfl rfl rfl (by omega) (by first | decide | omega) ?_
              first | refine pn_nle (q := 181) (tgt := 185) dX1_mayStand_178 (by decide) rfl (by omega) (by omega) (fun hc178 => ?_) (fun hc178 => ?_) | refine pn_icmp_le (q := 181) (tgt := 185) dX1_mayStand_178 (by decide) rfl (fun hc178 => ?_) (fun hc178 => ?_)
              · refine pn_iconst (q := 186) (v := nI 0) dX1_mayStand_185 rfl (by decide) ?_
                refine pn_tret (b := msN 0 k pl cN v dp) _ ?_ dX1_mayStand_186 rfl ?_
                · first | exact (msN_t ⟨hu, by omega⟩).symm | exact (msN_f (fun q => by have := q.2; omega)).symm
                · exact ⟨rfl, rfl⟩
              · refine pn_iconst (q := 182) (v := nI 1) dX1_mayStand_181 rfl (by decide) ?_
                refine pn_goto (q := 186) dX1_mayStand_182 (by decide) ?_
                refine pn_tret (b := msN 0 k pl cN v dp) _ ?_ dX1_mayStand_186 rfl ?_
                · first | exact (msN_t ⟨hu, by omega⟩).symm | exact (msN_f (fun q => by have := q.2; omega)).symm
                · exact ⟨rfl, rfl⟩
        · refine pn_iconst (q := 51) (v := nI 1) dX1_mayStand_50 rfl (by decide) ?_
          refine pn_goto (q := 55) dX1_mayStand_51 (by decide) ?_
          refine pn_istore_n (q := 56) dX1_mayStand_55 rfl (by decide) ?_
          refine pn_aload_n (q := 57) dX1_mayStand_56 rfl rfl rfl ?_
          refine pn_get (q := 60) fX1_30 dX1_mayStand_57 rfl rfl rfl ?_
          refine pn_lookup (q := 157) (off := 97) dX1_mayStand_60 (by decide) (by decide) (by decide) ?_
          refine pn_iload_n (q := 158) dX1_mayStand_157 rfl rfl ?_
          refine pn_aload_n (q := 159) dX1_mayStand_158 rfl rfl rfl ?_
          refine pn_get (q := 162) fX1_42 dX1_mayStand_159 rfl rfl rfl ?_
          refine pn_iconst (q := 163) (v := nI 0) dX1_mayStand_162 rfl (by decide) ?_
          refine pn_iald (q := 164) dX1_mayStand_163 rfl rfl rfl (by omega) (by first | decide | omega) ?_
          first | refine pn_nle (q := 167) (tgt := 185) dX1_mayStand_164 (by decide) rfl (by omega) (by omega) (fun hc164 => ?_) (fun hc164 => ?_) | refine pn_icmp_le (q := 167) (tgt := 185) dX1_mayStand_164 (by decide) rfl (fun hc164 => ?_) (fun hc164 => ?_)
          · refine pn_iconst (q := 186) (v := nI 0) dX1_mayStand_185 rfl (by decide) ?_
            refine pn_tret (b := msN 0 k pl cN v dp) _ ?_ dX1_mayStand_186 rfl ?_
            · first | exact (msN_t ⟨hu, by omega⟩).symm | exact (msN_f (fun q => by have := q.2; omega)).symm
            · exact ⟨rfl, rfl⟩
          · refine pn_iload_n (q := 168) dX1_mayStand_167 rfl rfl ?_
            first | refine pn_zeq (q := 171) (tgt := 181) dX1_mayStand_168 (by decide) rfl (by omega) (fun hc168 => ?_) (fun hc168 => ?_) | refine pn_if_eq (q := 171) (tgt := 181) dX1_mayStand_168 (by decide) rfl (fun hc168 => ?_) (fun hc168 => ?_)
            · refine pn_iconst (q := 182) (v := nI 1) dX1_mayStand_181 rfl (by decide) ?_
              refine pn_goto (q := 186) dX1_mayStand_182 (by decide) ?_
              refine pn_tret (b := msN 0 k pl cN v dp) _ ?_ dX1_mayStand_186 rfl ?_
              · first | exact (msN_t ⟨hu, by omega⟩).symm | exact (msN_f (fun q => by have := q.2; omega)).symm
              · exact ⟨rfl, rfl⟩
            · refine pn_iload_n (q := 172) dX1_mayStand_171 rfl rfl ?_
              refine pn_aload_n (q := 173) dX1_mayStand_172 rfl rfl rfl ?_
              refine pn_get (q := 176) fX1_42 dX1_mayStand_173 rfl rfl rfl ?_
              refine pn_iconst (q := 177) (v := nI 1) dX1_mayStand_176 rfl (by decide) ?_
              refine pn_iald (q := 178) dX1_mayStand_177 rfl rfl rfl (by omega) (by first | decide | omega) ?_
              first | refine pn_nle (q := 181) (tgt := 185) dX1_mayStand_178 (by decide) rfl (by omega) (by omega) (fun hc178 => ?_) (fun hc178 => ?_) | refine pn_icmp_le (q := 181) (tgt := 185) dX1_mayStand_178 (by decide) rfl (fun hc178 => ?_) (fun hc178 => ?_)
              · refine pn_iconst (q := 186) (v := nI 0) dX1_mayStand_185 rfl (by decide) ?_
                refine pn_tret (b := msN 0 k pl cN v dp) _ ?_ dX1_mayStand_186 rfl ?_
                · first | exact (msN_t ⟨hu, by omega⟩).symm | exact (msN_f (fun q => by have := q.2; omega)).symm
                · exact ⟨rfl, rfl⟩
              · refine pn_iconst (q := 182) (v := nI 1) dX1_mayStand_181 rfl (by decide) ?_
                refine pn_goto (q := 186) dX1_mayStand_182 (by decide) ?_
                refine pn_tret (b := msN 0 k pl cN v dp) _ ?_ dX1_mayStand_186 rfl ?_
                · first | exact (msN_t ⟨hu, by omega⟩).symm | exact (msN_f (fun q => by have := q.2; omega)).symm
                · exact ⟨rfl, rfl⟩
      · refine pn_iconst (q := 39) (v := nI 1) dX1_mayStand_38 rfl (by decide) ?_
        refine pn_tret (b := msN 0 k pl cN v dp) _ ?_ dX1_mayStand_39 rfl ?_
        · first | exact (msN_t ⟨hu, by omega⟩).symm | exact (msN_f (fun q => by have := q.2; omega)).symm
        · exact ⟨rfl, rfl⟩
    · refine pn_iload_n (q := 35) dX1_mayStand_34 rfl rfl ?_
      first | refine pn_zne (q := 38) (tgt := 40) dX1_mayStand_35 (by decide) rfl (by omega) (fun hc35 => ?_) (fun hc35 => ?_) | refine pn_if_ne (q := 38) (tgt := 40) dX1_mayStand_35 (by decide) rfl (fun hc35 => ?_) (fun hc35 => ?_)
      · refine pn_iload_n (q := 41) dX1_mayStand_40 rfl rfl ?_
        refine pn_iconst (q := 42) (v := nI 1) dX1_mayStand_41 rfl (by decide) ?_
        first | with_reducible refine pn_iaddN (q := 43) dX1_mayStand_42 rfl ?_ | refine pn_iadd (q := 43) dX1_mayStand_42 rfl ?_
        refine pn_aload_n (q := 44) dX1_mayStand_43 rfl rfl rfl ?_
        refine pn_get (q := 47) fX1_39 dX1_mayStand_44 rfl rfl rfl ?_
        first | refine pn_nne (q := 50) (tgt := 54) dX1_mayStand_47 (by decide) rfl (by omega) (by omega) (fun hc47 => ?_) (fun hc47 => ?_) | refine pn_icmp_ne (q := 50) (tgt := 54) dX1_mayStand_47 (by decide) rfl (fun hc47 => ?_) (fun hc47 => ?_)
        · refine pn_iconst (q := 55) (v := nI 0) dX1_mayStand_54 rfl (by decide) ?_
          refine pn_istore_n (q := 56) dX1_mayStand_55 rfl (by decide) ?_
          refine pn_aload_n (q := 57) dX1_mayStand_56 rfl rfl rfl ?_
          refine pn_get (q := 60) fX1_30 dX1_mayStand_57 rfl rfl rfl ?_
          refine pn_lookup (q := 88) (off := 28) dX1_mayStand_60 (by decide) (by decide) (by decide) ?_
          refine pn_iload_n (q := 89) dX1_mayStand_88 rfl rfl ?_
          first | refine pn_zeq (q := 92) (tgt := 102) dX1_mayStand_89 (by decide) rfl (by omega) (fun hc89 => ?_) (fun hc89 => ?_) | refine pn_if_eq (q := 92) (tgt := 102) dX1_mayStand_89 (by decide) rfl (fun hc89 => ?_) (fun hc89 => ?_)
          · refine pn_iconst (q := 103) (v := nI 1) dX1_mayStand_102 rfl (by decide) ?_
            refine pn_goto (q := 107) dX1_mayStand_103 (by decide) ?_
            refine pn_tret (b := msN 1 k pl cN v dp) _ ?_ dX1_mayStand_107 rfl ?_
            · first | exact (msN_t ⟨hu, by omega⟩).symm | exact (msN_f (fun q => by have := q.2; omega)).symm
            · exact ⟨rfl, rfl⟩
          · refine pn_iload_n (q := 93) dX1_mayStand_92 rfl rfl ?_
            refine pn_aload_n (q := 94) dX1_mayStand_93 rfl rfl rfl ?_
            refine pn_get (q := 97) fX1_42 dX1_mayStand_94 rfl rfl rfl ?_
            refine pn_iconst (q := 98) (v := nI 0) dX1_mayStand_97 rfl (by decide) ?_
            refine pn_iald (q := 99) dX1_mayStand_98 rfl rfl rfl (by omega) (by first | decide | omega) ?_
            first | refine pn_nle (q := 102) (tgt := 106) dX1_mayStand_99 (by decide) rfl (by omega) (by omega) (fun hc99 => ?_) (fun hc99 => ?_) | refine pn_icmp_le (q := 102) (tgt := 106) dX1_mayStand_99 (by decide) rfl (fun hc99 => ?_) (fun hc99 => ?_)
            · refine pn_iconst (q := 107) (v := nI 0) dX1_mayStand_106 rfl (by decide) ?_
              refine pn_tret (b := msN 1 k pl cN v dp) _ ?_ dX1_mayStand_107 rfl ?_
              · first | exact (msN_t ⟨hu, by omega⟩).symm | exact (msN_f (fun q => by have := q.2; omega)).symm
              · exact ⟨rfl, rfl⟩
            · refine pn_iconst (q := 103) (v := nI 1) dX1_mayStand_102 rfl (by decide) ?_
              refine pn_goto (q := 107) dX1_mayStand_103 (by decide) ?_
              refine pn_tret (b := msN 1 k pl cN v dp) _ ?_ dX1_mayStand_107 rfl ?_
              · first | exact (msN_t ⟨hu, by omega⟩).symm | exact (msN_f (fun q => by have := q.2; omega)).symm
              · exact ⟨rfl, rfl⟩
        · refine pn_iconst (q := 51) (v := nI 1) dX1_mayStand_50 rfl (by decide) ?_
          refine pn_goto (q := 55) dX1_mayStand_51 (by decide) ?_
          refine pn_istore_n (q := 56) dX1_mayStand_55 rfl (by decide) ?_
          refine pn_aload_n (q := 57) dX1_mayStand_56 rfl rfl rfl ?_
          refine pn_get (q := 60) fX1_30 dX1_mayStand_57 rfl rfl rfl ?_
          refine pn_lookup (q := 88) (off := 28) dX1_mayStand_60 (by decide) (by decide) (by decide) ?_
          refine pn_iload_n (q := 89) dX1_mayStand_88 rfl rfl ?_
          first | refine pn_zeq (q := 92) (tgt := 102) dX1_mayStand_89 (by decide) rfl (by omega) (fun hc89 => ?_) (fun hc89 => ?_) | refine pn_if_eq (q := 92) (tgt := 102) dX1_mayStand_89 (by decide) rfl (fun hc89 => ?_) (fun hc89 => ?_)
          · refine pn_iconst (q := 103) (v := nI 1) dX1_mayStand_102 rfl (by decide) ?_
            refine pn_goto (q := 107) dX1_mayStand_103 (by decide) ?_
            refine pn_tret (b := msN 1 k pl cN v dp) _ ?_ dX1_mayStand_107 rfl ?_
            · first | exact (msN_t ⟨hu, by omega⟩).symm | exact (msN_f (fun q => by have := q.2; omega)).symm
            · exact ⟨rfl, rfl⟩
          · refine pn_iload_n (q := 93) dX1_mayStand_92 rfl rfl ?_
            refine pn_aload_n (q := 94) dX1_mayStand_93 rfl rfl rfl ?_
            refine pn_get (q := 97) fX1_42 dX1_mayStand_94 rfl rfl rfl ?_
            refine pn_iconst (q := 98) (v := nI 0) dX1_mayStand_97 rfl (by decide) ?_
            refine pn_iald (q := 99) dX1_mayStand_98 rfl rfl rfl (by omega) (by first | decide | omega) ?_
            first | refine pn_nle (q := 102) (tgt := 106) dX1_mayStand_99 (by decide) rfl (by omega) (by omega) (fun hc99 => ?_) (fun hc99 => ?_) | refine pn_icmp_le (q := 102) (tgt := 106) dX1_mayStand_99 (by decide) rfl (fun hc99 => ?_) (fun hc99 => ?_)
            · refine pn_iconst (q := 107) (v := nI 0) dX1_mayStand_106 rfl (by decide) ?_
              refine pn_tret (b := msN 1 k pl cN v dp) _ ?_ dX1_mayStand_107 rfl ?_
              · first | exact (msN_t ⟨hu, by omega⟩).symm | exact (msN_f (fun q => by have := q.2; omega)).symm
              · exact ⟨rfl, rfl⟩
            · refine pn_iconst (q := 103) (v := nI 1) dX1_mayStand_102 rfl (by decide) ?_
              refine pn_goto (q := 107) dX1_mayStand_103 (by decide) ?_
              refine pn_tret (b := msN 1 k pl cN v dp) _ ?_ dX1_mayStand_107 rfl ?_
              · first | exact (msN_t ⟨hu, by omega⟩).symm | exact (msN_f (fun q => by have := q.2; omega)).symm
              · exact ⟨rfl, rfl⟩
      · refine pn_iconst (q := 39) (v := nI 1) dX1_mayStand_38 rfl (by decide) ?_
        refine pn_tret (b := msN 1 k pl cN v dp) _ ?_ dX1_mayStand_39 rfl ?_
        · first | exact (msN_t ⟨hu, by omega⟩).symm | exact (msN_f (fun q => by have := q.2; omega)).symm
        · exact ⟨rfl, rfl⟩
    · refine pn_iload_n (q := 35) dX1_mayStand_34 rfl rfl ?_
      first | refine pn_zne (q := 38) (tgt := 40) dX1_mayStand_35 (by decide) rfl (by omega) (fun hc35 => ?_) (fun hc35 => ?_) | refine pn_if_ne (q := 38) (tgt := 40) dX1_mayStand_35 (by decide) rfl (fun hc35 => ?_) (fun hc35 => ?_)
      · refine pn_iload_n (q := 41) dX1_mayStand_40 rfl rfl ?_
        refine pn_iconst (q := 42) (v := nI 1) dX1_mayStand_41 rfl (by decide) ?_
        first | with_reducible refine pn_iaddN (q := 43) dX1_mayStand_42 rfl ?_ | refine pn_iadd (q := 43) dX1_mayStand_42 rfl ?_
        refine pn_aload_n (q := 44) dX1_mayStand_43 rfl rfl rfl ?_
        refine pn_get (q := 47) fX1_39 dX1_mayStand_44 rfl rfl rfl ?_
        first | refine pn_nne (q := 50) (tgt := 54) dX1_mayStand_47 (by decide) rfl (by omega) (by omega) (fun hc47 => ?_) (fun hc47 => ?_) | refine pn_icmp_ne (q := 50) (tgt := 54) dX1_mayStand_47 (by decide) rfl (fun hc47 => ?_) (fun hc47 => ?_)
        · refine pn_iconst (q := 55) (v := nI 0) dX1_mayStand_54 rfl (by decide) ?_
          refine pn_istore_n (q := 56) dX1_mayStand_55 rfl (by decide) ?_
          refine pn_aload_n (q := 57) dX1_mayStand_56 rfl rfl rfl ?_
          refine pn_get (q := 60) fX1_30 dX1_mayStand_57 rfl rfl rfl ?_
          refine pn_lookup (q := 108) (off := 48) dX1_mayStand_60 (by decide) (by decide) (by decide) ?_
          refine pn_iload_n (q := 109) dX1_mayStand_108 rfl rfl ?_
          refine pn_iconst (q := 110) (v := nI 1) dX1_mayStand_109 rfl (by decide) ?_
          first | refine pn_nne (q := 113) (tgt := 139) dX1_mayStand_110 (by decide) rfl (by omega) (by omega) (fun hc110 => ?_) (fun hc110 => ?_) | refine pn_icmp_ne (q := 113) (tgt := 139) dX1_mayStand_110 (by decide) rfl (fun hc110 => ?_) (fun hc110 => ?_)
          · refine pn_iload_n (q := 140) dX1_mayStand_139 rfl rfl ?_
            refine pn_aload_n (q := 141) dX1_mayStand_140 rfl rfl rfl ?_
            refine pn_get (q := 144) fX1_42 dX1_mayStand_141 rfl rfl rfl ?_
            refine pn_iload_n (q := 145) dX1_mayStand_144 rfl rfl ?_
            refine pn_iconst (q := 146) (v := nI 1) dX1_mayStand_145 rfl (by decide) ?_
            first | with_reducible refine pn_isubN (q := 147) dX1_mayStand_146 rfl (by omega) ?_ | refine pn_isub (q := 147) dX1_mayStand_146 rfl ?_
            refine pn_iald (q := 148) dX1_mayStand_147 rfl rfl rfl (by omega) (by first | decide | omega) ?_
            first | refine pn_nle (q := 151) (tgt := 155) dX1_mayStand_148 (by decide) rfl (by omega) (by omega) (fun hc148 => ?_) (fun hc148 => ?_) | refine pn_icmp_le (q := 151) (tgt := 155) dX1_mayStand_148 (by decide) rfl (fun hc148 => ?_) (fun hc148 => ?_)
            · refine pn_iconst (q := 156) (v := nI 0) dX1_mayStand_155 rfl (by decide) ?_
              refine pn_tret (b := msN 2 k pl cN v dp) _ ?_ dX1_mayStand_156 rfl ?_
              · first | exact (msN_t ⟨hu, by omega⟩).symm | exact (msN_f (fun q => by have := q.2; omega)).symm
              · exact ⟨rfl, rfl⟩
            · refine pn_iconst (q := 152) (v := nI 1) dX1_mayStand_151 rfl (by decide) ?_
              refine pn_goto (q := 156) dX1_mayStand_152 (by decide) ?_
              refine pn_tret (b := msN 2 k pl cN v dp) _ ?_ dX1_mayStand_156 rfl ?_
              · first | exact (msN_t ⟨hu, by omega⟩).symm | exact (msN_f (fun q => by have := q.2; omega)).symm
              · exact ⟨rfl, rfl⟩
          · refine pn_aload_n (q := 114) dX1_mayStand_113 rfl rfl rfl ?_
            refine pn_get (q := 117) fX1_33 dX1_mayStand_114 rfl rfl rfl ?_
            refine pn_iconst (q := 118) (v := nI 1) dX1_mayStand_117 rfl (by decide) ?_
            first | refine pn_ngt (q := 121) (tgt := 131) dX1_mayStand_118 (by decide) rfl (by omega) (by omega) (fun hc118 => ?_) (fun hc118 => ?_) | refine pn_icmp_gt (q := 121) (tgt := 131) dX1_mayStand_118 (by decide) rfl (fun hc118 => ?_) (fun hc118 => ?_)
            · refine pn_iconst (q := 132) (v := nI 1) dX1_mayStand_131 rfl (by decide) ?_
              refine pn_goto (q := 156) dX1_mayStand_132 (by decide) ?_
              refine pn_tret (b := msN 2 k pl cN v dp) _ ?_ dX1_mayStand_156 rfl ?_
              · first | exact (msN_t ⟨hu, by omega⟩).symm | exact (msN_f (fun q => by have := q.2; omega)).symm
              · exact ⟨rfl, rfl⟩
            · refine pn_iload_n (q := 122) dX1_mayStand_121 rfl rfl ?_
              refine pn_aload_n (q := 123) dX1_mayStand_122 rfl rfl rfl ?_
              refine pn_get (q := 126) fX1_42 dX1_mayStand_123 rfl rfl rfl ?_
              refine pn_iconst (q := 127) (v := nI 0) dX1_mayStand_126 rfl (by decide) ?_
              refine pn_iald (q := 128) dX1_mayStand_127 rfl rfl rfl (by omega) (by first | decide | omega) ?_
              first | refine pn_nle (q := 131) (tgt := 135) dX1_mayStand_128 (by decide) rfl (by omega) (by omega) (fun hc128 => ?_) (fun hc128 => ?_) | refine pn_icmp_le (q := 131) (tgt := 135) dX1_mayStand_128 (by decide) rfl (fun hc128 => ?_) (fun hc128 => ?_)
              · refine pn_iconst (q := 136) (v := nI 0) dX1_mayStand_135 rfl (by decide) ?_
                refine pn_goto (q := 156) dX1_mayStand_136 (by decide) ?_
                refine pn_tret (b := msN 2 k pl cN v dp) _ ?_ dX1_mayStand_156 rfl ?_
                · first | exact (msN_t ⟨hu, by omega⟩).symm | exact (msN_f (fun q => by have := q.2; omega)).symm
                · exact ⟨rfl, rfl⟩
              · refine pn_iconst (q := 132) (v := nI 1) dX1_mayStand_131 rfl (by decide) ?_
                refine pn_goto (q := 156) dX1_mayStand_132 (by decide) ?_
                refine pn_tret (b := msN 2 k pl cN v dp) _ ?_ dX1_mayStand_156 rfl ?_
                · first | exact (msN_t ⟨hu, by omega⟩).symm | exact (msN_f (fun q => by have := q.2; omega)).symm
                · exact ⟨rfl, rfl⟩
        · refine pn_iconst (q := 51) (v := nI 1) dX1_mayStand_50 rfl (by decide) ?_
          refine pn_goto (q := 55) dX1_mayStand_51 (by decide) ?_
          refine pn_istore_n (q := 56) dX1_mayStand_55 rfl (by decide) ?_
          refine pn_aload_n (q := 57) dX1_mayStand_56 rfl rfl rfl ?_
          refine pn_get (q := 60) fX1_30 dX1_mayStand_57 rfl rfl rfl ?_
          refine pn_lookup (q := 108) (off := 48) dX1_mayStand_60 (by decide) (by decide) (by decide) ?_
          refine pn_iload_n (q := 109) dX1_mayStand_108 rfl rfl ?_
          refine pn_iconst (q := 110) (v := nI 1) dX1_mayStand_109 rfl (by decide) ?_
          first | refine pn_nne (q := 113) (tgt := 139) dX1_mayStand_110 (by decide) rfl (by omega) (by omega) (fun hc110 => ?_) (fun hc110 => ?_) | refine pn_icmp_ne (q := 113) (tgt := 139) dX1_mayStand_110 (by decide) rfl (fun hc110 => ?_) (fun hc110 => ?_)
          · refine pn_iload_n (q := 140) dX1_mayStand_139 rfl rfl ?_
            refine pn_aload_n (q := 141) dX1_mayStand_140 rfl rfl rfl ?_
            refine pn_get (q := 144) fX1_42 dX1_mayStand_141 rfl rfl rfl ?_
            refine pn_iload_n (q := 145) dX1_mayStand_144 rfl rfl ?_
            refine pn_iconst (q := 146) (v := nI 1) dX1_mayStand_145 rfl (by decide) ?_
            first | with_reducible refine pn_isubN (q := 147) dX1_mayStand_146 rfl (by omega) ?_ | refine pn_isub (q := 147) dX1_mayStand_146 rfl ?_
            refine pn_iald (q := 148) dX1_mayStand_147 rfl rfl rfl (by omega) (by first | decide | omega) ?_
            first | refine pn_nle (q := 151) (tgt := 155) dX1_mayStand_148 (by decide) rfl (by omega) (by omega) (fun hc148 => ?_) (fun hc148 => ?_) | refine pn_icmp_le (q := 151) (tgt := 155) dX1_mayStand_148 (by decide) rfl (fun hc148 => ?_) (fun hc148 => ?_)
            · refine pn_iconst (q := 156) (v := nI 0) dX1_mayStand_155 rfl (by decide) ?_
              refine pn_tret (b := msN 2 k pl cN v dp) _ ?_ dX1_mayStand_156 rfl ?_
              · first | exact (msN_t ⟨hu, by omega⟩).symm | exact (msN_f (fun q => by have := q.2; omega)).symm
              · exact ⟨rfl, rfl⟩
            · refine pn_iconst (q := 152) (v := nI 1) dX1_mayStand_151 rfl (by decide) ?_
              refine pn_goto (q := 156) dX1_mayStand_152 (by decide) ?_
              refine pn_tret (b := msN 2 k pl cN v dp) _ ?_ dX1_mayStand_156 rfl ?_
              · first | exact (msN_t ⟨hu, by omega⟩).symm | exact (msN_f (fun q => by have := q.2; omega)).symm
              · exact ⟨rfl, rfl⟩
          · refine pn_aload_n (q := 114) dX1_mayStand_113 rfl rfl rfl ?_
            refine pn_get (q := 117) fX1_33 dX1_mayStand_114 rfl rfl rfl ?_
            refine pn_iconst (q := 118) (v := nI 1) dX1_mayStand_117 rfl (by decide) ?_
            first | refine pn_ngt (q := 121) (tgt := 131) dX1_mayStand_118 (by decide) rfl (by omega) (by omega) (fun hc118 => ?_) (fun hc118 => ?_) | refine pn_icmp_gt (q := 121) (tgt := 131) dX1_mayStand_118 (by decide) rfl (fun hc118 => ?_) (fun hc118 => ?_)
            · refine pn_iconst (q := 132) (v := nI 1) dX1_mayStand_131 rfl (by decide) ?_
              refine pn_goto (q := 156) dX1_mayStand_132 (by decide) ?_
              refine pn_tret (b := msN 2 k pl cN v dp) _ ?_ dX1_mayStand_156 rfl ?_
              · first | exact (msN_t ⟨hu, by omega⟩).symm | exact (msN_f (fun q => by have := q.2; omega)).symm
              · exact ⟨rfl, rfl⟩
            · refine pn_iload_n (q := 122) dX1_mayStand_121 rfl rfl ?_
              refine pn_aload_n (q := 123) dX1_mayStand_122 rfl rfl rfl ?_
              refine pn_get (q := 126) fX1_42 dX1_mayStand_123 rfl rfl rfl ?_
              refine pn_iconst (q := 127) (v := nI 0) dX1_mayStand_126 rfl (by decide) ?_
              refine pn_iald (q := 128) dX1_mayStand_127 rfl rfl rfl (by omega) (by first | decide | omega) ?_
              first | refine pn_nle (q := 131) (tgt := 135) dX1_mayStand_128 (by decide) rfl (by omega) (by omega) (fun hc128 => ?_) (fun hc128 => ?_) | refine pn_icmp_le (q := 131) (tgt := 135) dX1_mayStand_128 (by decide) rfl (fun hc128 => ?_) (fun hc128 => ?_)
              · refine pn_iconst (q := 136) (v := nI 0) dX1_mayStand_135 rfl (by decide) ?_
                refine pn_goto (q := 156) dX1_mayStand_136 (by decide) ?_
                refine pn_tret (b := msN 2 k pl cN v dp) _ ?_ dX1_mayStand_156 rfl ?_
                · first | exact (msN_t ⟨hu, by omega⟩).symm | exact (msN_f (fun q => by have := q.2; omega)).symm
                · exact ⟨rfl, rfl⟩
              · refine pn_iconst (q := 132) (v := nI 1) dX1_mayStand_131 rfl (by decide) ?_
                refine pn_goto (q := 156) dX1_mayStand_132 (by decide) ?_
                refine pn_tret (b := msN 2 k pl cN v dp) _ ?_ dX1_mayStand_156 rfl ?_
                · first | exact (msN_t ⟨hu, by omega⟩).symm | exact (msN_f (fun q => by have := q.2; omega)).symm
                · exact ⟨rfl, rfl⟩
      · refine pn_iconst (q := 39) (v := nI 1) dX1_mayStand_38 rfl (by decide) ?_
        refine pn_tret (b := msN 2 k pl cN v dp) _ ?_ dX1_mayStand_39 rfl ?_
        · first | exact (msN_t ⟨hu, by omega⟩).symm | exact (msN_f (fun q => by have := q.2; omega)).symm
        · exact ⟨rfl, rfl⟩
    · refine pn_iload_n (q := 35) dX1_mayStand_34 rfl rfl ?_
      first | refine pn_zne (q := 38) (tgt := 40) dX1_mayStand_35 (by decide) rfl (by omega) (fun hc35 => ?_) (fun hc35 => ?_) | refine pn_if_ne (q := 38) (tgt := 40) dX1_mayStand_35 (by decide) rfl (fun hc35 => ?_) (fun hc35 => ?_)
      · refine pn_iload_n (q := 41) dX1_mayStand_40 rfl rfl ?_
        refine pn_iconst (q := 42) (v := nI 1) dX1_mayStand_41 rfl (by decide) ?_
        first | with_reducible refine pn_iaddN (q := 43) dX1_mayStand_42 rfl ?_ | refine pn_iadd (q := 43) dX1_mayStand_42 rfl ?_
        refine pn_aload_n (q := 44) dX1_mayStand_43 rfl rfl rfl ?_
        refine pn_get (q := 47) fX1_39 dX1_mayStand_44 rfl rfl rfl ?_
        first | refine pn_nne (q := 50) (tgt := 54) dX1_mayStand_47 (by decide) rfl (by omega) (by omega) (fun hc47 => ?_) (fun hc47 => ?_) | refine pn_icmp_ne (q := 50) (tgt := 54) dX1_mayStand_47 (by decide) rfl (fun hc47 => ?_) (fun hc47 => ?_)
        · refine pn_iconst (q := 55) (v := nI 0) dX1_mayStand_54 rfl (by decide) ?_
          refine pn_istore_n (q := 56) dX1_mayStand_55 rfl (by decide) ?_
          refine pn_aload_n (q := 57) dX1_mayStand_56 rfl rfl rfl ?_
          refine pn_get (q := 60) fX1_30 dX1_mayStand_57 rfl rfl rfl ?_
          refine pn_lookup (q := 157) (off := 97) dX1_mayStand_60 (by decide) (by decide) (by decide) ?_
          refine pn_iload_n (q := 158) dX1_mayStand_157 rfl rfl ?_
          refine pn_aload_n (q := 159) dX1_mayStand_158 rfl rfl rfl ?_
          refine pn_get (q := 162) fX1_42 dX1_mayStand_159 rfl rfl rfl ?_
          refine pn_iconst (q := 163) (v := nI 0) dX1_mayStand_162 rfl (by decide) ?_
          refine pn_iald (q := 164) dX1_mayStand_163 rfl rfl rfl (by omega) (by first | decide | omega) ?_
          first | refine pn_nle (q := 167) (tgt := 185) dX1_mayStand_164 (by decide) rfl (by omega) (by omega) (fun hc164 => ?_) (fun hc164 => ?_) | refine pn_icmp_le (q := 167) (tgt := 185) dX1_mayStand_164 (by decide) rfl (fun hc164 => ?_) (fun hc164 => ?_)
          · refine pn_iconst (q := 186) (v := nI 0) dX1_mayStand_185 rfl (by decide) ?_
            refine pn_tret (b := msN 3 k pl cN v dp) _ ?_ dX1_mayStand_186 rfl ?_
            · first | exact (msN_t ⟨hu, by omega⟩).symm | exact (msN_f (fun q => by have := q.2; omega)).symm
            · exact ⟨rfl, rfl⟩
          · refine pn_iload_n (q := 168) dX1_mayStand_167 rfl rfl ?_
            first | refine pn_zeq (q := 171) (tgt := 181) dX1_mayStand_168 (by decide) rfl (by omega) (fun hc168 => ?_) (fun hc168 => ?_) | refine pn_if_eq (q := 171) (tgt := 181) dX1_mayStand_168 (by decide) rfl (fun hc168 => ?_) (fun hc168 => ?_)
            · refine pn_iconst (q := 182) (v := nI 1) dX1_mayStand_181 rfl (by decide) ?_
              refine pn_goto (q := 186) dX1_mayStand_182 (by decide) ?_
              refine pn_tret (b := msN 3 k pl cN v dp) _ ?_ dX1_mayStand_186 rfl ?_
              · first | exact (msN_t ⟨hu, by omega⟩).symm | exact (msN_f (fun q => by have := q.2; omega)).symm
              · exact ⟨rfl, rfl⟩
            · refine pn_iload_n (q := 172) dX1_mayStand_171 rfl rfl ?_
              refine pn_aload_n (q := 173) dX1_mayStand_172 rfl rfl rfl ?_
              refine pn_get (q := 176) fX1_42 dX1_mayStand_173 rfl rfl rfl ?_
              refine pn_iconst (q := 177) (v := nI 1) dX1_mayStand_176 rfl (by decide) ?_
              refine pn_iald (q := 178) dX1_mayStand_177 rfl rfl rfl (by omega) (by first | decide | omega) ?_
              first | refine pn_nle (q := 181) (tgt := 185) dX1_mayStand_178 (by decide) rfl (by omega) (by omega) (fun hc178 => ?_) (fun hc178 => ?_) | refine pn_icmp_le (q := 181) (tgt := 185) dX1_mayStand_178 (by decide) rfl (fun hc178 => ?_) (fun hc178 => ?_)
              · refine pn_iconst (q := 186) (v := nI 0) dX1_mayStand_185 rfl (by decide) ?_
                refine pn_tret (b := msN 3 k pl cN v dp) _ ?_ dX1_mayStand_186 rfl ?_
                · first | exact (msN_t ⟨hu, by omega⟩).symm | exact (msN_f (fun q => by have := q.2; omega)).symm
                · exact ⟨rfl, rfl⟩
              · refine pn_iconst (q := 182) (v := nI 1) dX1_mayStand_181 rfl (by decide) ?_
                refine pn_goto (q := 186) dX1_mayStand_182 (by decide) ?_
                refine pn_tret (b := msN 3 k pl cN v dp) _ ?_ dX1_mayStand_186 rfl ?_
                · first | exact (msN_t ⟨hu, by omega⟩).symm | exact (msN_f (fun q => by have := q.2; omega)).symm
                · exact ⟨rfl, rfl⟩
        · refine pn_iconst (q := 51) (v := nI 1) dX1_mayStand_50 rfl (by decide) ?_
          refine pn_goto (q := 55) dX1_mayStand_51 (by decide) ?_
          refine pn_istore_n (q := 56) dX1_mayStand_55 rfl (by decide) ?_
          refine pn_aload_n (q := 57) dX1_mayStand_56 rfl rfl rfl ?_
          refine pn_get (q := 60) fX1_30 dX1_mayStand_57 rfl rfl rfl ?_
          refine pn_lookup (q := 157) (off := 97) dX1_mayStand_60 (by decide) (by decide) (by decide) ?_
          refine pn_iload_n (q := 158) dX1_mayStand_157 rfl rfl ?_
          refine pn_aload_n (q := 159) dX1_mayStand_158 rfl rfl rfl ?_
          refine pn_get (q := 162) fX1_42 dX1_mayStand_159 rfl rfl rfl ?_
          refine pn_iconst (q := 163) (v := nI 0) dX1_mayStand_162 rfl (by decide) ?_
          refine pn_iald (q := 164) dX1_mayStand_163 rfl rfl rfl (by omega) (by first | decide | omega) ?_
          first | refine pn_nle (q := 167) (tgt := 185) dX1_mayStand_164 (by decide) rfl (by omega) (by omega) (fun hc164 => ?_) (fun hc164 => ?_) | refine pn_icmp_le (q := 167) (tgt := 185) dX1_mayStand_164 (by decide) rfl (fun hc164 => ?_) (fun hc164 => ?_)
          · refine pn_iconst (q := 186) (v := nI 0) dX1_mayStand_185 rfl (by decide) ?_
            refine pn_tret (b := msN 3 k pl cN v dp) _ ?_ dX1_mayStand_186 rfl ?_
            · first | exact (msN_t ⟨hu, by omega⟩).symm | exact (msN_f (fun q => by have := q.2; omega)).symm
            · exact ⟨rfl, rfl⟩
          · refine pn_iload_n (q := 168) dX1_mayStand_167 rfl rfl ?_
            first | refine pn_zeq (q := 171) (tgt := 181) dX1_mayStand_168 (by decide) rfl (by omega) (fun hc168 => ?_) (fun hc168 => ?_) | refine pn_if_eq (q := 171) (tgt := 181) dX1_mayStand_168 (by decide) rfl (fun hc168 => ?_) (fun hc168 => ?_)
            · refine pn_iconst (q := 182) (v := nI 1) dX1_mayStand_181 rfl (by decide) ?_
              refine pn_goto (q := 186) dX1_mayStand_182 (by decide) ?_
              refine pn_tret (b := msN 3 k pl cN v dp) _ ?_ dX1_mayStand_186 rfl ?_
              · first | exact (msN_t ⟨hu, by omega⟩).symm | exact (msN_f (fun q => by have := q.2; omega)).symm
              · exact ⟨rfl, rfl⟩
            · refine pn_iload_n (q := 172) dX1_mayStand_171 rfl rfl ?_
              refine pn_aload_n (q := 173) dX1_mayStand_172 rfl rfl rfl ?_
              refine pn_get (q := 176) fX1_42 dX1_mayStand_173 rfl rfl rfl ?_
              refine pn_iconst (q := 177) (v := nI 1) dX1_mayStand_176 rfl (by decide) ?_
              refine pn_iald (q := 178) dX1_mayStand_177 rfl rfl rfl (by omega) (by first | decide | omega) ?_
              first | refine pn_nle (q := 181) (tgt := 185) dX1_mayStand_178 (by decide) rfl (by omega) (by omega) (fun hc178 => ?_) (fun hc178 => ?_) | refine pn_icmp_le (q := 181) (tgt := 185) dX1_mayStand_178 (by decide) rfl (fun hc178 => ?_) (fun hc178 => ?_)
              · refine pn_iconst (q := 186) (v := nI 0) dX1_mayStand_185 rfl (by decide) ?_
                refine pn_tret (b := msN 3 k pl cN v dp) _ ?_ dX1_mayStand_186 rfl ?_
                · first | exact (msN_t ⟨hu, by omega⟩).symm | exact (msN_f (fun q => by have := q.2; omega)).symm
                · exact ⟨rfl, rfl⟩
              · refine pn_iconst (q := 182) (v := nI 1) dX1_mayStand_181 rfl (by decide) ?_
                refine pn_goto (q := 186) dX1_mayStand_182 (by decide) ?_
                refine pn_tret (b := msN 3 k pl cN v dp) _ ?_ dX1_mayStand_186 rfl ?_
                · first | exact (msN_t ⟨hu, by omega⟩).symm | exact (msN_f (fun q => by have := q.2; omega)).symm
                · exact ⟨rfl, rfl⟩
      · refine pn_iconst (q := 39) (v := nI 1) dX1_mayStand_38 rfl (by decide) ?_
        refine pn_tret (b := msN 3 k pl cN v dp) _ ?_ dX1_mayStand_39 rfl ?_
        · first | exact (msN_t ⟨hu, by omega⟩).symm | exact (msN_f (fun q => by have := q.2; omega)).symm
        · exact ⟨rfl, rfl⟩
  refine pn_iconst (q := 1) (v := nI 0) dX1_mayStand_0 rfl (by decide) ?_
  refine pn_istore_n (q := 2) dX1_mayStand_1 rfl (by decide) ?_
  have loop : ∀ (m i : Nat), i + m = dp → (∀ j, j < i → ¬ cN j = v) → pnWP mX1_mayStand adK d (pnIs (.inl (some (.int (nB (msN sh k pl cN v dp))))) (hCat c R f stt fd n sh k g pl (fun j => nI (cN j)))) 0 0 (hCat c R f stt fd n sh k g pl (fun j => nI (cN j))) [some (.ref 0), some (.int (nI v)), some (.int (nI dp)), some (.int (nI i))] [] 2 := by
    intro m
    induction m with
    | zero =>
      intro i hi hu
      refine pn_iload_n (q := 3) dX1_mayStand_2 rfl rfl ?_
      refine pn_iload_n (q := 4) dX1_mayStand_3 rfl rfl ?_
      first | refine pn_nge (q := 7) (tgt := 34) dX1_mayStand_4 (by decide) rfl (by omega) (by omega) (fun hc4 => ?_) (fun hc4 => ?_) | refine pn_icmp_ge (q := 7) (tgt := 34) dX1_mayStand_4 (by decide) rfl (fun hc4 => ?_) (fun hc4 => ?_)
      · exact pn_take 3 (tail (fun j hj => hu j (by omega)))
      · omega
    | succ m ih =>
      intro i hi hu
      have hci := hcN i
      refine pn_iload_n (q := 3) dX1_mayStand_2 rfl rfl ?_
      refine pn_iload_n (q := 4) dX1_mayStand_3 rfl rfl ?_
      first | refine pn_nge (q := 7) (tgt := 34) dX1_mayStand_4 (by decide) rfl (by omega) (by omega) (fun hc4 => ?_) (fun hc4 => ?_) | refine pn_icmp_ge (q := 7) (tgt := 34) dX1_mayStand_4 (by decide) rfl (fun hc4 => ?_) (fun hc4 => ?_)
      · omega
      · refine pn_iload_n (q := 8) dX1_mayStand_7 rfl rfl ?_
        refine pn_aload_n (q := 9) dX1_mayStand_8 rfl rfl rfl ?_
        refine pn_get (q := 12) fX1_42 dX1_mayStand_9 rfl rfl rfl ?_
        refine pn_alen (q := 13) dX1_mayStand_12 rfl rfl (by decide) ?_
        first | refine pn_nge (q := 16) (tgt := 34) dX1_mayStand_13 (by decide) rfl (by omega) (by omega) (fun hc13 => ?_) (fun hc13 => ?_) | refine pn_icmp_ge (q := 16) (tgt := 34) dX1_mayStand_13 (by decide) rfl (fun hc13 => ?_) (fun hc13 => ?_)
        · omega
        · refine pn_aload_n (q := 17) dX1_mayStand_16 rfl rfl rfl ?_
          refine pn_get (q := 20) fX1_42 dX1_mayStand_17 rfl rfl rfl ?_
          refine pn_iload_n (q := 21) dX1_mayStand_20 rfl rfl ?_
          refine pn_iald (q := 22) dX1_mayStand_21 rfl rfl rfl (by omega) (by first | decide | omega) ?_
          refine pn_iload_n (q := 23) dX1_mayStand_22 rfl rfl ?_
          first | refine pn_nne (q := 26) (tgt := 28) dX1_mayStand_23 (by decide) rfl (by omega) (by omega) (fun hc23 => ?_) (fun hc23 => ?_) | refine pn_icmp_ne (q := 26) (tgt := 28) dX1_mayStand_23 (by decide) rfl (fun hc23 => ?_) (fun hc23 => ?_)
          · first | refine pn_iinc1 (q := 31) dX1_mayStand_28 rfl rfl (by decide) ?_ | refine pn_iinc (q := 31) (mm := 1) dX1_mayStand_28 rfl rfl (by decide) (by decide) ?_
            refine pn_goto (q := 2) dX1_mayStand_31 (by decide) ?_
            exact ih (i + 1) (by omega) (fun j hj => by by_cases e : j = i; (subst e; omega); exact hu j (by omega))
          · refine pn_iconst (q := 27) (v := nI 0) dX1_mayStand_26 rfl (by decide) ?_
            refine pn_tret (b := msN sh k pl cN v dp) _ ?_ dX1_mayStand_27 rfl ?_
            · exact (msN_f (fun q => q.1 i (by omega) (by omega))).symm
            · exact ⟨rfl, rfl⟩
  exact loop dp 0 (by omega) (fun j hj => by omega)
/-- the lines from the node at a place to nodes ahead of it -/
def lbN (n sh pl : Nat) (cN : Nat → Nat) (dp : Nat) : Int64 := if dp = 0 then 0 else if clN sh = true ∧ dp + 1 = pl then bL (lnN n (cN (if sh = 2 then 0 else dp - 1)) (cN dp)) ||| bL (lnN n (cN 0) (cN dp)) else bL (lnN n (cN (if sh = 2 then 0 else dp - 1)) (cN dp))
set_option maxRecDepth 100000 in
theorem c_linesBack (adK : Nat → Nat) (d : Nat) (c R : Nat) (f : Nat → Int64) (stt : Nat → Int32) (fd : Int64) (n sh k : Nat) (g : Int64) (pl : Nat) (cN : Nat → Nat) (pc bc : Nat) (ps : Nat → Int64) (bs sf : Nat → Int32) (dp : Nat) (hsh : sh ≤ 3) (hn : n ≤ 11) (hpl : pl ≤ 5) (hdp : dp < 5) (hcn : ∀ i, i ≤ dp → cN i < n) (hu : ∀ i, i < dp → ¬ cN i = cN dp) : pnCt mX1_linesBack adK (d + 2) 0 0 [.ref 0, .ref 4, .int (nI dp)] ((hCat c R f stt fd n sh k g pl (fun j => nI (cN j))) ++ (hNetO 4 n g sh k pc bc ps bs sf)) (pnIs (.inl (some (.long (lbN n sh pl cN dp)))) ((hCat c R f stt fd n sh k g pl (fun j => nI (cN j))) ++ (hNetO 4 n g sh k pc bc ps bs sf))) := by
  refine pnCt_of (by decide) kX1_linesBack (Nat.le_of_ble_eq_true rfl) rfl (pnCH_b rfl) (pnCS_b rfl) ?_
  have h1 := hcn 0 (by omega)
  have h2 := hcn dp (by omega)
  have tail : ∀ ah, ah < dp → 0 < dp → ah = (if sh = 2 then 0 else dp - 1) → pnWP mX1_linesBack adK (d + 2) (pnIs (.inl (some (.long (lbN n sh pl cN dp)))) ((hCat c R f stt fd n sh k g pl (fun j => nI (cN j))) ++ (hNetO 4 n g sh k pc bc ps bs sf))) 0 0 ((hCat c R f stt fd n sh k g pl (fun j => nI (cN j))) ++ (hNetO 4 n g sh k pc bc ps bs sf)) [some (.ref 0), some (.ref 4), some (.int (nI dp)), some (.int (nI ah))] [] 32 := by
    intro ah ha hd e
    have h3 := hcn ah (by omega)
    have e0 : ¬ dp = 0 := by omega
    have e1 : lbN n sh pl cN dp = if clN sh = true ∧ dp + 1 = pl then bL (lnN n (cN ah) (cN dp)) ||| bL (lnN n (cN 0) (cN dp)) else bL (lnN n (cN ah) (cN dp)) := by
      unfold lbN
      rw [if_neg e0, ← e]
    refine pn_lconst (q := 33) (v := 1) dX1_linesBack_32 rfl (by decide) ?_
    refine pn_aload_n (q := 34) dX1_linesBack_33 rfl rfl rfl ?_
    refine pn_aload_n (q := 35) dX1_linesBack_34 rfl rfl rfl ?_
    refine pn_get (q := 38) fX1_42 dX1_linesBack_35 rfl rfl rfl ?_
    refine pn_iload_n (q := 39) dX1_linesBack_38 rfl rfl ?_
    refine pn_iald (q := 40) dX1_linesBack_39 rfl rfl rfl (by omega) (by first | decide | omega) ?_
    refine pn_aload_n (q := 41) dX1_linesBack_40 rfl rfl rfl ?_
    refine pn_get (q := 44) fX1_42 dX1_linesBack_41 rfl rfl rfl ?_
    refine pn_iload_n (q := 45) dX1_linesBack_44 rfl rfl ?_
    refine pn_iald (q := 46) dX1_linesBack_45 rfl rfl rfl (by omega) (by first | decide | omega) ?_
    refine pn_roV1 (q := 49) (c_lineNumber adK d n g sh k pc bc ps bs sf (cN ah) (cN dp) hn h3 h2 (hu ah ha)) lkX1_78 dX1_linesBack_46 rfl rfl (pnSel_of (I := [4, 5, 6, 7]) rfl rfl) (pnFree_none rfl) rfl rfl rfl (by omega) (Nat.le_of_ble_eq_true rfl) rfl ?_
    refine pn_lshl (q := 50) dX1_linesBack_49 rfl ?_
    refine pn_lstore (q := 52) dX1_linesBack_50 rfl (by decide) ?_
    refine pn_aload_n (q := 53) dX1_linesBack_52 rfl rfl rfl ?_
    refine pn_roV1 (q := 56) (c_isClosed adK (d + 1) n g sh k pc bc ps bs sf hsh) lkX1_82 dX1_linesBack_53 rfl rfl (pnSel_of (I := [4, 5, 6, 7]) rfl rfl) (pnFree_none rfl) rfl rfl rfl (by omega) (Nat.le_of_ble_eq_true rfl) rfl ?_
    refine pn_beq (q := 59) (tgt := 92) dX1_linesBack_56 (by decide) rfl (fun hc56 => ?_) (fun hc56 => ?_)
    · refine pn_lload (q := 94) dX1_linesBack_92 rfl rfl ?_
      refine pn_lret dX1_linesBack_94 rfl ?_
      exact ⟨by rw [e1]; first | (rw [if_pos ⟨‹_›, ‹_›⟩]; rfl) | (rw [if_neg (fun q => by have := q.2; omega)]; rfl) | (rw [if_neg (fun q => Bool.false_ne_true (Eq.trans (Eq.symm ‹_›) q.1))]; rfl), rfl⟩
    · refine pn_iload_n (q := 60) dX1_linesBack_59 rfl rfl ?_
      refine pn_iconst (q := 61) (v := nI 1) dX1_linesBack_60 rfl (by decide) ?_
      first | with_reducible refine pn_iaddN (q := 62) dX1_linesBack_61 rfl ?_ | refine pn_iadd (q := 62) dX1_linesBack_61 rfl ?_
      refine pn_aload_n (q := 63) dX1_linesBack_62 rfl rfl rfl ?_
      refine pn_get (q := 66) fX1_39 dX1_linesBack_63 rfl rfl rfl ?_
      first | refine pn_nne (q := 69) (tgt := 92) dX1_linesBack_66 (by decide) rfl (by omega) (by omega) (fun hc66 => ?_) (fun hc66 => ?_) | refine pn_icmp_ne (q := 69) (tgt := 92) dX1_linesBack_66 (by decide) rfl (fun hc66 => ?_) (fun hc66 => ?_)
      · refine pn_lload (q := 94) dX1_linesBack_92 rfl rfl ?_
        refine pn_lret dX1_linesBack_94 rfl ?_
        exact ⟨by rw [e1]; first | (rw [if_pos ⟨‹_›, ‹_›⟩]; rfl) | (rw [if_neg (fun q => by have := q.2; omega)]; rfl) | (rw [if_neg (fun q => Bool.false_ne_true (Eq.trans (Eq.symm ‹_›) q.1))]; rfl), rfl⟩
      · refine pn_lload (q := 71) dX1_linesBack_69 rfl rfl ?_
        refine pn_lconst (q := 72) (v := 1) dX1_linesBack_71 rfl (by decide) ?_
        refine pn_aload_n (q := 73) dX1_linesBack_72 rfl rfl rfl ?_
        refine pn_aload_n (q := 74) dX1_linesBack_73 rfl rfl rfl ?_
        refine pn_get (q := 77) fX1_42 dX1_linesBack_74 rfl rfl rfl ?_
        refine pn_iconst (q := 78) (v := nI 0) dX1_linesBack_77 rfl (by decide) ?_
        refine pn_iald (q := 79) dX1_linesBack_78 rfl rfl rfl (by omega) (by first | decide | omega) ?_
        refine pn_aload_n (q := 80) dX1_linesBack_79 rfl rfl rfl ?_
        refine pn_get (q := 83) fX1_42 dX1_linesBack_80 rfl rfl rfl ?_
        refine pn_iload_n (q := 84) dX1_linesBack_83 rfl rfl ?_
        refine pn_iald (q := 85) dX1_linesBack_84 rfl rfl rfl (by omega) (by first | decide | omega) ?_
        refine pn_roV1 (q := 88) (c_lineNumber adK d n g sh k pc bc ps bs sf (cN 0) (cN dp) hn h1 h2 (hu 0 hd)) lkX1_78 dX1_linesBack_85 rfl rfl (pnSel_of (I := [4, 5, 6, 7]) rfl rfl) (pnFree_none rfl) rfl rfl rfl (by omega) (Nat.le_of_ble_eq_true rfl) rfl ?_
        refine pn_lshl (q := 89) dX1_linesBack_88 rfl ?_
        refine pn_lor (q := 90) dX1_linesBack_89 rfl ?_
        refine pn_lstore (q := 92) dX1_linesBack_90 rfl (by decide) ?_
        refine pn_lload (q := 94) dX1_linesBack_92 rfl rfl ?_
        refine pn_lret dX1_linesBack_94 rfl ?_
        exact ⟨by rw [e1]; first | (rw [if_pos ⟨‹_›, ‹_›⟩]; rfl) | (rw [if_neg (fun q => by have := q.2; omega)]; rfl) | (rw [if_neg (fun q => Bool.false_ne_true (Eq.trans (Eq.symm ‹_›) q.1))]; rfl), rfl⟩
  refine pn_iload_n (q := 1) dX1_linesBack_0 rfl rfl ?_
  refine pn_iconst (q := 2) (v := nI 1) dX1_linesBack_1 rfl (by decide) ?_
  first | refine pn_nlt (q := 5) (tgt := 14) dX1_linesBack_2 (by decide) rfl (by omega) (by omega) (fun hc2 => ?_) (fun hc2 => ?_) | refine pn_icmp_lt (q := 5) (tgt := 14) dX1_linesBack_2 (by decide) rfl (fun hc2 => ?_) (fun hc2 => ?_)
  · refine pn_lconst (q := 15) (v := 0) dX1_linesBack_14 rfl (by decide) ?_
    refine pn_lret dX1_linesBack_15 rfl ?_
    exact ⟨by rw [show lbN n sh pl cN dp = 0 from if_pos (by omega)], rfl⟩
  · refine pn_iload_n (q := 6) dX1_linesBack_5 rfl rfl ?_
    refine pn_aload_n (q := 7) dX1_linesBack_6 rfl rfl rfl ?_
    refine pn_get (q := 10) fX1_42 dX1_linesBack_7 rfl rfl rfl ?_
    refine pn_alen (q := 11) dX1_linesBack_10 rfl rfl (by decide) ?_
    first | refine pn_nlt (q := 14) (tgt := 16) dX1_linesBack_11 (by decide) rfl (by omega) (by omega) (fun hc11 => ?_) (fun hc11 => ?_) | refine pn_icmp_lt (q := 14) (tgt := 16) dX1_linesBack_11 (by decide) rfl (fun hc11 => ?_) (fun hc11 => ?_)
    · refine pn_aload_n (q := 17) dX1_linesBack_16 rfl rfl rfl ?_
      refine pn_get (q := 20) fX1_30 dX1_linesBack_17 rfl rfl rfl ?_
      refine pn_iconst (q := 21) (v := nI 2) dX1_linesBack_20 rfl (by decide) ?_
      first | refine pn_nne (q := 24) (tgt := 28) dX1_linesBack_21 (by decide) rfl (by omega) (by omega) (fun hc21 => ?_) (fun hc21 => ?_) | refine pn_icmp_ne (q := 24) (tgt := 28) dX1_linesBack_21 (by decide) rfl (fun hc21 => ?_) (fun hc21 => ?_)
      · refine pn_iload_n (q := 29) dX1_linesBack_28 rfl rfl ?_
        refine pn_iconst (q := 30) (v := nI 1) dX1_linesBack_29 rfl (by decide) ?_
        first | with_reducible refine pn_isubN (q := 31) dX1_linesBack_30 rfl (by omega) ?_ | refine pn_isub (q := 31) dX1_linesBack_30 rfl ?_
        refine pn_istore_n (q := 32) dX1_linesBack_31 rfl (by decide) ?_
        exact tail _ (by omega) (by omega) (by first | (rw [if_pos ‹_›]) | (rw [if_neg ‹_›]))
      · refine pn_iconst (q := 25) (v := nI 0) dX1_linesBack_24 rfl (by decide) ?_
        refine pn_goto (q := 31) dX1_linesBack_25 (by decide) ?_
        refine pn_istore_n (q := 32) dX1_linesBack_31 rfl (by decide) ?_
        exact tail _ (by omega) (by omega) (by first | (rw [if_pos ‹_›]) | (rw [if_neg ‹_›]))
    · refine pn_lconst (q := 15) (v := 0) dX1_linesBack_14 rfl (by decide) ?_
      refine pn_lret dX1_linesBack_15 rfl ?_
      exact ⟨by rw [show lbN n sh pl cN dp = 0 from if_pos (by omega)], rfl⟩
