/-! plain facts of numbers -/
theorem zPos {x : Int32} (h : 0 < x) : ∃ N, N < 2 ^ 31 ∧ x = nI N :=
  nI_of (fun q => absurd (Int32.lt_iff_toInt_lt.mp h) (by have := Int32.lt_iff_toInt_lt.mp q; omega))
theorem zBl_lt (N i : Nat) : i < zBl N ↔ 0 < N / 2 ^ i := by
  unfold zBl
  by_cases h : N = 0
  · subst h
    simp
  · rw [if_neg h, Nat.lt_succ_iff, Nat.le_log2 h, Nat.div_pos_iff]
    exact ⟨fun q => ⟨Nat.two_pow_pos i, q⟩, fun q => q.2⟩
theorem zBl_ge {N i : Nat} (h : zBl N ≤ i) : N / 2 ^ i = 0 := by
  rcases Nat.eq_zero_or_pos (N / 2 ^ i) with q | q
  · exact q
  · exact absurd ((zBl_lt N i).mpr q) (by omega)
theorem zBl_31 {N : Nat} (h : N < 2 ^ 31) : zBl N ≤ 31 := by
  unfold zBl
  by_cases h0 : N = 0
  · rw [if_pos h0]; omega
  · rw [if_neg h0]
    have h1 : ¬ 31 ≤ N.log2 := fun q => by have := (Nat.le_log2 h0).mp q; omega
    omega
theorem z_shr0p {x : Int32} (h : (0 : Int32) < x >>> ((0 : Int32) &&& 31)) : 0 < x := by
  have e : x >>> ((0 : Int32) &&& 31) = x := by
    have h1 : ((0 : Int32) &&& 31) = 0 := by decide
    rw [h1]
    simp
  rw [e] at h
  exact h
theorem z10 : ((1 : Int32) = 0) = False := eq_false (by decide)
theorem z_cl0 {x : Int32} (h : ¬ 0 < x) : x.toNatClampNeg = 0 := by
  have h1 : ¬ (0 : Int32).toInt < x.toInt := fun q => h (Int32.lt_iff_toInt_lt.mpr q)
  have h2 : x.toInt ≤ 0 := by simpa using h1
  show x.toInt.toNat = 0
  omega
theorem fO_nat (v : V) : ∀ n, (fO v n).1 = -4 ∨ ∃ S, S < n ∧ (fO v n).1 = nI S ∧ (fO v n).2 = v (13 + 11 * S + 7) ∧ ¬ v (13 + 11 * S + 0) = 0 ∧ v (13 + 11 * S + 8) = 0
  | 0 => Or.inl rfl
  | n + 1 => by
    have ih : (fO v n).1 = -4 ∨ ∃ S, S < n + 1 ∧ (fO v n).1 = nI S ∧ (fO v n).2 = v (13 + 11 * S + 7) ∧ ¬ v (13 + 11 * S + 0) = 0 ∧ v (13 + 11 * S + 8) = 0 := by
      rcases fO_nat v n with h | ⟨S, h1, h2⟩
      · exact Or.inl h
      · exact Or.inr ⟨S, by omega, h2⟩
    unfold fO
    by_cases h1 : v (13 + 11 * n + 0) = 0
    · rw [if_pos h1]; exact ih
    · rw [if_neg h1]
      by_cases h2 : v (13 + 11 * n + 8) = 0
      · rw [if_pos h2]
        by_cases h3 : (fO v n).1 = -4 ∨ v (13 + 11 * n + 7) < (fO v n).2
        · rw [if_pos h3]; exact Or.inr ⟨n, by omega, rfl, rfl, h1, h2⟩
        · rw [if_neg h3]; exact ih
      · rw [if_neg h2]; exact ih
theorem fOldest_nat {v : V} (h : ¬ fOldest v < 0) : ∃ S, S < 12 ∧ fOldest v = nI S ∧ ¬ v (13 + 11 * S + 0) = 0 ∧ v (13 + 11 * S + 8) = 0 := by
  rcases fO_nat v 12 with q | ⟨S, h1, h2, -, h3, h4⟩
  · exact absurd (by unfold fOldest; rw [q]; decide) h
  · exact ⟨S, h1, h2, h3, h4⟩
theorem fKill_o {v : V} {s j : Nat} (h1 : j ≠ 151) (h2 : j ≠ 13 + 11 * s + 0) : fKill v s j = v j := by
  unfold fKill
  rw [zu_n _ _ h1, zu_n _ _ h2]
theorem fCrowd_o {j : Nat} (h : j < 13 ∨ (145 ≤ j ∧ j ≠ 151)) : ∀ (n : Nat) (v : V), fCrowd n v j = v j
  | 0, _ => rfl
  | n + 1, v => by
    unfold fCrowd
    by_cases h1 : fOldest v < 0
    · rw [if_pos h1]
    · rw [if_neg h1, fCrowd_o h n]
      obtain ⟨S, hS, e, -, -⟩ := fOldest_nat h1
      rw [e, nI_clamp (by omega)]
      exact fKill_o (by omega) (by omega)
theorem fRoom_o {v : V} {s j : Nat} (h : j < 13 ∨ (145 ≤ j ∧ j ≠ 151)) : fRoom v s j = v j := by
  unfold fRoom
  by_cases h1 : fLacks v s = true
  · rw [if_pos h1]; exact fCrowd_o h _ _
  · rw [if_neg h1]
theorem fPlace_o {v : V} {s j : Nat} {w n a b : Int32} (hs : s < 12) (h : j < 13 ∨ 145 ≤ j) : fPlace v s w n a b j = v j := by
  unfold fPlace
  rw [zu_n _ _ (by omega), zu_n _ _ (by omega), zu_n _ _ (by omega), zu_n _ _ (by omega), zu_n _ _ (by omega), zu_n _ _ (by omega), zu_n _ _ (by omega), zu_n _ _ (by omega), zu_n _ _ (by omega), zu_n _ _ (by omega), zu_n _ _ (by omega)]
theorem fMet_co {v w : V} {s : Nat} {n : Int32} (hs : s < 12) (h : ∀ j, j < 8 → w j = v j) : fMet w s n = fMet v s n := by
  unfold fMet
  rw [h (s / 3) (by omega), h (4 + s / 3) (by omega)]
theorem fCost_co {v w : V} {s : Nat} {b n : Int32} (hs : s < 12) (h : ∀ j, j < 8 → w j = v j) : fCost w s b n = fCost v s b n := by
  unfold fCost fRaw
  rw [fMet_co hs h, h (s / 3) (by omega)]
theorem fBest_co {v w : V} {s : Nat} {n : Int32} (hs : s < 12) (h : ∀ j, j < 8 → w j = v j) : fBest w s n = fBest v s n := by
  unfold fBest fB1
  simp only [fCost_co hs h]
theorem cpT_at {v w : V} {t : Nat} (j : Nat) : cpT v w t j = if j = t ∨ j = 4 + t ∨ j = 152 + t ∨ j = 156 + t then w j else v j := by
  unfold cpT
  by_cases h1 : j = 156 + t
  · rw [if_pos (by omega), h1, zu_s]
  · rw [zu_n _ _ h1]
    by_cases h2 : j = 152 + t
    · rw [if_pos (by omega), h2, zu_s]
    · rw [zu_n _ _ h2]
      by_cases h3 : j = 4 + t
      · rw [if_pos (by omega), h3, zu_s]
      · rw [zu_n _ _ h3]
        by_cases h4 : j = t
        · rw [if_pos (by omega), h4, zu_s]
        · rw [zu_n _ _ h4, if_neg (by omega)]
theorem cpTs_at {v w : V} (j : Nat) : ∀ n, cpTs v w n j = if ∃ t, t < n ∧ (j = t ∨ j = 4 + t ∨ j = 152 + t ∨ j = 156 + t) then w j else v j
  | 0 => by rw [if_neg (by rintro ⟨t, h, -⟩; omega)]; rfl
  | n + 1 => by
    unfold cpTs
    rw [cpT_at, cpTs_at j n]
    by_cases h1 : j = n ∨ j = 4 + n ∨ j = 152 + n ∨ j = 156 + n
    · rw [if_pos h1, if_pos ⟨n, by omega, h1⟩]
    · rw [if_neg h1]
      by_cases h2 : ∃ t, t < n ∧ (j = t ∨ j = 4 + t ∨ j = 152 + t ∨ j = 156 + t)
      · rw [if_pos h2]
        obtain ⟨t, h3, h4⟩ := h2
        rw [if_pos ⟨t, by omega, h4⟩]
      · rw [if_neg h2, if_neg (by
          rintro ⟨t, h3, h4⟩
          by_cases h5 : t = n
          · exact h1 (h5 ▸ h4)
          · exact h2 ⟨t, by omega, h4⟩)]
theorem cpP_at {v w : V} {t : Nat} (j : Nat) : cpP v w t j = if 13 + 11 * t ≤ j ∧ j < 13 + 11 * t + 11 then w j else v j := by
  unfold cpP
  by_cases h : 13 + 11 * t ≤ j ∧ j < 13 + 11 * t + 11
  · rw [if_pos h]
    obtain ⟨f, hf, rfl⟩ : ∃ f, f < 11 ∧ j = 13 + 11 * t + f := ⟨j - (13 + 11 * t), by omega, by omega⟩
    rcases (show f = 0 ∨ f = 1 ∨ f = 2 ∨ f = 3 ∨ f = 4 ∨ f = 5 ∨ f = 6 ∨ f = 7 ∨ f = 8 ∨ f = 9 ∨ f = 10 by omega) with rfl | rfl | rfl | rfl | rfl | rfl | rfl | rfl | rfl | rfl | rfl <;> simp [upd]
  · rw [if_neg h, zu_n _ _ (by omega), zu_n _ _ (by omega), zu_n _ _ (by omega), zu_n _ _ (by omega), zu_n _ _ (by omega), zu_n _ _ (by omega), zu_n _ _ (by omega), zu_n _ _ (by omega), zu_n _ _ (by omega), zu_n _ _ (by omega), zu_n _ _ (by omega)]
theorem cpPs_at {v w : V} (j : Nat) : ∀ n, cpPs v w n j = if 13 ≤ j ∧ j < 13 + 11 * n then w j else v j
  | 0 => by rw [if_neg (by omega)]; rfl
  | n + 1 => by
    unfold cpPs
    rw [cpP_at, cpPs_at j n]
    by_cases h1 : 13 + 11 * n ≤ j ∧ j < 13 + 11 * n + 11
    · rw [if_pos h1, if_pos (by omega)]
    · rw [if_neg h1]
      by_cases h2 : 13 ≤ j ∧ j < 13 + 11 * n
      · rw [if_pos h2, if_pos (by omega)]
      · rw [if_neg h2, if_neg (by omega)]
theorem cpSs_at {v w : V} (j : Nat) : ∀ n, cpSs v w n j = if 8 ≤ j ∧ j < 8 + n then w j else v j
  | 0 => by rw [if_neg (by omega)]; rfl
  | n + 1 => by
    unfold cpSs
    by_cases h1 : j = 8 + n
    · rw [h1, zu_s, if_pos (by omega)]
    · rw [zu_n _ _ h1, cpSs_at j n]
      by_cases h2 : 8 ≤ j ∧ j < 8 + n
      · rw [if_pos h2, if_pos (by omega)]
      · rw [if_neg h2, if_neg (by omega)]
theorem cpAll_eq {v w : V} (h : ∀ j, 160 ≤ j → v j = w j) : cpAll v w = w := by
  funext j
  unfold cpAll
  rcases Nat.lt_or_ge j 160 with hj | hj
  · by_cases h1 : j = 151
    · rw [h1, zu_s]
    · rw [zu_n _ _ h1]
      by_cases h2 : j = 150
      · rw [h2, zu_s]
      · rw [zu_n _ _ h2]
        by_cases h3 : j = 149
        · rw [h3, zu_s]
        · rw [zu_n _ _ h3]
          by_cases h4 : j = 148
          · rw [h4, zu_s]
          · rw [zu_n _ _ h4]
            by_cases h5 : j = 147
            · rw [h5, zu_s]
            · rw [zu_n _ _ h5]
              by_cases h6 : j = 146
              · rw [h6, zu_s]
              · rw [zu_n _ _ h6]
                by_cases h7 : j = 145
                · rw [h7, zu_s]
                · rw [zu_n _ _ h7, cpSs_at, cpPs_at, cpTs_at]
                  by_cases h8 : 8 ≤ j ∧ j < 8 + 5
                  · rw [if_pos h8]
                  · rw [if_neg h8]
                    by_cases h9 : 13 ≤ j ∧ j < 13 + 11 * 12
                    · rw [if_pos h9]
                    · rw [if_neg h9, if_pos]
                      rcases (show j < 4 ∨ (4 ≤ j ∧ j < 8) ∨ (152 ≤ j ∧ j < 156) ∨ (156 ≤ j ∧ j < 160) by omega) with q | q | q | q
                      · exact ⟨j, by omega, by omega⟩
                      · exact ⟨j - 4, by omega, by omega⟩
                      · exact ⟨j - 152, by omega, by omega⟩
                      · exact ⟨j - 156, by omega, by omega⟩
  · rw [zu_n _ _ (by omega), zu_n _ _ (by omega), zu_n _ _ (by omega), zu_n _ _ (by omega), zu_n _ _ (by omega), zu_n _ _ (by omega), zu_n _ _ (by omega), cpSs_at, cpPs_at, cpTs_at, if_neg (by omega), if_neg (by omega), if_neg (by rintro ⟨t, h3, h4⟩; omega)]
    exact h j hj
