/-! plain facts of numbers -/
theorem zPos {x : Int32} (h : 0 < x) : ∃ N, N < 2 ^ 31 ∧ x = nI N :=
  nI_of (fun q => absurd (Int32.lt_iff_toInt_lt.mp h) (by have := Int32.lt_iff_toInt_lt.mp q; omega))
theorem zBl_lt (N i : Nat) : i < zBl N ↔ 0 < N / 2 ^ i := by
  unfold zBl
  by_cases h : N = 0
  · subst h
    simp
  · rw [if_neg h, Nat.lt_succ_iff, Nat.le_log2 h, Nat.div_pos_iff]
    exact ⟨fun q => ⟨Nat.two_pow_pos i, q⟩, fun q => q.2⟩
theorem zBl_ge {N i : Nat} (h : zBl N ≤ i) : N / 2 ^ i = 0 := by
  rcases Nat.eq_zero_or_pos (N / 2 ^ i) with q | q
  · exact q
  · exact absurd ((zBl_lt N i).mpr q) (by omega)
theorem zBl_31 {N : Nat} (h : N < 2 ^ 31) : zBl N ≤ 31 := by
  unfold zBl
  by_cases h0 : N = 0
  · rw [if_pos h0]; omega
  · rw [if_neg h0]
    have h1 : ¬ 31 ≤ N.log2 := fun q => by have := (Nat.le_log2 h0).mp q; omega
    omega
theorem z_shr0p {x : Int32} (h : (0 : Int32) < x >>> ((0 : Int32) &&& 31)) : 0 < x := by
  have e : x >>> ((0 : Int32) &&& 31) = x := by
    have h1 : ((0 : Int32) &&& 31) = 0 := by decide
    rw [h1]
    simp
  rw [e] at h
  exact h
theorem z10 : ((1 : Int32) = 0) = False := eq_false (by decide)
