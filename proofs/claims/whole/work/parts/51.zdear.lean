theorem lg_pos {x y : Int64} : (0 < lg_cmp x y) ↔ y < x := by
  unfold lg_cmp
  by_cases h : x > y
  · rw [if_pos h]; exact ⟨fun _ => h, fun _ => by decide⟩
  · rw [if_neg h]
    refine ⟨fun q => ?_, fun q => absurd q h⟩
    by_cases e : x = y
    · rw [if_pos e] at q; exact absurd q (by decide)
    · rw [if_neg e] at q; exact absurd q (by decide)
theorem z_mulb {a b : Int} (h1 : 0 ≤ a) (h2 : a ≤ 20) (h3 : 0 ≤ b) (h4 : b ≤ 1000000) : 0 ≤ a * b ∧ a * b ≤ 20000000 := by
  refine ⟨Int.mul_nonneg h1 h3, ?_⟩
  have p := Int.mul_le_mul h2 h4 h3 (by decide : (0 : Int) ≤ 20)
  omega
theorem z_dear2 {v : V} {z : Nat} {x : Int32} (hg : zGu v) (hz : z < 12) : (0 < lg_cmp x.toInt64 ((v 12).toInt64 * (v (13 + 11 * z + 5)).toInt64)) ↔ fDear v z x = true := by
  rw [lg_pos, fDear, decide_eq_true_eq]
  obtain ⟨⟨h1, h2⟩, hq⟩ := hg
  obtain ⟨h3, h4⟩ := hq z hz
  generalize v (13 + 11 * z + 5) = b at h3 h4 ⊢
  generalize v 12 = a at h1 h2 ⊢
  have p := z_mulb h1 h2 h3 h4
  rw [z_i, Int64.lt_iff_toInt_lt, Int64.toInt_mul, Int32.toInt_toInt64, Int32.toInt_toInt64, Int32.toInt_toInt64, Int32.toInt_mul, Int.bmod_eq_of_le (by omega) (by omega), Int.bmod_eq_of_le (by omega) (by omega)]
