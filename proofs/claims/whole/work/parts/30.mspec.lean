/-! the model's own ways, and that they are the class's -/
theorem z_i {x y : Int32} : x < y ↔ x.toInt < y.toInt := Int32.lt_iff_toInt_lt
theorem z_inj {x y : Int32} (h : x.toInt = y.toInt) : x = y := Int32.toInt_inj.mp h
theorem z_minc (q r : Int32) : (if q < r then q else r) = (if r < q then r else q) := by
  by_cases h1 : q < r
  · rw [if_pos h1, if_neg (fun h2 => by have := z_i.mp h1; have := z_i.mp h2; omega)]
  · rw [if_neg h1]
    by_cases h2 : r < q
    · rw [if_pos h2]
    · rw [if_neg h2]
      exact z_inj (by have a : ¬ q.toInt < r.toInt := fun h => h1 (z_i.mpr h); have b : ¬ r.toInt < q.toInt := fun h => h2 (z_i.mpr h); omega)
theorem z_12 (x : Int32) : (¬ 11 < x) ↔ x < 12 := by
  have e1 : (11 : Int32).toInt = 11 := by decide
  have e2 : (12 : Int32).toInt = 12 := by decide
  rw [z_i, z_i, e1, e2]; omega
theorem z_4 (x : Int32) : (¬ 3 < x) ↔ x < 4 := by
  have e1 : (3 : Int32).toInt = 3 := by decide
  have e2 : (4 : Int32).toInt = 4 := by decide
  rw [z_i, z_i, e1, e2]; omega
theorem z_3 (x : Int32) : (¬ 2 < x) ↔ x < 3 := by
  have e1 : (2 : Int32).toInt = 2 := by decide
  have e2 : (3 : Int32).toInt = 3 := by decide
  rw [z_i, z_i, e1, e2]; omega
theorem z_5 (x : Int32) : (¬ 4 < x) ↔ x < 5 := by
  have e1 : (4 : Int32).toInt = 4 := by decide
  have e2 : (5 : Int32).toInt = 5 := by decide
  rw [z_i, z_i, e1, e2]; omega
/-- keys and spread are at least 1 -/
def zKy (v : V) : Prop := ∀ t, t < 4 → ¬ v (4 + t) < 1
theorem zn0 {x : Int32} (h : ¬ x < 1) : ¬ x = 0 := fun q => h (by rw [q]; decide)
theorem fK_s {v : V} (hf : zFl v) {i : Nat} (hi : i < 12) : fK v (i + 1) = fK v i + v (13 + 11 * i + 0) := by
  rw [fK]
  rcases (hf i hi).1 with h | h
  · rw [if_pos h, h, Int32.add_zero]
  · rw [if_neg (by rw [h]; decide), h]
theorem fP_s {v : V} (hf : zFl v) {i : Nat} (hi : i < 12) : fP v (i + 1) = fP v i + v (13 + 11 * i + 0) * v (13 + 11 * i + 8) := by
  rw [fP]
  rcases (hf i hi).1 with h | h
  · rw [if_pos h, h, Int32.zero_mul, Int32.add_zero]
  · rw [if_neg (by rw [h]; decide)]
    rcases (hf i hi).2 with h2 | h2
    · rw [if_pos h2, h2, Int32.mul_zero, Int32.add_zero]
    · rw [if_neg (by rw [h2]; decide), h, h2]; rfl
theorem fKo_s {v : V} (hf : zFl v) {q n : Nat} (hq : 3 * q + n < 12) : fKo v q (n + 1) = fKo v q n + v (13 + 11 * (3 * q + n) + 0) := by
  rw [fKo]
  rcases (hf _ hq).1 with h | h
  · rw [if_pos h, h, Int32.add_zero]
  · rw [if_neg (by rw [h]; decide), h]
theorem z_abs1 (x : Int32) : (if x < 0 then -x else x) = fAbs x := by
  unfold fAbs
  by_cases h : x < 0
  · rw [if_pos h, if_neg (fun q => by have a := z_i.mp h; have b := Int32.le_iff_toInt_le.mp q; omega), Int32.zero_sub]
  · rw [if_neg h, if_pos (Int32.le_iff_toInt_le.mpr (by have a : ¬ x.toInt < (0 : Int32).toInt := fun q => h (z_i.mpr q); omega))]
/-- the oldest, looked for from the last shape down -/
def fOd (v : V) : Nat → Int32
  | 0 => -4
  | m + 1 => if v (13 + 11 * (11 - m) + 0) = 1 ∧ v (13 + 11 * (11 - m) + 8) = 0 then (if fOd v m < 0 ∨ ¬ v (13 + 11 * iN (fOd v m) + 7) < v (13 + 11 * (11 - m) + 7) then nI (11 - m) else fOd v m) else fOd v m
theorem fOd_nat (v : V) : ∀ m, m ≤ 12 → fOd v m = -4 ∨ ∃ F, 12 - m ≤ F ∧ F < 12 ∧ fOd v m = nI F
  | 0, _ => Or.inl rfl
  | m + 1, hm => by
    have ih : fOd v m = -4 ∨ ∃ F, 12 - (m + 1) ≤ F ∧ F < 12 ∧ fOd v m = nI F := by
      rcases fOd_nat v m (by omega) with h | ⟨F, h1, h2⟩
      · exact Or.inl h
      · exact Or.inr ⟨F, by omega, h2⟩
    unfold fOd
    by_cases h1 : v (13 + 11 * (11 - m) + 0) = 1 ∧ v (13 + 11 * (11 - m) + 8) = 0
    · rw [if_pos h1]
      by_cases h2 : fOd v m < 0 ∨ ¬ v (13 + 11 * iN (fOd v m) + 7) < v (13 + 11 * (11 - m) + 7)
      · rw [if_pos h2]; exact Or.inr ⟨11 - m, by omega, by omega, rfl⟩
      · rw [if_neg h2]; exact ih
    · rw [if_neg h1]; exact ih
theorem fOd_eq {v : V} (hf : zFl v) : fOd v 12 = fOldest v := by sorry
theorem z_km {m : Nat} (h : m ≤ 11) : (11 : Int32) - nI m = nI (11 - m) := by
  rw [show (11 : Int32) = nI 11 from rfl, pk_sub h]
theorem z_kd {m : Nat} (h : m ≤ 11) : nI (11 - m) + Int32.ofInt (-1) = (11 : Int32) - nI (m + 1) := by
  rw [← z_km h, ← nI_1]
  apply z_inj
  rw [Int32.toInt_add, Int32.toInt_sub, Int32.toInt_sub, Int32.toInt_add]
  have e1 : (Int32.ofInt (-1)).toInt = -1 := by decide
  have e2 : (1 : Int32).toInt = 1 := by decide
  rw [e1, e2]
  simp only [Int.bmod_def]
  omega
theorem z_k0 {m : Nat} (h : m ≤ 12) : (11 : Int32) - nI m < 0 ↔ m = 12 := by
  rcases Nat.lt_or_ge m 12 with q | q
  · rw [z_km (by omega)]
    exact ⟨fun h => absurd h (nI_pos (by omega)), fun h => by omega⟩
  · have e : m = 12 := by omega
    subst e
    exact ⟨fun _ => rfl, fun _ => by decide⟩
