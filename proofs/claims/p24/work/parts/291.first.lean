/-! the addresses of the law's 128 cells, their first memory -/
def zPi (i : Nat) : Nat := if i < 40 then i + 1 else if i < 120 then i + 3 else if i = 120 then 0 else if i < 123 then i - 80 else i
def zAd (z : Nat) (q9 q10 : Nat → Nat) (t0 t1 : Nat) : Nat → Nat → Nat := fun i =>
  if i < 2 then fun c => z + (20 * i + 1 + c)
  else if i < 6 then fun c => z + (43 + 20 * (i - 2) + c)
  else if i = 6 then fun c => z + (if c = 0 then 0 else if c < 3 then 40 + c else 120 + c)
  else if i = 9 then q9 else if i = 10 then q10 else fun c => if c = 0 then t0 else t1
section FST
variable {z : Nat} {q9 q10 : Nat → Nat} {t0 t1 : Nat}
theorem zAd_a {i : Nat} (h : i < 2) : zAd z q9 q10 t0 t1 i = fun c => z + (20 * i + 1 + c) := by
  unfold zAd
  rw [if_pos h]
theorem zAd_b {i : Nat} (h1 : 2 ≤ i) (h : i < 6) : zAd z q9 q10 t0 t1 i = fun c => z + (43 + 20 * (i - 2) + c) := by
  unfold zAd
  rw [if_neg (by omega), if_pos h]
theorem zAd_c : zAd z q9 q10 t0 t1 6 = fun c => z + (if c = 0 then 0 else if c < 3 then 40 + c else 120 + c) := by
  unfold zAd
  rw [if_neg (by omega), if_neg (by omega), if_pos rfl]
theorem zAd_pi {i : Nat} (h : i < 128) : zAd z q9 q10 t0 t1 (i / 20) (i % 20) = z + zPi i := by
  unfold zPi
  by_cases h1 : i < 40
  · rw [if_pos h1, zAd_a (by omega)]
    show z + (20 * (i / 20) + 1 + i % 20) = _
    omega
  · rw [if_neg h1]
    by_cases h2 : i < 120
    · rw [if_pos h2, zAd_b (by omega) (by omega)]
      show z + (43 + 20 * (i / 20 - 2) + i % 20) = _
      omega
    · rw [if_neg h2, show i / 20 = 6 by omega, zAd_c]
      show z + (if i % 20 = 0 then 0 else if i % 20 < 3 then 40 + i % 20 else 120 + i % 20) = _
      by_cases h3 : i = 120
      · rw [if_pos h3, if_pos (by omega)]
      · rw [if_neg h3, if_neg (by omega)]
        by_cases h4 : i < 123
        · rw [if_pos h4, if_pos (by omega)]
          omega
        · rw [if_neg h4, if_neg (by omega)]
          omega
theorem zPi_lt {i : Nat} (h : i < 128) : zPi i < 128 := by
  unfold zPi
  split
  · omega
  · split
    · omega
    · split
      · omega
      · split <;> omega
theorem zPi_inj : ∀ i, i < 128 → ∀ j, j < 128 → zPi i = zPi j → i = j := by
  have key : ∀ i, (i < 40 ∧ zPi i = i + 1) ∨ (40 ≤ i ∧ i < 120 ∧ zPi i = i + 3) ∨ (i = 120 ∧ zPi i = 0) ∨ (120 < i ∧ i < 123 ∧ zPi i = i - 80) ∨ (123 ≤ i ∧ zPi i = i) := by
    intro i
    unfold zPi
    by_cases h1 : i < 40
    · rw [if_pos h1]; omega
    · rw [if_neg h1]
      by_cases h2 : i < 120
      · rw [if_pos h2]; omega
      · rw [if_neg h2]
        by_cases h3 : i = 120
        · rw [if_pos h3]; omega
        · rw [if_neg h3]
          by_cases h4 : i < 123
          · rw [if_pos h4]; omega
          · rw [if_neg h4]; omega
  intro i hi j hj h
  rcases key i with q | q | q | q | q <;> rcases key j with r | r | r | r | r <;> omega
theorem zAd_inj : zInj (zAd z q9 q10 t0 t1) := by
  intro i j hi hj h
  rw [zAd_pi hi, zAd_pi hj] at h
  exact zPi_inj i hi j hj (by omega)
theorem zAd_ge {q : Nat} (h : zA (zAd z q9 q10 t0 t1) q) : z ≤ q := by
  obtain ⟨i, hi, rfl⟩ := h
  rw [zAd_pi hi]
  exact Nat.le_add_right _ _
theorem zAd_of {q : Nat} (h1 : z ≤ q) (h2 : q < z + 128) : zA (zAd z q9 q10 t0 t1) q := by
  have key : ∀ t, t < 128 → ∃ i, i < 128 ∧ zPi i = t := by
    intro t ht
    by_cases c0 : t = 0
    · exact ⟨120, by omega, by subst c0; decide⟩
    by_cases c1 : t < 41
    · exact ⟨t - 1, by omega, by unfold zPi; rw [if_pos (by omega)]; omega⟩
    by_cases c2 : t < 43
    · exact ⟨t + 80, by omega, by unfold zPi; rw [if_neg (by omega), if_neg (by omega), if_neg (by omega), if_pos (by omega)]; omega⟩
    by_cases c3 : t < 123
    · exact ⟨t - 3, by omega, by unfold zPi; rw [if_neg (by omega), if_pos (by omega)]; omega⟩
    · exact ⟨t, by omega, by unfold zPi; rw [if_neg (by omega), if_neg (by omega), if_neg (by omega), if_neg (by omega)]⟩
  obtain ⟨i, hi, e⟩ := key (q - z) (by omega)
  exact ⟨i, hi, by rw [zAd_pi hi, e]; omega⟩
end FST
/-- the first memory -/
def zg0 : Mem := fun i => if i < 6 then zV0 else fun _ => 0
theorem zg0_s {i : Nat} (h : i < 6) : zg0 i = zV0 := by
  unfold zg0
  rw [if_pos h]
theorem zg0_o {i : Nat} (h : 6 ≤ i) : zg0 i = fun _ => 0 := by
  unfold zg0
  rw [if_neg (by omega)]
/-- what stands in the 128 cells behind the constructor -/
def zFE (k : Nat → ClassId) (z : Nat) (E : Nat → va_E) : Nat → va_E := zKE k z 0 (zBu E 0 eK0) (fsK z 0)
theorem z_first {k : Nat → ClassId} {z : Nat} {q9 q10 : Nat → Nat} {t0 t1 : Nat} {E : Nat → va_E} {D : va_G} {H : Heap} (h : va_P D vwCl (zB z 128 (zFE k z E)) H) : va_P D vwCl (zW k (zAd z q9 q10 t0 t1) zg0) H := by
  intro j q hq
  obtain ⟨hl, rfl⟩ := zW_k hq
  have h9 := h (zPi j) _ (zB_at (zPi_lt hl) rfl)
  rw [zAd_pi hl]
  unfold zE
  by_cases c1 : j < 40
  · rw [if_pos (by omega), zg0_s (by omega), zAd_a (by omega)]
    rw [show zPi j = j + 1 from by unfold zPi; rw [if_pos c1]] at h9 ⊢
    unfold zFE at h9
    unfold zKE at h9
    rw [if_neg (by omega), if_neg (by omega)] at h9
    by_cases c2 : j < 20
    · rw [if_pos (by omega), show j + 1 - (0 + 1) = j % 20 by omega] at h9
      rw [show j / 20 = 0 by omega]
      exact h9
    · rw [if_neg (by omega), if_pos (by omega), show j + 1 - (0 + 21) = j % 20 by omega] at h9
      rw [show j / 20 = 1 by omega]
      exact h9
  by_cases c2 : j < 120
  · rw [if_pos (by omega), zg0_s (by omega), zAd_b (by omega) (by omega)]
    rw [show zPi j = j + 3 from by unfold zPi; rw [if_neg c1, if_pos c2]] at h9 ⊢
    unfold zFE at h9
    unfold zKE at h9
    rw [if_neg (by omega), if_neg (by omega), if_neg (by omega), if_neg (by omega), if_pos (by omega), zH1_2 (i := j / 20 - 2) (by omega) (by omega), show j + 3 - (0 + 41 + 2 + 20 * (j / 20 - 2)) = j % 20 by omega] at h9
    exact h9
  rw [if_neg (by omega)]
  obtain ⟨t, rfl⟩ : ∃ t, j = 120 + t := ⟨j - 120, by omega⟩
  rw [show (120 + t) % 20 = t by omega]
  rcases (show t = 0 ∨ t = 1 ∨ t = 2 ∨ t = 3 ∨ t = 4 ∨ t = 5 ∨ t = 6 ∨ t = 7 by omega) with rfl | rfl | rfl | rfl | rfl | rfl | rfl | rfl
  · exact h9
  · exact h9
  · exact va_at_refs (f := zHf z 41) h9 (fun i hi => by
      show some (zAd z q9 q10 t0 t1 (2 + i) 0) = some (z + (41 + 2 + 20 * i))
      rw [zAd_b (by omega) (by omega)]
      show some (z + (43 + 20 * (2 + i - 2) + 0)) = _
      congr 1
      omega)
  · exact h9
  · exact h9
  · exact h9
  · exact h9
  · exact h9
