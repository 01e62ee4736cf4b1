def zCd (v : V) (t : Nat) : Prop := ¬ v (13 + 11 * t + 0) = 0 ∧ v (13 + 11 * t + 8) = 0
def zUs (v : V) (t : Nat) : Int := (v (13 + 11 * t + 7)).toInt
theorem fO_spec (v : V) : ∀ n, n ≤ 12 → ((fO v n).1 = -4 ∧ ∀ t, t < n → ¬ zCd v t) ∨ ∃ S, S < n ∧ (fO v n).1 = nI S ∧ (fO v n).2 = v (13 + 11 * S + 7) ∧ zCd v S ∧ ∀ t, t < n → zCd v t → zUs v S ≤ zUs v t ∧ (t < S → zUs v S < zUs v t)
  | 0, _ => Or.inl ⟨rfl, fun t ht => absurd ht (by omega)⟩
  | n + 1, hn => by
    have ih := fO_spec v n (by omega)
    have keep : ¬ zCd v n → fO v (n + 1) = fO v n → (((fO v (n + 1)).1 = -4 ∧ ∀ t, t < n + 1 → ¬ zCd v t) ∨ ∃ S, S < n + 1 ∧ (fO v (n + 1)).1 = nI S ∧ (fO v (n + 1)).2 = v (13 + 11 * S + 7) ∧ zCd v S ∧ ∀ t, t < n + 1 → zCd v t → zUs v S ≤ zUs v t ∧ (t < S → zUs v S < zUs v t)) := by
      intro hc e
      rw [e]
      rcases ih with ⟨h1, h2⟩ | ⟨S, h1, h2, h3, h4, h5⟩
      · refine Or.inl ⟨h1, fun t ht => ?_⟩
        by_cases q : t = n
        · subst q; exact hc
        · exact h2 t (by omega)
      · refine Or.inr ⟨S, by omega, h2, h3, h4, fun t ht c => ?_⟩
        by_cases q : t = n
        · subst q; exact absurd c hc
        · exact h5 t (by omega) c
    by_cases a : v (13 + 11 * n + 0) = 0
    · exact keep (fun q => q.1 a) (by rw [fO, if_pos a])
    · by_cases b : v (13 + 11 * n + 8) = 0
      · by_cases d : (fO v n).1 = -4 ∨ v (13 + 11 * n + 7) < (fO v n).2
        · have e : fO v (n + 1) = (nI n, v (13 + 11 * n + 7)) := by rw [fO, if_neg a, if_pos b, if_pos d]
          rw [e]
          refine Or.inr ⟨n, by omega, rfl, rfl, ⟨a, b⟩, fun t ht c => ?_⟩
          rcases ih with ⟨h1, h2⟩ | ⟨S, h1, h2, h3, h4, h5⟩
          · by_cases q : t = n
            · subst q; exact ⟨Int.le_refl _, fun w => absurd w (by omega)⟩
            · exact absurd c (h2 t (by omega))
          · have d2 : zUs v n < zUs v S := by
              rcases d with d | d
              · rw [h2] at d; exact absurd d (nI_nm4 (by omega))
              · rw [h3] at d; exact z_i.mp d
            by_cases q : t = n
            · subst q; exact ⟨Int.le_refl _, fun w => absurd w (by omega)⟩
            · have := (h5 t (by omega) c).1
              exact ⟨by omega, fun _ => by omega⟩
        · have e : fO v (n + 1) = fO v n := by rw [fO, if_neg a, if_pos b, if_neg d]
          rw [e]
          rcases ih with ⟨h1, h2⟩ | ⟨S, h1, h2, h3, h4, h5⟩
          · exact absurd (Or.inl h1) d
          · refine Or.inr ⟨S, by omega, h2, h3, h4, fun t ht c => ?_⟩
            by_cases q : t = n
            · subst q
              have d2 : ¬ zUs v t < zUs v S := fun w => d (Or.inr (by rw [h3]; exact z_i.mpr w))
              exact ⟨by omega, fun w => absurd w (by omega)⟩
            · exact h5 t (by omega) c
      · exact keep (fun q => b q.2) (by rw [fO, if_neg a, if_neg b])
theorem fOd_spec {v : V} (hf : zFl v) : ∀ m, m ≤ 12 → (fOd v m = -4 ∧ ∀ t, 12 - m ≤ t → t < 12 → ¬ zCd v t) ∨ ∃ F, 12 - m ≤ F ∧ F < 12 ∧ fOd v m = nI F ∧ zCd v F ∧ ∀ t, 12 - m ≤ t → t < 12 → zCd v t → zUs v F ≤ zUs v t ∧ (t < F → zUs v F < zUs v t)
  | 0, _ => Or.inl ⟨rfl, fun t h1 h2 => absurd h2 (by omega)⟩
  | m + 1, hm => by
    have ih := fOd_spec hf m (by omega)
    by_cases a : v (13 + 11 * (11 - m) + 0) = 1 ∧ v (13 + 11 * (11 - m) + 8) = 0
    · have hc : zCd v (11 - m) := ⟨by rw [a.1]; decide, a.2⟩
      by_cases d : fOd v m < 0 ∨ ¬ v (13 + 11 * iN (fOd v m) + 7) < v (13 + 11 * (11 - m) + 7)
      · have e : fOd v (m + 1) = nI (11 - m) := by rw [fOd, if_pos a, if_pos d]
        rw [e]
        refine Or.inr ⟨11 - m, by omega, by omega, rfl, hc, fun t h1 h2 c => ?_⟩
        by_cases q : t = 11 - m
        · subst q; exact ⟨Int.le_refl _, fun w => absurd w (by omega)⟩
        · rcases ih with ⟨i1, i2⟩ | ⟨F, i1, i2, i3, i4, i5⟩
          · exact absurd c (i2 t (by omega) h2)
          · have d2 : ¬ zUs v F < zUs v (11 - m) := by
              rcases d with d | d
              · rw [i3] at d; exact absurd d (nI_pos (by omega))
              · rw [i3, iN_nI i2] at d; exact fun w => d (z_i.mpr w)
            have := (i5 t (by omega) h2 c).1
            exact ⟨by omega, fun w => absurd w (by omega)⟩
      · have e : fOd v (m + 1) = fOd v m := by rw [fOd, if_pos a, if_neg d]
        rw [e]
        rcases ih with ⟨i1, i2⟩ | ⟨F, i1, i2, i3, i4, i5⟩
        · exact absurd (Or.inl (by rw [i1]; decide)) d
        · refine Or.inr ⟨F, by omega, i2, i3, i4, fun t h1 h2 c => ?_⟩
          have d2 : zUs v F < zUs v (11 - m) := by
            refine z_i.mp (Classical.byContradiction (fun w => d (Or.inr ?_)))
            rw [i3, iN_nI i2]
            exact w
          by_cases q : t = 11 - m
          · subst q; exact ⟨by omega, fun _ => d2⟩
          · exact i5 t (by omega) h2 c
    · have hc : ¬ zCd v (11 - m) := fun q => a ⟨(hf (11 - m) (by omega)).1.resolve_left q.1, q.2⟩
      have e : fOd v (m + 1) = fOd v m := by rw [fOd, if_neg a]
      rw [e]
      rcases ih with ⟨i1, i2⟩ | ⟨F, i1, i2, i3, i4, i5⟩
      · refine Or.inl ⟨i1, fun t h1 h2 => ?_⟩
        by_cases q : t = 11 - m
        · subst q; exact hc
        · exact i2 t (by omega) h2
      · refine Or.inr ⟨F, by omega, i2, i3, i4, fun t h1 h2 c => ?_⟩
        by_cases q : t = 11 - m
        · subst q; exact absurd c hc
        · exact i5 t (by omega) h2 c
theorem fOd_eq2 {v : V} (hf : zFl v) : fOd v 12 = fOldest v := by
  unfold fOldest
  rcases fO_spec v 12 (Nat.le_refl _) with ⟨h1, h2⟩ | ⟨S, h1, h2, h3, h4, h5⟩
  · rcases fOd_spec hf 12 (Nat.le_refl _) with ⟨i1, i2⟩ | ⟨F, i1, i2, i3, i4, i5⟩
    · rw [h1, i1]
    · exact absurd i4 (h2 F i2)
  · rcases fOd_spec hf 12 (Nat.le_refl _) with ⟨i1, i2⟩ | ⟨F, i1, i2, i3, i4, i5⟩
    · exact absurd h4 (i2 S (by omega) h1)
    · have p := h5 F i2 i4
      have q := i5 S (by omega) h1 h4
      have e : S = F := by
        by_cases w : S < F
        · have := q.2 w; omega
        · by_cases w2 : F < S
          · have := p.2 w2; omega
          · omega
      rw [h2, i3, e]
