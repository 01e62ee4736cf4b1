/-! the model's own ways, and that they are the class's -/
theorem z_minc (q r : Int32) : (if q < r then q else r) = (if r < q then r else q) := by
  by_cases h1 : q < r
  · rw [if_pos h1, if_neg (fun h2 => by have := z_i.mp h1; have := z_i.mp h2; omega)]
  · rw [if_neg h1]
    by_cases h2 : r < q
    · rw [if_pos h2]
    · rw [if_neg h2]
      exact z_inj (by have a : ¬ q.toInt < r.toInt := fun h => h1 (z_i.mpr h); have b : ¬ r.toInt < q.toInt := fun h => h2 (z_i.mpr h); omega)
theorem z_12 (x : Int32) : (¬ 11 < x) ↔ x < 12 := by
  have e1 : (11 : Int32).toInt = 11 := by decide
  have e2 : (12 : Int32).toInt = 12 := by decide
  rw [z_i, z_i, e1, e2]; omega
theorem z_4 (x : Int32) : (¬ 3 < x) ↔ x < 4 := by
  have e1 : (3 : Int32).toInt = 3 := by decide
  have e2 : (4 : Int32).toInt = 4 := by decide
  rw [z_i, z_i, e1, e2]; omega
theorem z_3 (x : Int32) : (¬ 2 < x) ↔ x < 3 := by
  have e1 : (2 : Int32).toInt = 2 := by decide
  have e2 : (3 : Int32).toInt = 3 := by decide
  rw [z_i, z_i, e1, e2]; omega
theorem z_5 (x : Int32) : (¬ 4 < x) ↔ x < 5 := by
  have e1 : (4 : Int32).toInt = 4 := by decide
  have e2 : (5 : Int32).toInt = 5 := by decide
  rw [z_i, z_i, e1, e2]; omega
/-- keys and spread are at least 1 -/
def zKy (v : V) : Prop := ∀ t, t < 4 → ¬ v (4 + t) < 1
theorem zn0 {x : Int32} (h : ¬ x < 1) : ¬ x = 0 := fun q => h (by rw [q]; decide)
theorem fK_s {v : V} (hf : zFl v) {i : Nat} (hi : i < 12) : fK v (i + 1) = fK v i + v (13 + 11 * i + 0) := by
  rw [fK]
  rcases (hf i hi).1 with h | h
  · rw [if_pos h, h, Int32.add_zero]
  · rw [if_neg (by rw [h]; decide), h]
theorem fP_s {v : V} (hf : zFl v) {i : Nat} (hi : i < 12) : fP v (i + 1) = fP v i + v (13 + 11 * i + 0) * v (13 + 11 * i + 8) := by
  rw [fP]
  rcases (hf i hi).1 with h | h
  · rw [if_pos h, h, Int32.zero_mul, Int32.add_zero]
  · rw [if_neg (by rw [h]; decide)]
    rcases (hf i hi).2 with h2 | h2
    · rw [if_pos h2, h2, Int32.mul_zero, Int32.add_zero]
    · rw [if_neg (by rw [h2]; decide), h, h2]; rfl
theorem fKo_s {v : V} (hf : zFl v) {q n : Nat} (hq : 3 * q + n < 12) : fKo v q (n + 1) = fKo v q n + v (13 + 11 * (3 * q + n) + 0) := by
  rw [fKo]
  rcases (hf _ hq).1 with h | h
  · rw [if_pos h, h, Int32.add_zero]
  · rw [if_neg (by rw [h]; decide), h]
theorem z_abs1 (x : Int32) : (if x < 0 then -x else x) = fAbs x := by
  unfold fAbs
  by_cases h : x < 0
  · rw [if_pos h, if_neg (fun q => by have a := z_i.mp h; have b := Int32.le_iff_toInt_le.mp q; omega), Int32.zero_sub]
  · rw [if_neg h, if_pos (Int32.le_iff_toInt_le.mpr (by have a : ¬ x.toInt < (0 : Int32).toInt := fun q => h (z_i.mpr q); omega))]
/-- the oldest, looked for from the last shape down -/
def fOd (v : V) : Nat → Int32
  | 0 => -4
  | m + 1 => if v (13 + 11 * (11 - m) + 0) = 1 ∧ v (13 + 11 * (11 - m) + 8) = 0 then (if fOd v m < 0 ∨ ¬ v (13 + 11 * iN (fOd v m) + 7) < v (13 + 11 * (11 - m) + 7) then nI (11 - m) else fOd v m) else fOd v m
theorem fOd_nat (v : V) : ∀ m, m ≤ 12 → fOd v m = -4 ∨ ∃ F, 12 - m ≤ F ∧ F < 12 ∧ fOd v m = nI F
  | 0, _ => Or.inl rfl
  | m + 1, hm => by
    have ih : fOd v m = -4 ∨ ∃ F, 12 - (m + 1) ≤ F ∧ F < 12 ∧ fOd v m = nI F := by
      rcases fOd_nat v m (by omega) with h | ⟨F, h1, h2⟩
      · exact Or.inl h
      · exact Or.inr ⟨F, by omega, h2⟩
    unfold fOd
    by_cases h1 : v (13 + 11 * (11 - m) + 0) = 1 ∧ v (13 + 11 * (11 - m) + 8) = 0
    · rw [if_pos h1]
      by_cases h2 : fOd v m < 0 ∨ ¬ v (13 + 11 * iN (fOd v m) + 7) < v (13 + 11 * (11 - m) + 7)
      · rw [if_pos h2]; exact Or.inr ⟨11 - m, by omega, by omega, rfl⟩
      · rw [if_neg h2]; exact ih
    · rw [if_neg h1]; exact ih
theorem z_km {m : Nat} (h : m ≤ 11) : (11 : Int32) - nI m = nI (11 - m) := by
  rw [show (11 : Int32) = nI 11 from rfl, pk_sub h]
theorem z_kd {m : Nat} (h : m ≤ 11) : nI (11 - m) + Int32.ofInt (-1) = (11 : Int32) - nI (m + 1) := by
  rw [← z_km h, ← nI_1]
  apply z_inj
  rw [Int32.toInt_add, Int32.toInt_sub, Int32.toInt_sub, Int32.toInt_add]
  have e1 : (Int32.ofInt (-1)).toInt = -1 := by decide
  have e2 : (1 : Int32).toInt = 1 := by decide
  rw [e1, e2]
  simp only [Int.bmod_def]
  omega
theorem z_k0 {m : Nat} (h : m ≤ 12) : (11 : Int32) - nI m < 0 ↔ m = 12 := by
  rcases Nat.lt_or_ge m 12 with q | q
  · rw [z_km (by omega)]
    exact ⟨fun h => absurd h (nI_pos (by omega)), fun h => by omega⟩
  · have e : m = 12 := by omega
    subst e
    exact ⟨fun _ => rfl, fun _ => by decide⟩
theorem iN_nI {n : Nat} (h : n < 12) : iN (nI n) = n := iNn (by omega)
def zCd (v : V) (t : Nat) : Prop := ¬ v (13 + 11 * t + 0) = 0 ∧ v (13 + 11 * t + 8) = 0
def zUs (v : V) (t : Nat) : Int := (v (13 + 11 * t + 7)).toInt
theorem fO_spec (v : V) : ∀ n, n ≤ 12 → ((fO v n).1 = -4 ∧ ∀ t, t < n → ¬ zCd v t) ∨ ∃ S, S < n ∧ (fO v n).1 = nI S ∧ (fO v n).2 = v (13 + 11 * S + 7) ∧ zCd v S ∧ ∀ t, t < n → zCd v t → zUs v S ≤ zUs v t ∧ (t < S → zUs v S < zUs v t)
  | 0, _ => Or.inl ⟨rfl, fun t ht => absurd ht (by omega)⟩
  | n + 1, hn => by
    have ih := fO_spec v n (by omega)
    have keep : ¬ zCd v n → fO v (n + 1) = fO v n → (((fO v (n + 1)).1 = -4 ∧ ∀ t, t < n + 1 → ¬ zCd v t) ∨ ∃ S, S < n + 1 ∧ (fO v (n + 1)).1 = nI S ∧ (fO v (n + 1)).2 = v (13 + 11 * S + 7) ∧ zCd v S ∧ ∀ t, t < n + 1 → zCd v t → zUs v S ≤ zUs v t ∧ (t < S → zUs v S < zUs v t)) := by
      intro hc e
      rw [e]
      rcases ih with ⟨h1, h2⟩ | ⟨S, h1, h2, h3, h4, h5⟩
      · refine Or.inl ⟨h1, fun t ht => ?_⟩
        by_cases q : t = n
        · subst q; exact hc
        · exact h2 t (by omega)
      · refine Or.inr ⟨S, by omega, h2, h3, h4, fun t ht c => ?_⟩
        by_cases q : t = n
        · subst q; exact absurd c hc
        · exact h5 t (by omega) c
    by_cases a : v (13 + 11 * n + 0) = 0
    · exact keep (fun q => q.1 a) (by rw [fO, if_pos a])
    · by_cases b : v (13 + 11 * n + 8) = 0
      · by_cases d : (fO v n).1 = -4 ∨ v (13 + 11 * n + 7) < (fO v n).2
        · have e : fO v (n + 1) = (nI n, v (13 + 11 * n + 7)) := by rw [fO, if_neg a, if_pos b, if_pos d]
          rw [e]
          refine Or.inr ⟨n, by omega, rfl, rfl, ⟨a, b⟩, fun t ht c => ?_⟩
          rcases ih with ⟨h1, h2⟩ | ⟨S, h1, h2, h3, h4, h5⟩
          · by_cases q : t = n
            · subst q; exact ⟨Int.le_refl _, fun w => absurd w (by omega)⟩
            · exact absurd c (h2 t (by omega))
          · have d2 : zUs v n < zUs v S := by
              rcases d with d | d
              · rw [h2] at d; exact absurd d (nI_nm4 (by omega))
              · rw [h3] at d; exact z_i.mp d
            by_cases q : t = n
            · subst q; exact ⟨Int.le_refl _, fun w => absurd w (by omega)⟩
            · have := (h5 t (by omega) c).1
              exact ⟨by omega, fun _ => by omega⟩
        · have e : fO v (n + 1) = fO v n := by rw [fO, if_neg a, if_pos b, if_neg d]
          rw [e]
          rcases ih with ⟨h1, h2⟩ | ⟨S, h1, h2, h3, h4, h5⟩
          · exact absurd (Or.inl h1) d
          · refine Or.inr ⟨S, by omega, h2, h3, h4, fun t ht c => ?_⟩
            by_cases q : t = n
            · subst q
              have d2 : ¬ zUs v t < zUs v S := fun w => d (Or.inr (by rw [h3]; exact z_i.mpr w))
              exact ⟨by omega, fun w => absurd w (by omega)⟩
            · exact h5 t (by omega) c
      · exact keep (fun q => b q.2) (by rw [fO, if_neg a, if_neg b])
theorem fOd_spec {v : V} (hf : zFl v) : ∀ m, m ≤ 12 → (fOd v m = -4 ∧ ∀ t, 12 - m ≤ t → t < 12 → ¬ zCd v t) ∨ ∃ F, 12 - m ≤ F ∧ F < 12 ∧ fOd v m = nI F ∧ zCd v F ∧ ∀ t, 12 - m ≤ t → t < 12 → zCd v t → zUs v F ≤ zUs v t ∧ (t < F → zUs v F < zUs v t)
  | 0, _ => Or.inl ⟨rfl, fun t h1 h2 => absurd h2 (by omega)⟩
  | m + 1, hm => by
    have ih := fOd_spec hf m (by omega)
    by_cases a : v (13 + 11 * (11 - m) + 0) = 1 ∧ v (13 + 11 * (11 - m) + 8) = 0
    · have hc : zCd v (11 - m) := ⟨by rw [a.1]; decide, a.2⟩
      by_cases d : fOd v m < 0 ∨ ¬ v (13 + 11 * iN (fOd v m) + 7) < v (13 + 11 * (11 - m) + 7)
      · have e : fOd v (m + 1) = nI (11 - m) := by rw [fOd, if_pos a, if_pos d]
        rw [e]
        refine Or.inr ⟨11 - m, by omega, by omega, rfl, hc, fun t h1 h2 c => ?_⟩
        by_cases q : t = 11 - m
        · subst q; exact ⟨Int.le_refl _, fun w => absurd w (by omega)⟩
        · rcases ih with ⟨i1, i2⟩ | ⟨F, i1, i2, i3, i4, i5⟩
          · exact absurd c (i2 t (by omega) h2)
          · have d2 : ¬ zUs v F < zUs v (11 - m) := by
              rcases d with d | d
              · rw [i3] at d; exact absurd d (nI_pos (by omega))
              · rw [i3, iN_nI i2] at d; exact fun w => d (z_i.mpr w)
            have := (i5 t (by omega) h2 c).1
            exact ⟨by omega, fun w => absurd w (by omega)⟩
      · have e : fOd v (m + 1) = fOd v m := by rw [fOd, if_pos a, if_neg d]
        rw [e]
        rcases ih with ⟨i1, i2⟩ | ⟨F, i1, i2, i3, i4, i5⟩
        · exact absurd (Or.inl (by rw [i1]; decide)) d
        · refine Or.inr ⟨F, by omega, i2, i3, i4, fun t h1 h2 c => ?_⟩
          have d2 : zUs v F < zUs v (11 - m) := by
            refine z_i.mp (Classical.byContradiction (fun w => d (Or.inr ?_)))
            rw [i3, iN_nI i2]
            exact w
          by_cases q : t = 11 - m
          · subst q; exact ⟨by omega, fun _ => d2⟩
          · exact i5 t (by omega) h2 c
    · have hc : ¬ zCd v (11 - m) := fun q => a ⟨(hf (11 - m) (by omega)).1.resolve_left q.1, q.2⟩
      have e : fOd v (m + 1) = fOd v m := by rw [fOd, if_neg a]
      rw [e]
      rcases ih with ⟨i1, i2⟩ | ⟨F, i1, i2, i3, i4, i5⟩
      · refine Or.inl ⟨i1, fun t h1 h2 => ?_⟩
        by_cases q : t = 11 - m
        · subst q; exact hc
        · exact i2 t (by omega) h2
      · refine Or.inr ⟨F, by omega, i2, i3, i4, fun t h1 h2 c => ?_⟩
        by_cases q : t = 11 - m
        · subst q; exact absurd c hc
        · exact i5 t (by omega) h2 c
theorem fOd_eq {v : V} (hf : zFl v) : fOd v 12 = fOldest v := by
  unfold fOldest
  rcases fO_spec v 12 (Nat.le_refl _) with ⟨h1, h2⟩ | ⟨S, h1, h2, h3, h4, h5⟩
  · rcases fOd_spec hf 12 (Nat.le_refl _) with ⟨i1, i2⟩ | ⟨F, i1, i2, i3, i4, i5⟩
    · rw [h1, i1]
    · exact absurd i4 (h2 F i2)
  · rcases fOd_spec hf 12 (Nat.le_refl _) with ⟨i1, i2⟩ | ⟨F, i1, i2, i3, i4, i5⟩
    · exact absurd h4 (i2 S (by omega) h1)
    · have p := h5 F i2 i4
      have q := i5 S (by omega) h1 h4
      have e : S = F := by
        by_cases w : S < F
        · have := q.2 w; omega
        · by_cases w2 : F < S
          · have := p.2 w2; omega
          · omega
      rw [h2, i3, e]
theorem zFl_kill {v : V} {S : Nat} (hf : zFl v) : zFl (fKill v S) := by
  intro t ht
  unfold fKill
  rw [zu_n _ _ (show 13 + 11 * t + 0 ≠ 151 by omega), zu_n _ _ (show 13 + 11 * t + 8 ≠ 151 by omega), zu_n _ _ (show 13 + 11 * t + 8 ≠ 13 + 11 * S + 0 by omega)]
  refine ⟨?_, (hf t ht).2⟩
  by_cases h : t = S
  · subst h
    rw [zu_s]; exact Or.inl rfl
  · rw [zu_n _ _ (by omega)]; exact (hf t ht).1
/-- kept ones as a Nat -/
theorem fK_nat {v : V} : ∀ n, ∃ k, k ≤ n ∧ fK v n = nI k
  | 0 => ⟨0, Nat.le_refl _, rfl⟩
  | n + 1 => by
    obtain ⟨k, h1, h2⟩ := fK_nat (v := v) n
    rw [fK]
    by_cases h : v (13 + 11 * n + 0) = 0
    · rw [if_pos h]; exact ⟨k, by omega, h2⟩
    · rw [if_neg h, h2]; exact ⟨k + 1, by omega, nI_1 k⟩
theorem fK_kill0 {v : V} {S : Nat} : ∀ n, n ≤ S → S < 12 → fK (fKill v S) n = fK v n
  | 0, _, _ => rfl
  | n + 1, h, hS => by
    rw [fK, fK, fK_kill0 n (by omega) hS, fKill_o (by omega) (by omega)]
theorem fK_kill1 {v : V} {S : Nat} (hS : S < 12) (hk : ¬ v (13 + 11 * S + 0) = 0) : ∀ n, S < n → n ≤ 12 → fK (fKill v S) n + 1 = fK v n
  | 0, h, _ => absurd h (Nat.not_lt_zero _)
  | n + 1, h, hn => by
    rw [fK, fK]
    by_cases e : n = S
    · subst e
      have h0 : fKill v n (13 + 11 * n + 0) = 0 := by
        unfold fKill
        rw [zu_n _ _ (by omega), zu_s]
      rw [if_pos h0, if_neg hk, fK_kill0 n (Nat.le_refl _) hS]
    · have h1 : S < n := by omega
      have ih := fK_kill1 hS hk n h1 (by omega)
      rw [fKill_o (by omega) (by omega)]
      by_cases h2 : v (13 + 11 * n + 0) = 0
      · rw [if_pos h2, if_pos h2]; exact ih
      · rw [if_neg h2, if_neg h2, ← ih]
/-- the scalar 'gone' behind making room -/
def mGoneV (v : V) (s : Nat) (x : Int32) : Int32 := if fLacks v s = true ∧ ¬ fOldest v < 0 then (if x = -4 then fOldest v else x) else x
def mRoomU (v u : V) (s : Nat) : V := upd u 9 (mGoneV v s (u 9))
theorem fP_le {v : V} : ∀ n, n ≤ 12 → ∃ k q, k ≤ n ∧ q ≤ k ∧ fK v n = nI k ∧ fP v n = nI q
  | 0, _ => ⟨0, 0, Nat.le_refl _, Nat.le_refl _, rfl, rfl⟩
  | n + 1, hn => by
    obtain ⟨k, q, h1, h2, h3, h4⟩ := fP_le (v := v) n (by omega)
    rw [fK, fP, h3, h4]
    by_cases a : v (13 + 11 * n + 0) = 0
    · rw [if_pos a, if_pos a]; exact ⟨k, q, by omega, h2, rfl, rfl⟩
    · rw [if_neg a, if_neg a]
      by_cases b : v (13 + 11 * n + 8) = 0
      · rw [if_pos b]; exact ⟨k + 1, q, by omega, by omega, nI_1 k, rfl⟩
      · rw [if_neg b]; exact ⟨k + 1, q + 1, by omega, by omega, nI_1 k, nI_1 q⟩
theorem fP_eq {v : V} : ∀ n, n ≤ 12 → (∀ t, t < n → ¬ v (13 + 11 * t + 0) = 0 → ¬ v (13 + 11 * t + 8) = 0) → fK v n = fP v n
  | 0, _, _ => rfl
  | n + 1, hn, h => by
    rw [fK, fP, fP_eq n (by omega) (fun t ht => h t (by omega))]
    by_cases a : v (13 + 11 * n + 0) = 0
    · rw [if_pos a, if_pos a]
    · rw [if_neg a, if_neg a, if_neg (h n (by omega) a)]
theorem fO_none {v : V} : ∀ n, (fO v n).1 = -4 → ∀ t, t < n → n ≤ 12 → ¬ v (13 + 11 * t + 0) = 0 → ¬ v (13 + 11 * t + 8) = 0
  | 0, _, t, ht, _ => absurd ht (Nat.not_lt_zero _)
  | n + 1, h, t, ht, hn => by
    intro hk hp
    rw [fO] at h
    by_cases e : t = n
    · subst e
      rw [if_neg hk, if_pos hp] at h
      by_cases c : (fO v t).1 = -4 ∨ v (13 + 11 * t + 7) < (fO v t).2
      · rw [if_pos c] at h
        exact nI_nm4 (by omega) h
      · rw [if_neg c] at h
        exact c (Or.inl h)
    · have ih : (fO v n).1 = -4 → False := fun q => fO_none n q t (by omega) (by omega) hk hp
      by_cases a : v (13 + 11 * n + 0) = 0
      · rw [if_pos a] at h; exact ih h
      · rw [if_neg a] at h
        by_cases b : v (13 + 11 * n + 8) = 0
        · rw [if_pos b] at h
          by_cases c : (fO v n).1 = -4 ∨ v (13 + 11 * n + 7) < (fO v n).2
          · rw [if_pos c] at h
            exact nI_nm4 (by omega) h
          · rw [if_neg c] at h; exact ih h
        · rw [if_neg b] at h; exact ih h
theorem fOldest_none {v : V} (h : fOldest v < 0) : fK v 12 = fP v 12 := by
  have h4 : (fO v 12).1 = -4 := by
    rcases fO_nat v 12 with q | ⟨S, h1, h2, -⟩
    · exact q
    · exact absurd h (by unfold fOldest; rw [h2]; exact nI_pos (by omega))
  exact fP_eq 12 (Nat.le_refl _) (fun t ht => fO_none 12 h4 t ht (Nat.le_refl _))
/-- behind throwing out there is room, or all are pinned -/
theorem fCrowd_end {R : Nat} (hR : 1 ≤ R) (hR2 : R ≤ 12) : ∀ (n : Nat) (v : V), fK v 12 = nI (R - 1 + n) → R - 1 + n ≤ 12 → fK (fCrowd n v) 12 < nI R ∨ fOldest (fCrowd n v) < 0
  | 0, v, h, hn => Or.inl (by
    show fK v 12 < nI R
    rw [h]; exact nI_lt (by omega) (by omega))
  | n + 1, v, h, hn => by
    rw [fCrowd]
    by_cases a : fOldest v < 0
    · rw [if_pos a]; exact Or.inr a
    · rw [if_neg a]
      obtain ⟨S, hS, e, hk, -⟩ := fOldest_nat a
      rw [e, nI_clamp (by omega)]
      refine fCrowd_end hR hR2 n _ ?_ (by omega)
      have h1 := fK_kill1 hS hk 12 hS (Nat.le_refl _)
      obtain ⟨k, hk1, hk2⟩ := fK_nat (v := fKill v S) 12
      rw [hk2, h, nI_1] at h1
      have h2 := (nI_eq (by omega) (by omega)).mp h1
      rw [hk2, show k = R - 1 + n by omega]
theorem fLacks_n {v : V} {s R : Nat} (eR : v 11 = nI R) (hR : 1 ≤ R) (hR2 : R ≤ 12) (h : fLacks v s = true) : ∃ n, R - 1 + n ≤ 12 ∧ fK v 12 = nI (R - 1 + n) ∧ 1 ≤ n ∧ fRoom v s = fCrowd n v := by
  have h0 := h
  unfold fLacks at h
  rw [decide_eq_true_eq] at h
  obtain ⟨k, hk1, hk2⟩ := fK_nat (v := v) 12
  have h1 : R ≤ k := by
    rw [hk2, eR] at h
    exact Nat.not_lt.mp (fun q => h.2 (nI_lt q (by omega)))
  refine ⟨k - (R - 1), by omega, by rw [hk2]; congr 1; omega, by omega, ?_⟩
  unfold fRoom fDown
  rw [if_pos h0, hk2, eR, show nI R - 1 = nI (R - 1) by rw [show (1 : Int32) = nI 1 from rfl, pk_sub hR], pk_sub (by omega), nI_clamp (by omega)]
theorem fCrowd_k0 {t : Nat} (ht : t < 12) : ∀ (n : Nat) (v : V), v (13 + 11 * t + 0) = 0 → fCrowd n v (13 + 11 * t + 0) = 0
  | 0, _, h => h
  | n + 1, v, h => by
    rw [fCrowd]
    split
    · exact h
    · refine fCrowd_k0 ht n _ ?_
      unfold fKill
      rw [zu_n _ _ (by omega)]
      by_cases e : t = (fOldest v).toNatClampNeg
      · rw [e, zu_s]
      · rw [zu_n _ _ (by omega)]; exact h
theorem fRoom_k0 {v : V} {s : Nat} (hs : s < 12) (h : v (13 + 11 * s + 0) = 0) : fRoom v s (13 + 11 * s + 0) = 0 := by
  unfold fRoom
  split
  · exact fCrowd_k0 hs _ _ h
  · exact h
theorem fP_kill {v : V} {S : Nat} (hS : S < 12) (h8 : v (13 + 11 * S + 8) = 0) : ∀ n, n ≤ 12 → fP (fKill v S) n = fP v n
  | 0, _ => rfl
  | n + 1, hn => by
    have ih := fP_kill hS h8 n (by omega)
    have e8 : fKill v S (13 + 11 * n + 8) = v (13 + 11 * n + 8) := fKill_o (by omega) (by omega)
    by_cases e : n = S
    · subst e
      rw [fP, fP, ih, h8, if_pos rfl]
      rw [show fKill v n (13 + 11 * n + 0) = 0 from (zu_n _ _ (by omega)).trans (zu_s _ _ _), if_pos rfl]
      split <;> rfl
    · rw [fP, fP, ih, e8, show fKill v S (13 + 11 * n + 0) = v (13 + 11 * n + 0) from fKill_o (by omega) (by omega)]
theorem fCrowd_P : ∀ (n : Nat) (v : V), fP (fCrowd n v) 12 = fP v 12
  | 0, _ => rfl
  | n + 1, v => by
    rw [fCrowd]
    split
    · rfl
    · rename_i h
      obtain ⟨S, hS, eS, -, h8⟩ := fOldest_nat h
      rw [fCrowd_P n, eS, nI_clamp (by omega), fP_kill hS h8 12 (Nat.le_refl _)]
theorem fCould_r {v : V} {s : Nat} (hs : s < 12) : fCould (fRoom v s) s = fCould v s := by
  by_cases h : fLacks v s = true
  · have h0 : v (13 + 11 * s + 0) = 0 := by
      rw [fLacks, decide_eq_true_eq] at h; exact h.1
    unfold fCould
    rw [fRoom_k0 hs h0, h0, fRoom_o (by omega), show fP (fRoom v s) 12 = fP v 12 from by
      unfold fRoom fDown
      rw [if_pos h, fCrowd_P]]
  · rw [show fRoom v s = v from if_neg h]
theorem fCould_room {v : V} {s R : Nat} (eR : v 11 = nI R) (hR : 1 ≤ R) (hR2 : R ≤ 12) (h : fLacks v s = true) (hs : s < 12) : (fCould (fRoom v s) s = true) ↔ fK (fRoom v s) 12 < v 11 := by
  obtain ⟨n, h1, h2, h3, h4⟩ := fLacks_n eR hR hR2 h
  have h11 : fRoom v s 11 = v 11 := fRoom_o (Or.inl (by omega))
  have hk0 : fRoom v s (13 + 11 * s + 0) = 0 := fRoom_k0 hs (by rw [fLacks, decide_eq_true_eq] at h; exact h.1)
  unfold fCould
  rw [decide_eq_true_eq, h11]
  have e := fCrowd_end hR hR2 n v h2 h1
  rw [← h4] at e
  obtain ⟨k, q, a1, a2, a3, a4⟩ := fP_le (v := fRoom v s) 12 (Nat.le_refl _)
  constructor
  · rintro (c | c)
    · exact absurd hk0 c
    · rcases e with e | e
      · rw [eR]; exact e
      · rw [fOldest_none e]; exact c
  · intro c
    refine Or.inr ?_
    rw [a4]
    rw [a3] at c
    rw [eR] at c ⊢
    exact nI_lt (by have := (nI_ltI (by omega) (by omega)).mp c; omega) (by omega)
theorem fCould_no {v : V} {s R : Nat} (eR : v 11 = nI R) (hR2 : R ≤ 12) (h : ¬ fLacks v s = true) : fCould v s = true := by
  unfold fLacks at h
  unfold fCould
  rw [decide_eq_true_eq] at h ⊢
  by_cases c : v (13 + 11 * s + 0) = 0
  · refine Or.inr ?_
    obtain ⟨k, q, a1, a2, a3, a4⟩ := fP_le (v := v) 12 (Nat.le_refl _)
    have h2 : fK v 12 < v 11 := Classical.not_not.mp (fun q => h ⟨c, q⟩)
    rw [a4]
    rw [a3] at h2
    rw [eR] at h2 ⊢
    exact nI_lt (by have := (nI_ltI (by omega) (by omega)).mp h2; omega) (by omega)
  · exact Or.inl c
theorem fRoom_no {v : V} {s : Nat} (h : ¬ fLacks v s = true) : fRoom v s = v := if_neg h
theorem mRoomU_no {v u : V} {s : Nat} (h : ¬ (fLacks v s = true ∧ ¬ fOldest v < 0)) : mRoomU v u s = u := by
  unfold mRoomU mGoneV
  rw [if_neg h]
  exact zu_id rfl
theorem mRoomU_yes {v u : V} {s S : Nat} (h : fLacks v s = true) (hS : S < 12) (e : fOldest v = nI S) : mRoomU v u s = upd u 9 (if u 9 = -4 then nI S else u 9) ∧ ¬ mRoomU v u s 9 = -4 := by
  have h1 : mRoomU v u s = upd u 9 (if u 9 = -4 then nI S else u 9) := by
    unfold mRoomU mGoneV
    rw [if_pos ⟨h, by rw [e]; exact nI_pos (by omega)⟩, e]
  refine ⟨h1, ?_⟩
  rw [h1, zu_s]
  by_cases c : u 9 = -4
  · rw [if_pos c]; exact nI_nm4 (by omega)
  · rw [if_neg c]; exact c
theorem fPlace_m {v : V} {z : Nat} {w n lo hi : Int32} : upd (upd (upd (upd (upd (upd (upd (upd (upd (upd (upd v (13 + 11 * z + 0) 1) (13 + 11 * z + 1) w) (13 + 11 * z + 2) lo) (13 + 11 * z + 3) hi) (13 + 11 * z + 4) n) (13 + 11 * z + 5) (fCost v z w n)) (13 + 11 * z + 6) (v 145)) (13 + 11 * z + 7) (v 145)) (13 + 11 * z + 8) 0) (13 + 11 * z + 9) 0) (13 + 11 * z + 10) (v (z / 3)) = fPlace v z w n lo hi := by
  funext j
  unfold fPlace
  by_cases h : 13 + 11 * z ≤ j ∧ j < 13 + 11 * z + 11
  · obtain ⟨f, hf, rfl⟩ : ∃ f, f < 11 ∧ j = 13 + 11 * z + f := ⟨j - (13 + 11 * z), by omega, by omega⟩
    rcases (show f = 0 ∨ f = 1 ∨ f = 2 ∨ f = 3 ∨ f = 4 ∨ f = 5 ∨ f = 6 ∨ f = 7 ∨ f = 8 ∨ f = 9 ∨ f = 10 by omega) with rfl | rfl | rfl | rfl | rfl | rfl | rfl | rfl | rfl | rfl | rfl <;> simp [upd]
  · rw [zu_n _ _ (by omega), zu_n _ _ (by omega), zu_n _ _ (by omega), zu_n _ _ (by omega), zu_n _ _ (by omega), zu_n _ _ (by omega), zu_n _ _ (by omega), zu_n _ _ (by omega), zu_n _ _ (by omega), zu_n _ _ (by omega), zu_n _ _ (by omega), zu_n _ _ (by omega), zu_n _ _ (by omega), zu_n _ _ (by omega), zu_n _ _ (by omega), zu_n _ _ (by omega), zu_n _ _ (by omega), zu_n _ _ (by omega), zu_n _ _ (by omega), zu_n _ _ (by omega), zu_n _ _ (by omega), zu_n _ _ (by omega)]
def cpN (v w : V) : Nat → V
  | 0 => v
  | n + 1 => upd (cpN v w n) n (w n)
theorem cpN_at {v w : V} (j : Nat) : ∀ n, cpN v w n j = if j < n then w j else v j
  | 0 => by rw [if_neg (Nat.not_lt_zero _)]; rfl
  | n + 1 => by
    unfold cpN
    by_cases h1 : j = n
    · rw [h1, zu_s, if_pos (by omega)]
    · rw [zu_n _ _ h1, cpN_at j n]
      by_cases h2 : j < n
      · rw [if_pos h2, if_pos (by omega)]
      · rw [if_neg h2, if_neg (by omega)]
theorem cpN_eq {v w : V} (h : ∀ j, 160 ≤ j → v j = w j) : cpN v w 160 = w := by
  funext j
  rw [cpN_at]
  by_cases h1 : j < 160
  · rw [if_pos h1]
  · rw [if_neg h1]; exact h j (by omega)
theorem zM_18id (G : Mem) {T : Nat} (hT : T < 7) (x : V) : zM G T x (G 18) = zUp G (10 + T) x := by
  unfold zM
  rw [show G 18 = (zUp G (10 + T) x) 18 from (zUp_n _ _ (by omega)).symm, zUp_id]
theorem mRoomU_o {v u : V} {s j : Nat} (h : j ≠ 9) : mRoomU v u s j = u j := zu_n _ _ h
theorem zFl_co {v w : V} (h : ∀ j, 13 ≤ j → j < 145 → w j = v j) (hf : zFl v) : zFl w := by
  intro t ht
  rw [h _ (by omega) (by omega), h _ (by omega) (by omega)]
  exact hf t ht
theorem fK_co {v w : V} (h : ∀ j, 13 ≤ j → j < 145 → w j = v j) : ∀ n, n ≤ 12 → fK w n = fK v n
  | 0, _ => rfl
  | n + 1, hn => by rw [fK, fK, fK_co h n (by omega), h _ (by omega) (by omega)]
theorem fO_co {v w : V} (h : ∀ j, 13 ≤ j → j < 145 → w j = v j) : ∀ n, n ≤ 12 → fO w n = fO v n
  | 0, _ => rfl
  | n + 1, hn => by rw [fO, fO, fO_co h n (by omega), h _ (by omega) (by omega), h _ (by omega) (by omega), h _ (by omega) (by omega)]
theorem fOldest_co {v w : V} (h : ∀ j, 13 ≤ j → j < 145 → w j = v j) : fOldest w = fOldest v := by
  unfold fOldest
  rw [fO_co h 12 (Nat.le_refl _)]
theorem fLacks_co {v w : V} {s : Nat} (hs : s < 12) (h : ∀ j, 13 ≤ j → j < 145 → w j = v j) (h11 : w 11 = v 11) : fLacks w s = fLacks v s := by
  unfold fLacks
  rw [fK_co h 12 (Nat.le_refl _), h11, h _ (by omega) (by omega)]
theorem mGone_first {v w : V} {s : Nat} (hs : s < 12) (h : ∀ j, 13 ≤ j → j < 145 → w j = v j) (h11 : w 11 = v 11) : mGoneV w s (-4) = fFirst v s := by
  unfold mGoneV fFirst
  rw [fLacks_co hs h h11, fOldest_co h]
  by_cases a : fLacks v s = true
  · by_cases b : fOldest v < 0
    · rw [if_neg (fun q => q.2 b), if_pos a]
      rcases fO_nat v 12 with q | ⟨S, h1, h2, -⟩
      · exact q.symm
      · exact absurd b (by unfold fOldest; rw [h2]; exact nI_pos (by omega))
    · rw [if_pos ⟨a, b⟩, if_pos rfl, if_pos a]
  · rw [if_neg (fun q => a q.1), if_neg a]
theorem fAsk_h1 {v : V} {z : Nat} {n : Int32} (hz : z < 12) (hw : fWhy v z n = 0) : (fAsk v z n).1 = fCost v z (v (13 + 11 * z + 1)) n := by
  unfold fAsk fAskQ
  rw [if_pos hw]
  unfold fHit
  show fCost (upd v 145 (v 145 + 1)) z (upd v 145 (v 145 + 1) (13 + 11 * z + 1)) n = _
  rw [zu_n _ _ (by omega)]
  exact fCost_co hz (fun j hj => zu_n _ _ (by omega))
theorem fAsk_hv {v : V} {z : Nat} {n : Int32} (hz : z < 12) (hw : fWhy v z n = 0) : (fAsk v z n).2 = (fAskQ v z (fCost v z (v (13 + 11 * z + 1)) n, if fDear v z (fCost v z (v (13 + 11 * z + 1)) n) = true then upd (upd (upd (upd (upd (upd v 145 (v 145 + 1)) 146 (v 146 + 1)) (13 + 11 * z + 9) (v (13 + 11 * z + 9) + 1)) (13 + 11 * z + 7) (v 145 + 1)) (13 + 11 * z + 0) 0) 150 (v 150 + 1) else upd (upd (upd (upd v 145 (v 145 + 1)) 146 (v 146 + 1)) (13 + 11 * z + 9) (v (13 + 11 * z + 9) + 1)) (13 + 11 * z + 7) (v 145 + 1))).2 := by
  unfold fAsk
  rw [if_pos hw]
  unfold fHit
  have e1 : (upd v 145 (v 145 + 1)) (13 + 11 * z + 1) = v (13 + 11 * z + 1) := zu_n _ _ (by omega)
  have e2 : fCost (upd v 145 (v 145 + 1)) z (v (13 + 11 * z + 1)) n = fCost v z (v (13 + 11 * z + 1)) n := fCost_co hz (fun j hj => zu_n _ _ (by omega))
  have e3 : fHitV (upd v 145 (v 145 + 1)) z = upd (upd (upd (upd v 145 (v 145 + 1)) 146 (v 146 + 1)) (13 + 11 * z + 9) (v (13 + 11 * z + 9) + 1)) (13 + 11 * z + 7) (v 145 + 1) := by
    unfold fHitV
    rw [zu_n _ _ (show 146 ≠ 145 by decide), zu_n _ _ (show 13 + 11 * z + 9 ≠ 145 by omega), zu_s]
  have e4 : ∀ x, fDear (upd (upd (upd (upd v 145 (v 145 + 1)) 146 (v 146 + 1)) (13 + 11 * z + 9) (v (13 + 11 * z + 9) + 1)) (13 + 11 * z + 7) (v 145 + 1)) z x = fDear v z x := by
    intro x
    unfold fDear
    rw [zu_n _ _ (show 12 ≠ 13 + 11 * z + 7 by omega), zu_n _ _ (show 12 ≠ 13 + 11 * z + 9 by omega), zu_n _ _ (show 12 ≠ 146 by omega), zu_n _ _ (show 12 ≠ 145 by omega), zu_n _ _ (show 13 + 11 * z + 5 ≠ 13 + 11 * z + 7 by omega), zu_n _ _ (show 13 + 11 * z + 5 ≠ 13 + 11 * z + 9 by omega), zu_n _ _ (show 13 + 11 * z + 5 ≠ 146 by omega), zu_n _ _ (show 13 + 11 * z + 5 ≠ 145 by omega)]
  have e5 : (upd v 145 (v 145 + 1)) 150 = v 150 := zu_n _ _ (by decide)
  rw [e1, e2, e3, e4, e5]
theorem fAsk_h2 {v : V} {z : Nat} {n : Int32} (hz : z < 12) (hw : fWhy v z n = 0) (hd : fDear v z (fCost v z (v (13 + 11 * z + 1)) n) = true) : upd (upd (upd (upd (upd (upd (upd (upd (upd v 145 (v 145 + 1)) 146 (v 146 + 1)) (13 + 11 * z + 7) (v 145 + 1)) (13 + 11 * z + 9) (v (13 + 11 * z + 9) + 1)) (13 + 11 * z + 0) 0) 150 (v 150 + 1)) 148 (v 148 + fCost v z (v (13 + 11 * z + 1)) n)) (152 + z / 3) (v (152 + z / 3) + 1)) (156 + z / 3) (v (156 + z / 3) + fCost v z (v (13 + 11 * z + 1)) n) = (fAsk v z n).2 := by
  rw [fAsk_hv hz hw, if_pos hd]
  unfold fAskQ
  dsimp only
  rw [zu_c _ _ _ (show 13 + 11 * z + 7 ≠ 13 + 11 * z + 9 by omega)]
  have e : ∀ j, j ≠ 145 → j ≠ 146 → j ≠ 150 → (j < 13 ∨ 145 ≤ j) → upd (upd (upd (upd (upd (upd v 145 (v 145 + 1)) 146 (v 146 + 1)) (13 + 11 * z + 9) (v (13 + 11 * z + 9) + 1)) (13 + 11 * z + 7) (v 145 + 1)) (13 + 11 * z + 0) 0) 150 (v 150 + 1) j = v j := fun j h1 h2 h3 h4 => by
    rw [zu_n _ _ h3, zu_n _ _ (by omega), zu_n _ _ (by omega), zu_n _ _ (by omega), zu_n _ _ h2, zu_n _ _ h1]
  rw [e 148 (by omega) (by omega) (by omega) (by omega), e (152 + z / 3) (by omega) (by omega) (by omega) (by omega), e (156 + z / 3) (by omega) (by omega) (by omega) (by omega)]
theorem fAsk_h3 {v : V} {z : Nat} {n : Int32} (hz : z < 12) (hw : fWhy v z n = 0) (hd : ¬ fDear v z (fCost v z (v (13 + 11 * z + 1)) n) = true) (hk : v (13 + 11 * z + 0) = 1) : upd (upd (upd (upd (upd (upd (upd (upd (upd v 145 (v 145 + 1)) 146 (v 146 + 1)) (13 + 11 * z + 7) (v 145 + 1)) (13 + 11 * z + 9) (v (13 + 11 * z + 9) + 1)) (13 + 11 * z + 0) 1) 150 (v 150 + 0)) 148 (v 148 + fCost v z (v (13 + 11 * z + 1)) n)) (152 + z / 3) (v (152 + z / 3) + 1)) (156 + z / 3) (v (156 + z / 3) + fCost v z (v (13 + 11 * z + 1)) n) = (fAsk v z n).2 := by
  rw [fAsk_hv hz hw, if_neg hd]
  unfold fAskQ
  dsimp only
  rw [zu_c _ _ _ (show 13 + 11 * z + 7 ≠ 13 + 11 * z + 9 by omega)]
  have e : ∀ j, j ≠ 145 → j ≠ 146 → (j < 13 ∨ 145 ≤ j ∨ j = 13 + 11 * z + 0) → upd (upd (upd (upd v 145 (v 145 + 1)) 146 (v 146 + 1)) (13 + 11 * z + 9) (v (13 + 11 * z + 9) + 1)) (13 + 11 * z + 7) (v 145 + 1) j = v j := fun j h1 h2 h4 => by
    rw [zu_n _ _ (by omega), zu_n _ _ (by omega), zu_n _ _ h2, zu_n _ _ h1]
  rw [zu_id (i := 13 + 11 * z + 0) (x := 1) (by rw [e _ (by omega) (by omega) (by omega)]; exact hk), Int32.add_zero, zu_id (i := 150) (x := v 150) (e 150 (by omega) (by omega) (by omega)), e 148 (by omega) (by omega) (by omega), e (152 + z / 3) (by omega) (by omega) (by omega), e (156 + z / 3) (by omega) (by omega) (by omega)]
theorem fAsk_m1 {v : V} {z : Nat} {n : Int32} (hz : z < 12) (hw : ¬ fWhy v z n = 0) : (fAsk v z n).1 = fCost v z (fBest v z n) n + v 8 := by
  unfold fAsk fAskQ
  rw [if_neg hw]
  unfold fMiss
  dsimp only
  rw [zu_n _ _ (show 8 ≠ 145 by decide), fBest_co hz (fun j hj => zu_n _ _ (by omega)), fCost_co hz (fun j hj => zu_n _ _ (by omega))]
/-- the row behind a miss, ahead of making room -/
def mMiss (v : V) : V := upd (upd (upd v 145 (v 145 + 1)) 147 (v 147 + 1)) 149 (v 149 + v 8)
theorem fMissA_m (v : V) (z : Nat) : fMissA (upd v 145 (v 145 + 1)) z = fRoom (mMiss v) z := by
  unfold fMissA mMiss
  rw [zu_n _ _ (show 147 ≠ 145 by decide), zu_n _ _ (show 149 ≠ 145 by decide), zu_n _ _ (show 8 ≠ 145 by decide)]
theorem mMiss_o {v : V} {j : Nat} (h1 : j ≠ 145) (h2 : j ≠ 147) (h3 : j ≠ 149) : mMiss v j = v j := by
  unfold mMiss
  rw [zu_n _ _ h3, zu_n _ _ h2, zu_n _ _ h1]
theorem fAsk_m2 {v : V} {z : Nat} {n : Int32} (hz : z < 12) (hw : ¬ fWhy v z n = 0) (h9 : ¬ v 9 < 1) : (fAsk v z n).2 = (fAskQ v z (fCost v z (fBest v z n) n + v 8, if fCould (fRoom (mMiss v) z) z = true then fPlace (fRoom (mMiss v) z) z (fBest v z n) n (n / v 9) (n * v 9) else fRoom (mMiss v) z)).2 := by
  unfold fAsk
  rw [if_neg hw]
  unfold fMiss fMissV
  rw [fMissA_m, zu_n _ _ (show 9 ≠ 145 by decide), zu_n _ _ (show 8 ≠ 145 by decide), fBest_co hz (fun j hj => zu_n _ _ (by omega)), fCost_co hz (fun j hj => zu_n _ _ (by omega)), fQuo, if_neg h9]
/-- what asks() leaves -/
def zAskP (g : Mem) (B : Nat) (v u : V) (z : Nat) (n : Int32) (r : Int32) (g' : Mem) : Prop := r = (fAsk v z n).1 ∧ ∃ u' : V, g' = zM g B (fAsk v z n).2 u' ∧ (∀ j, j < 7 → u' j = u j) ∧
  u' 7 = (if fWhy v z n = 0 then v (13 + 11 * z + 1) else fBest v z n) ∧ u' 8 = (if fWhy v z n = 0 ∧ fDear v z (fCost v z (v (13 + 11 * z + 1)) n) = true then 1 else 0) ∧ u' 9 = (if fWhy v z n = 0 then -4 else fFirst v z)
theorem fWhy_kept {v : V} {z : Nat} {n : Int32} (h : fWhy v z n = 0) : ¬ v (13 + 11 * z + 0) = 0 := by
  intro q
  unfold fWhy at h
  rw [if_pos q] at h
  exact absurd h (by decide)
/-- the patience and the guesses of a row -/
def zGu (v : V) : Prop := (0 ≤ (v 12).toInt ∧ (v 12).toInt ≤ 20) ∧ ∀ z, z < 12 → 0 ≤ (v (13 + 11 * z + 5)).toInt ∧ (v (13 + 11 * z + 5)).toInt ≤ 1000000
theorem lg_pos {x y : Int64} : (0 < lg_cmp x y) ↔ y < x := by
  unfold lg_cmp
  by_cases h : x > y
  · rw [if_pos h]; exact ⟨fun _ => h, fun _ => by decide⟩
  · rw [if_neg h]
    refine ⟨fun q => ?_, fun q => absurd q h⟩
    by_cases e : x = y
    · rw [if_pos e] at q; exact absurd q (by decide)
    · rw [if_neg e] at q; exact absurd q (by decide)
theorem z_mulb {a b : Int} (h1 : 0 ≤ a) (h2 : a ≤ 20) (h3 : 0 ≤ b) (h4 : b ≤ 1000000) : 0 ≤ a * b ∧ a * b ≤ 20000000 := by
  refine ⟨Int.mul_nonneg h1 h3, ?_⟩
  have p := Int.mul_le_mul h2 h4 h3 (by decide : (0 : Int) ≤ 20)
  omega
theorem z_dear {v : V} {z : Nat} {x : Int32} (hg : zGu v) (hz : z < 12) : (0 < lg_cmp x.toInt64 ((v 12).toInt64 * (v (13 + 11 * z + 5)).toInt64)) ↔ fDear v z x = true := by
  rw [lg_pos, fDear, decide_eq_true_eq]
  obtain ⟨⟨h1, h2⟩, hq⟩ := hg
  obtain ⟨h3, h4⟩ := hq z hz
  generalize v (13 + 11 * z + 5) = b at h3 h4 ⊢
  generalize v 12 = a at h1 h2 ⊢
  have p := z_mulb h1 h2 h3 h4
  rw [z_i, Int64.lt_iff_toInt_lt, Int64.toInt_mul, Int32.toInt_toInt64, Int32.toInt_toInt64, Int32.toInt_toInt64, Int32.toInt_mul, Int.bmod_eq_of_le (by omega) (by omega), Int.bmod_eq_of_le (by omega) (by omega)]
