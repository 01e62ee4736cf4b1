/-! the text, sign by sign and line by line -/
theorem z_i {x y : Int32} : x < y ↔ x.toInt < y.toInt := Int32.lt_iff_toInt_lt
theorem z_inj {x y : Int32} (h : x.toInt = y.toInt) : x = y := Int32.toInt_inj.mp h
/-! the text, as the model reads it -/
theorem zCs_0 : zCs 0 = [107, 101, 121] := by decide +kernel
theorem zCs_1 : zCs 1 = [115] := by decide +kernel
theorem zCs_2 : zCs 2 = [115, 112, 97, 110] := by decide +kernel
theorem zCs_3 : zCs 3 = [116, 111, 112] := by decide +kernel
theorem zCs_4 : zCs 4 = [114, 111, 119, 115] := by decide +kernel
theorem zCs_5 : zCs 5 = [32] := by decide +kernel
theorem zCs_6 : zCs 6 = [59] := by decide +kernel
theorem fPass_t {x : V} {L A : Nat} {c : Int32} {cs : List Int32} (h : fSign x L A = c) : fPass x L A (c :: cs) = fPass x L (A + 1) cs := if_pos h
theorem fPass_f {x : V} {L A : Nat} {c : Int32} {cs : List Int32} (h : ¬ fSign x L A = c) : fPass x L A (c :: cs) = (false, A) := if_neg h
theorem fPass_e {x : V} {L A : Nat} : fPass x L A [] = (true, A) := rfl
theorem fPf {A : Nat} : ¬ (false, A).1 = true := Bool.false_ne_true
theorem fPt {A : Nat} : (true, A).1 = true := rfl
theorem fWord_m {x : V} {L A : Nat} : fWord x L A = if fSign x L A = 107 then fKey x L A else if fSign x L A = 115 then fWd x L A (zCs 2) 1 else if fSign x L A = 116 then fWd x L A (zCs 3) 2 else fWd x L A (zCs 4) 3 := by
  unfold fWord
  by_cases h : fSign x L A = 114
  · rw [if_pos h]
  · rw [if_neg h, show fWd x L A (zCs 4) 3 = (-1, A) from by
      unfold fWd
      rw [zCs_4, fPass_f h, if_neg fPf]]
theorem fSign_x {x : V} {L A : Nat} (h : A < L) : fSign x L A = x A := if_pos h
theorem fSign_e {x : V} {L A : Nat} (h : ¬ A < L) : fSign x L A = -1 := if_neg h
/-- what word() leaves -/
def zWordP (g : Mem) (v u : V) (L A : Nat) (r : Int32) (g' : Mem) : Prop := r = (if (fWord (g 19) L A).1 = -1 then 0 else 1) ∧ ∃ u' : V, g' = zM g 0 v u' ∧ (∀ j, j ≠ 3 → j ≠ 4 → u' j = u j) ∧ u' 3 = nI (fWord (g 19) L A).2 ∧ (¬ (fWord (g 19) L A).1 = -1 → u' 4 = (fWord (g 19) L A).1)
theorem z_s48 {y : Int32} (h1 : 48 ≤ y.toInt) (h2 : y.toInt ≤ 57) : (y - 48).toInt = y.toInt - 48 := by
  rw [Int32.toInt_sub, show (48 : Int32).toInt = 48 by decide, Int.bmod_eq_of_le (by omega) (by omega)]
theorem fDigit_y {x : V} {L A : Nat} (hA : A < L) (h1 : ¬ x A < 48) (h2 : ¬ 57 < x A) : fDigit x L A = x A - 48 := by
  unfold fDigit
  rw [fSign_x hA, if_neg h1, if_neg h2]
theorem fDigit_n {x : V} {L A : Nat} (h : ¬ (A < L ∧ ¬ x A < 48 ∧ ¬ 57 < x A)) : fDigit x L A = -1 := by
  unfold fDigit
  by_cases hA : A < L
  · rw [fSign_x hA]
    by_cases h1 : x A < 48
    · rw [if_pos h1]
    · rw [if_neg h1]
      by_cases h2 : 57 < x A
      · rw [if_pos h2]
      · exact absurd ⟨hA, h1, h2⟩ h
  · rw [fSign_e hA, if_pos (by decide)]
theorem z48 : (48 : Int32).toInt = 48 := by decide
theorem z57 : (57 : Int32).toInt = 57 := by decide
/-- a digit between b and t, as the class and as the model ask it -/
theorem fDg_n {x : V} {L A : Nat} {lo hi b t : Int32} (eb : b.toInt = lo.toInt + 48) (h0 : 0 ≤ lo.toInt) (et : t.toInt = hi.toInt + 48 ∨ (t.toInt = 57 ∧ 9 ≤ hi.toInt)) (h9 : t.toInt ≤ 57) (h : ¬ (A < L ∧ ¬ x A < b ∧ ¬ t < x A)) : fDigit x L A < lo ∨ hi < fDigit x L A := by
  by_cases q : A < L ∧ ¬ x A < 48 ∧ ¬ 57 < x A
  · obtain ⟨q1, q2, q3⟩ := q
    rw [fDigit_y q1 q2 q3]
    rw [z_i, z48] at q2
    rw [z_i, z57] at q3
    have e := z_s48 (y := x A) (by omega) (by omega)
    rw [z_i, z_i, e]
    by_cases w1 : x A < b
    · rw [z_i, eb] at w1; exact Or.inl (by omega)
    · by_cases w2 : t < x A
      · rw [z_i] at w2; refine Or.inr ?_; rcases et with k | k <;> omega
      · exact absurd ⟨q1, w1, w2⟩ h
  · rw [fDigit_n q]
    refine Or.inl ?_
    rw [z_i, show (-1 : Int32).toInt = -1 by decide]
    omega
theorem fDg_y {x : V} {L A : Nat} {lo hi b t : Int32} (eb : b.toInt = lo.toInt + 48) (h0 : 0 ≤ lo.toInt) (et : t.toInt = hi.toInt + 48 ∨ (t.toInt = 57 ∧ 9 ≤ hi.toInt)) (h9 : t.toInt ≤ 57) (h : A < L ∧ ¬ x A < b ∧ ¬ t < x A) : fDigit x L A = x A - 48 ∧ ¬ fDigit x L A < lo ∧ ¬ hi < fDigit x L A := by
  obtain ⟨q1, q2, q3⟩ := h
  rw [z_i, eb] at q2
  rw [z_i] at q3
  have a1 : ¬ x A < 48 := by rw [z_i, z48]; omega
  have a2 : ¬ 57 < x A := by rw [z_i, z57]; omega
  have e := z_s48 (y := x A) (by omega) (by omega)
  rw [fDigit_y q1 a1 a2, z_i, z_i, e]
  exact ⟨rfl, by omega, by rcases et with k | k <;> omega⟩
theorem fNum_a {x : V} {L A : Nat} {lo hi : Int32} (h : ¬ fSign x L A = 32) : fNum x L A lo hi = (-1, A) := by
  unfold fNum
  rw [zCs_5, fPass_f h, if_neg fPf]
theorem fNum_n {x : V} {L A : Nat} {lo hi : Int32} (h : fSign x L A = 32) (hd : fDigit x L (A + 1) < lo ∨ hi < fDigit x L (A + 1)) : fNum x L A lo hi = (-1, A + 1) := by
  unfold fNum
  rw [zCs_5, fPass_t h, fPass_e, if_pos fPt]
  dsimp only
  by_cases q : fDigit x L (A + 1) < lo
  · rw [if_pos q]
  · rw [if_neg q, if_pos (hd.resolve_left q)]
theorem fNum_y {x : V} {L A : Nat} {lo hi : Int32} (h : fSign x L A = 32) (h1 : ¬ fDigit x L (A + 1) < lo) (h2 : ¬ hi < fDigit x L (A + 1)) : fNum x L A lo hi = fNumL x L hi (L - (A + 1 + 1)) (A + 1 + 1) (fDigit x L (A + 1)) := by
  unfold fNum
  rw [zCs_5, fPass_t h, fPass_e, if_pos fPt]
  dsimp only
  rw [if_neg h1, if_neg h2]
theorem fNumL_z {x : V} {L A k : Nat} {hi d : Int32} (h : ¬ 0 < d) : fNumL x L hi k A d = (d, A) := by
  cases k with
  | zero => rfl
  | succ k => rw [fNumL, if_neg h]; split <;> rfl
theorem fNumL_d {x : V} {L A k : Nat} {hi d : Int32} (h : ¬ (A < L ∧ ¬ x A < 48 ∧ ¬ 57 < x A)) : fNumL x L hi k A d = (d, A) := by
  cases k with
  | zero => rfl
  | succ k =>
    rw [fNumL, fDigit_n h, if_pos (show (-1 : Int32) < 0 by decide)]
    split
    · split <;> rfl
    · rfl
theorem z_assoc (a b : Int32) : a + b - 48 = a + (b - 48) := by rw [Int32.sub_eq_add_neg, Int32.sub_eq_add_neg, Int32.add_assoc]
theorem fNumL_g {x : V} {L A k : Nat} {d : Int32} (hA : A < L) (h1 : ¬ x A < 48) (h2 : ¬ 57 < x A) (h : 9999 < 10 * d + x A - 48) : fNumL x L 9999 k A d = (d, A) := by
  cases k with
  | zero => rfl
  | succ k =>
    rw [fNumL, fDigit_y hA h1 h2, if_pos (show 9999 < 10 * d + (x A - 48) by rw [← z_assoc]; exact h), if_pos hA]
    by_cases q1 : 0 < d
    · rw [if_pos q1]
      by_cases q2 : x A - 48 < 0
      · rw [if_pos q2]
      · rw [if_neg q2]
    · rw [if_neg q1]
theorem fNumL_s {x : V} {L A : Nat} {d : Int32} (h0 : 0 < d) (hA : A < L) (h1 : ¬ x A < 48) (h2 : ¬ 57 < x A) (h : ¬ 9999 < 10 * d + x A - 48) : fNumL x L 9999 (L - A) A d = fNumL x L 9999 (L - (A + 1)) (A + 1) (10 * d + x A - 48) := by
  have hd := fDg_y (x := x) (L := L) (lo := 0) (hi := 9) (b := 48) (t := 57) (by decide) (by decide) (Or.inl (by decide)) (by decide) ⟨hA, h1, h2⟩
  rw [show L - A = (L - (A + 1)) + 1 by omega, fNumL, if_pos hA, if_pos h0, if_neg hd.2.1, hd.1, ← z_assoc, if_neg h]
theorem fNumL_3 {x : V} {L A k : Nat} {d : Int32} (h0 : ¬ d < 0) (h3 : ¬ 3 < d) : fNumL x L 3 k A d = (d, A) := by
  by_cases hd : 0 < d
  · by_cases q : A < L ∧ ¬ x A < 48 ∧ ¬ 57 < x A
    · cases k with
      | zero => rfl
      | succ k =>
        obtain ⟨q1, q2, q3⟩ := q
        have e := fDg_y (x := x) (L := L) (lo := 0) (hi := 9) (b := 48) (t := 57) (by decide) (by decide) (Or.inl (by decide)) (by decide) ⟨q1, q2, q3⟩
        rw [fNumL, if_pos q1, if_pos hd, if_neg e.2.1, if_pos]
        have a1 := e.2.1
        have a2 := e.2.2
        generalize fDigit x L A = y at a1 a2
        rw [z_i, show (0 : Int32).toInt = 0 by decide] at a1 hd h0
        rw [z_i, show (9 : Int32).toInt = 9 by decide] at a2
        rw [z_i, show (3 : Int32).toInt = 3 by decide] at h3 ⊢
        have m : (10 * d).toInt = 10 * d.toInt := by
          rw [Int32.toInt_mul, show (10 : Int32).toInt = 10 by decide, Int.bmod_eq_of_le (by omega) (by omega)]
        rw [Int32.toInt_add, m, Int.bmod_eq_of_le (by omega) (by omega)]
        omega
    · exact fNumL_d q
  · exact fNumL_z hd
theorem fLo_b {w : Int32} : (if fLo w = 0 then (48 : Int32) else 49).toInt = (fLo w).toInt + 48 ∧ 0 ≤ (fLo w).toInt := by
  rcases fLo_01 w with e | e <;> rw [e] <;> decide
/-- what reads() leaves -/
def zLineP (g : Mem) (v u : V) (L A : Nat) (r : Int32) (g' : Mem) : Prop := r = (if (fLine (g 19) L A).1 = true then 1 else 0) ∧ ∃ u' : V, g' = zM g 0 v u' ∧ (∀ j, j < 3 ∨ 6 < j → u' j = u j) ∧ u' 3 = nI (fLine (g 19) L A).2.1 ∧ ((fLine (g 19) L A).1 = true → u' 4 = (fLine (g 19) L A).2.2.1 ∧ u' 5 = (fLine (g 19) L A).2.2.2.1 ∧ u' 6 = (fLine (g 19) L A).2.2.2.2)
theorem fDigit_9 {x : V} {L A : Nat} : ¬ 9 < fDigit x L A := by
  by_cases q : A < L ∧ ¬ x A < 48 ∧ ¬ 57 < x A
  · exact (fDg_y (x := x) (L := L) (lo := 0) (hi := 9) (b := 48) (t := 57) (by decide) (by decide) (Or.inl (by decide)) (by decide) q).2.2
  · rw [fDigit_n q]; decide
theorem z_10 {d y : Int32} (h1 : 0 < d) (h2 : ¬ 9999 < d) (h3 : ¬ y < 0) (h4 : ¬ 9 < y) : 0 < 10 * d + y := by
  rw [z_i, show (0 : Int32).toInt = 0 by decide] at h1 h3
  rw [z_i, show (9999 : Int32).toInt = 9999 by decide] at h2
  rw [z_i, show (9 : Int32).toInt = 9 by decide] at h4
  rw [z_i, show (0 : Int32).toInt = 0 by decide]
  have m : (10 * d).toInt = 10 * d.toInt := by
    rw [Int32.toInt_mul, show (10 : Int32).toInt = 10 by decide, Int.bmod_eq_of_le (by omega) (by omega)]
  rw [Int32.toInt_add, m, Int.bmod_eq_of_le (by omega) (by omega)]
  omega
theorem z_p0 {d : Int32} (h : 0 < d) : ¬ d < 0 := fun q => by
  rw [z_i, show (0 : Int32).toInt = 0 by decide] at h q
  omega
theorem fNumL_9 {x : V} {L : Nat} : ∀ (k A : Nat) (d : Int32), ¬ d < 0 → ¬ 9999 < d → ¬ (fNumL x L 9999 k A d).1 < 0 ∧ ¬ 9999 < (fNumL x L 9999 k A d).1 ∧ (0 < d → 0 < (fNumL x L 9999 k A d).1)
  | 0, A, d, h1, h2 => ⟨h1, h2, fun q => q⟩
  | k + 1, A, d, h1, h2 => by
    by_cases a : A < L
    · by_cases b : 0 < d
      · by_cases e : fDigit x L A < 0
        · rw [fNumL, if_pos a, if_pos b, if_pos e]; exact ⟨h1, h2, fun q => q⟩
        · by_cases f : 9999 < 10 * d + fDigit x L A
          · rw [fNumL, if_pos a, if_pos b, if_neg e, if_pos f]; exact ⟨h1, h2, fun q => q⟩
          · rw [fNumL, if_pos a, if_pos b, if_neg e, if_neg f]
            have p0 := z_10 b h2 e fDigit_9
            have ih := fNumL_9 (x := x) (L := L) k (A + 1) _ (z_p0 p0) f
            exact ⟨ih.1, ih.2.1, fun _ => ih.2.2 p0⟩
      · rw [fNumL_z b]; exact ⟨h1, h2, fun q => q⟩
    · rw [fNumL, if_neg a]; exact ⟨h1, h2, fun q => q⟩
theorem z_m1 {y : Int32} (h : ¬ y < 0) : ¬ y = -1 := fun q => h (by rw [q]; decide)
theorem fPass_len {x : V} {L : Nat} : ∀ (cs : List Int32) (A : Nat), (fPass x L A cs).1 = true → (fPass x L A cs).2 = A + cs.length
  | [], A, _ => rfl
  | c :: cs, A, h => by
    by_cases q : fSign x L A = c
    · rw [fPass_t q] at h ⊢
      rw [fPass_len cs (A + 1) h, List.length_cons]
      omega
    · rw [fPass_f q] at h
      exact absurd h Bool.false_ne_true
theorem fWd_3 {x : V} {L A : Nat} {cs : List Int32} {w : Int32} (hc : 3 ≤ cs.length) (h : ¬ (fWd x L A cs w).1 = -1) : A + 3 ≤ (fWd x L A cs w).2 ∧ (fWd x L A cs w).1 = w := by
  unfold fWd at h ⊢
  by_cases q : (fPass x L A cs).1 = true
  · rw [if_pos q, fPass_len cs A q]
    exact ⟨by show A + 3 ≤ A + cs.length; omega, rfl⟩
  · rw [if_neg q] at h
    exact absurd rfl h
theorem fWord_3 {x : V} {L A : Nat} (h : ¬ (fWord x L A).1 = -1) : A + 3 ≤ (fWord x L A).2 ∧ ∃ W, W < 5 ∧ (fWord x L A).1 = nI W := by
  rw [fWord_m] at h ⊢
  by_cases q1 : fSign x L A = 107
  · rw [if_pos q1] at h ⊢
    unfold fKey at h ⊢
    by_cases a : (fPass x L A (zCs 0)).1 = true
    · rw [if_pos a] at h ⊢
      have e : (fPass x L A (zCs 0)).2 = A + 3 := by rw [fPass_len _ _ a, zCs_0]; rfl
      by_cases b : (fPass x L (fPass x L A (zCs 0)).2 (zCs 1)).1 = true
      · rw [if_pos b]
        refine ⟨?_, 4, by omega, rfl⟩
        show A + 3 ≤ (fPass x L (fPass x L A (zCs 0)).2 (zCs 1)).2
        rw [fPass_len _ _ b, e]
        omega
      · rw [if_neg b]
        refine ⟨?_, 0, by omega, rfl⟩
        show A + 3 ≤ (fPass x L (fPass x L A (zCs 0)).2 (zCs 1)).2
        rw [zCs_1] at b ⊢
        by_cases d : fSign x L (fPass x L A (zCs 0)).2 = 115
        · rw [fPass_t d, fPass_e] at b; exact absurd rfl b
        · rw [fPass_f d, e]; exact Nat.le_refl _
    · rw [if_neg a] at h; exact absurd rfl h
  · rw [if_neg q1] at h ⊢
    by_cases q2 : fSign x L A = 115
    · rw [if_pos q2] at h ⊢
      have e := fWd_3 (by rw [zCs_2]; decide) h
      exact ⟨e.1, 1, by omega, e.2⟩
    · rw [if_neg q2] at h ⊢
      by_cases q3 : fSign x L A = 116
      · rw [if_pos q3] at h ⊢
        have e := fWd_3 (by rw [zCs_3]; decide) h
        exact ⟨e.1, 2, by omega, e.2⟩
      · rw [if_neg q3] at h ⊢
        have e := fWd_3 (by rw [zCs_4]; decide) h
        exact ⟨e.1, 3, by omega, e.2⟩
theorem fNumL_m {x : V} {L : Nat} {hi : Int32} : ∀ (k A : Nat) (d : Int32), A ≤ (fNumL x L hi k A d).2
  | 0, A, d => Nat.le_refl _
  | k + 1, A, d => by
    rw [fNumL]
    by_cases a : A < L
    · rw [if_pos a]
      by_cases b : 0 < d
      · rw [if_pos b]
        by_cases e : fDigit x L A < 0
        · rw [if_pos e]; exact Nat.le_refl _
        · rw [if_neg e]
          by_cases f : hi < 10 * d + fDigit x L A
          · rw [if_pos f]; exact Nat.le_refl _
          · rw [if_neg f]; exact Nat.le_trans (Nat.le_succ A) (fNumL_m k (A + 1) _)
      · rw [if_neg b]; exact Nat.le_refl _
    · rw [if_neg a]; exact Nat.le_refl _
theorem fNum_2 {x : V} {L A : Nat} {lo hi : Int32} (h : ¬ (fNum x L A lo hi).1 = -1) : A + 2 ≤ (fNum x L A lo hi).2 ∧ fSign x L A = 32 ∧ ¬ fDigit x L (A + 1) < lo ∧ ¬ hi < fDigit x L (A + 1) ∧ fNum x L A lo hi = fNumL x L hi (L - (A + 1 + 1)) (A + 1 + 1) (fDigit x L (A + 1)) := by
  by_cases q : fSign x L A = 32
  · by_cases a : fDigit x L (A + 1) < lo
    · rw [fNum_n q (Or.inl a)] at h; exact absurd rfl h
    · by_cases b : hi < fDigit x L (A + 1)
      · rw [fNum_n q (Or.inr b)] at h; exact absurd rfl h
      · rw [fNum_y q a b]
        exact ⟨fNumL_m _ _ _, q, a, b, rfl⟩
  · rw [fNum_a q] at h; exact absurd rfl h
theorem z_T4 {d : Int32} (h0 : ¬ d < 0) (h3 : ¬ 3 < d) : ∃ T, T < 4 ∧ d = nI T := by
  obtain ⟨j, hj, e⟩ := nI_of h0
  subst e
  exact ⟨j, by have q := Nat.not_lt.mp (fun q => h3 (nI_lt (a := 3) (b := j) q hj)); omega, rfl⟩
/-- a line that is one -/
theorem fLine_t {x : V} {L A : Nat} (h : (fLine x L A).1 = true) : A + 7 ≤ (fLine x L A).2.1 ∧ okL (fLine x L A).2.2 := by
  by_cases q1 : (fWord x L A).1 = -1
  · rw [show fLine x L A = (false, (fWord x L A).2, 0, 0, 0) from if_pos q1] at h
    exact absurd h Bool.false_ne_true
  · obtain ⟨a1, W, hW, eW⟩ := fWord_3 q1
    by_cases q2 : (fNum x L (fWord x L A).2 0 3).1 = -1
    · rw [show fLine x L A = _ from (if_neg q1).trans (if_pos q2)] at h
      exact absurd h Bool.false_ne_true
    · obtain ⟨b1, -, b2, b3, b4⟩ := fNum_2 q2
      by_cases q3 : (fNum x L (fNum x L (fWord x L A).2 0 3).2 (fLo (fWord x L A).1) 9999).1 = -1
      · rw [show fLine x L A = _ from (if_neg q1).trans ((if_neg q2).trans (if_pos q3))] at h
        exact absurd h Bool.false_ne_true
      · obtain ⟨c1, -, c2, c3, c4⟩ := fNum_2 q3
        rw [show fLine x L A = _ from (if_neg q1).trans ((if_neg q2).trans (if_neg q3))]
        refine ⟨by show A + 7 ≤ (fNum x L (fNum x L (fWord x L A).2 0 3).2 (fLo (fWord x L A).1) 9999).2; omega, ⟨W, hW, eW⟩, ?_, ?_, ?_⟩
        · show ∃ T, T < 4 ∧ (fNum x L (fWord x L A).2 0 3).1 = nI T
          rw [b4, fNumL_3 b2 b3]
          exact z_T4 b2 b3
        · show ¬ (fNum x L (fNum x L (fWord x L A).2 0 3).2 (fLo (fWord x L A).1) 9999).1 < fLo (fWord x L A).1
          have d0 := z01 (fLo_01 _) c2
          have r := fNumL_9 (x := x) (L := L) (L - ((fNum x L (fWord x L A).2 0 3).2 + 1 + 1)) ((fNum x L (fWord x L A).2 0 3).2 + 1 + 1) _ d0 c3
          rw [c4]
          rcases fLo_01 (fWord x L A).1 with e | e
          · rw [e]; exact r.1
          · rw [e] at c2 ⊢
            have p := r.2.2 (by rw [z_i, show (0 : Int32).toInt = 0 by decide]; rw [z_i, show (1 : Int32).toInt = 1 by decide] at c2; omega)
            intro w
            rw [z_i, show (1 : Int32).toInt = 1 by decide] at w
            rw [z_i, show (0 : Int32).toInt = 0 by decide] at p
            omega
        · show ¬ 9999 < (fNum x L (fNum x L (fWord x L A).2 0 3).2 (fLo (fWord x L A).1) 9999).1
          rw [c4]
          exact (fNumL_9 _ _ _ (z01 (fLo_01 _) c2) c3).2.1
/-- one line, done -/
def mStep (v : V) (q : Int32 × Int32 × Int32) : Int32 × V := if q.1 = 3 then (0, fResize v (iN q.2.1) 0 q.2.2) else if q.1 = 4 then (0, fResize v (iN q.2.1) 1 q.2.2) else fAsk v (3 * iN q.2.1 + iN q.1) q.2.2
theorem fRun_s (q : Int32 × Int32 × Int32) (ls : List (Int32 × Int32 × Int32)) (x : Int32) (v : V) : fRun (q :: ls) x v = fRun ls (x + (mStep v q).1) (mStep v q).2 := by
  rw [fRun, mStep]
  by_cases a : q.1 = 3
  · rw [if_pos a, if_pos a, Int32.add_zero]
  · rw [if_neg a, if_neg a]
    by_cases b : q.1 = 4
    · rw [if_pos b, if_pos b, Int32.add_zero]
    · rw [if_neg b, if_neg b]
def zDoP (g : Mem) (v u : V) (q : Int32 × Int32 × Int32) (r : Int32) (g' : Mem) : Prop := r = (mStep v q).1 ∧ ∃ u' : V, g' = zM g 0 (mStep v q).2 u' ∧ ∀ j, j < 7 → u' j = u j
theorem fRd_n {x : V} {L k A : Nat} (h : ¬ (fLine x L A).1 = true) : fRd x L (k + 1) A = ([], some (fLine x L A).2.1) := by
  rw [fRd, if_neg h]
theorem fRd_e {x : V} {L k A : Nat} (h : (fLine x L A).1 = true) (hE : ¬ (fLine x L A).2.1 < L) : fRd x L (k + 1) A = ([(fLine x L A).2.2], none) := by
  rw [fRd, if_pos h, if_neg hE]
theorem fRd_f {x : V} {L k A : Nat} (h : (fLine x L A).1 = true) (hE : (fLine x L A).2.1 < L) (hs : ¬ fSign x L (fLine x L A).2.1 = 59) : fRd x L (k + 1) A = ([(fLine x L A).2.2], some (fLine x L A).2.1) := by
  rw [fRd, if_pos h, if_pos hE, zCs_6, fPass_f hs, if_neg fPf]
theorem fRd_y {x : V} {L k A : Nat} (h : (fLine x L A).1 = true) (hE : (fLine x L A).2.1 < L) (hs : fSign x L (fLine x L A).2.1 = 59) : fRd x L (k + 1) A = ((fLine x L A).2.2 :: (fRd x L k ((fLine x L A).2.1 + 1)).1, (fRd x L k ((fLine x L A).2.1 + 1)).2) := by
  rw [fRd, if_pos h, if_pos hE, zCs_6, fPass_t hs, fPass_e, if_pos fPt]
theorem fRd_le {x : V} {L : Nat} : ∀ (k A f : Nat), A ≤ L → (fRd x L k A).2 = some f → f ≤ L
  | 0, A, f, hA, h => by
    have e : some A = some f := h
    injection e with e
    omega
  | k + 1, A, f, hA, h => by
    have hb := (fLine_b (x := x) hA).2
    by_cases a : (fLine x L A).1 = true
    · by_cases b : (fLine x L A).2.1 < L
      · by_cases d : fSign x L (fLine x L A).2.1 = 59
        · rw [fRd_y a b d] at h
          exact fRd_le k _ f b h
        · rw [fRd_f a b d] at h
          injection h with e
          omega
      · rw [fRd_e a b] at h
        exact absurd h (by simp)
    · rw [fRd_n a] at h
      injection h with e
      omega
theorem fRd_okk {x : V} {L : Nat} : ∀ (k A : Nat), ∀ q, q ∈ (fRd x L k A).1 → okL q
  | 0, A, q, h => absurd h (List.not_mem_nil)
  | k + 1, A, q, h => by
    by_cases a : (fLine x L A).1 = true
    · have ho := (fLine_t a).2
      by_cases b : (fLine x L A).2.1 < L
      · by_cases d : fSign x L (fLine x L A).2.1 = 59
        · rw [fRd_y a b d] at h
          rcases List.mem_cons.mp h with e | e
          · rw [e]; exact ho
          · exact fRd_okk k _ q e
        · rw [fRd_f a b d] at h
          rw [List.mem_singleton.mp h]; exact ho
      · rw [fRd_e a b] at h
        rw [List.mem_singleton.mp h]; exact ho
    · rw [fRd_n a] at h
      exact absurd h (List.not_mem_nil)
theorem fRd_lenk {x : V} {L : Nat} : ∀ (k A : Nat), (fRd x L k A).1.length ≤ k
  | 0, A => Nat.le_refl _
  | k + 1, A => by
    by_cases a : (fLine x L A).1 = true
    · by_cases b : (fLine x L A).2.1 < L
      · by_cases d : fSign x L (fLine x L A).2.1 = 59
        · rw [fRd_y a b d]
          exact Nat.succ_le_succ (fRd_lenk k _)
        · rw [fRd_f a b d]
          exact Nat.succ_le_succ (Nat.zero_le _)
      · rw [fRd_e a b]
        exact Nat.succ_le_succ (Nat.zero_le _)
    · rw [fRd_n a]
      exact Nat.zero_le _
theorem fRd_ok (x : V) (L : Nat) : ∀ q, q ∈ (fRd x L 11 0).1 → okL q := fRd_okk 11 0
theorem fRd_len (x : V) (L : Nat) : (fRd x L 11 0).1.length ≤ 11 := fRd_lenk 11 0
