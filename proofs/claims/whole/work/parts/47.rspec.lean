theorem fPass_len {x : V} {L : Nat} : ∀ (cs : List Int32) (A : Nat), (fPass x L A cs).1 = true → (fPass x L A cs).2 = A + cs.length
  | [], A, _ => rfl
  | c :: cs, A, h => by
    by_cases q : fSign x L A = c
    · rw [fPass_t q] at h ⊢
      rw [fPass_len cs (A + 1) h, List.length_cons]
      omega
    · rw [fPass_f q] at h
      exact absurd h Bool.false_ne_true
theorem fWd_3 {x : V} {L A : Nat} {cs : List Int32} {w : Int32} (hc : 3 ≤ cs.length) (h : ¬ (fWd x L A cs w).1 = -1) : A + 3 ≤ (fWd x L A cs w).2 ∧ (fWd x L A cs w).1 = w := by
  unfold fWd at h ⊢
  by_cases q : (fPass x L A cs).1 = true
  · rw [if_pos q, fPass_len cs A q]
    exact ⟨by show A + 3 ≤ A + cs.length; omega, rfl⟩
  · rw [if_neg q] at h
    exact absurd rfl h
theorem fWord_3 {x : V} {L A : Nat} (h : ¬ (fWord x L A).1 = -1) : A + 3 ≤ (fWord x L A).2 ∧ ∃ W, W < 5 ∧ (fWord x L A).1 = nI W := by
  rw [fWord_m] at h ⊢
  by_cases q1 : fSign x L A = 107
  · rw [if_pos q1] at h ⊢
    unfold fKey at h ⊢
    by_cases a : (fPass x L A (zCs 0)).1 = true
    · rw [if_pos a] at h ⊢
      have e : (fPass x L A (zCs 0)).2 = A + 3 := by rw [fPass_len _ _ a, zCs_0]; rfl
      by_cases b : (fPass x L (fPass x L A (zCs 0)).2 (zCs 1)).1 = true
      · rw [if_pos b]
        refine ⟨?_, 4, by omega, rfl⟩
        show A + 3 ≤ (fPass x L (fPass x L A (zCs 0)).2 (zCs 1)).2
        rw [fPass_len _ _ b, e]
        omega
      · rw [if_neg b]
        refine ⟨?_, 0, by omega, rfl⟩
        show A + 3 ≤ (fPass x L (fPass x L A (zCs 0)).2 (zCs 1)).2
        rw [zCs_1] at b ⊢
        by_cases d : fSign x L (fPass x L A (zCs 0)).2 = 115
        · rw [fPass_t d, fPass_e] at b; exact absurd rfl b
        · rw [fPass_f d, e]; exact Nat.le_refl _
    · rw [if_neg a] at h; exact absurd rfl h
  · rw [if_neg q1] at h ⊢
    by_cases q2 : fSign x L A = 115
    · rw [if_pos q2] at h ⊢
      have e := fWd_3 (by rw [zCs_2]; decide) h
      exact ⟨e.1, 1, by omega, e.2⟩
    · rw [if_neg q2] at h ⊢
      by_cases q3 : fSign x L A = 116
      · rw [if_pos q3] at h ⊢
        have e := fWd_3 (by rw [zCs_3]; decide) h
        exact ⟨e.1, 2, by omega, e.2⟩
      · rw [if_neg q3] at h ⊢
        have e := fWd_3 (by rw [zCs_4]; decide) h
        exact ⟨e.1, 3, by omega, e.2⟩
theorem fNumL_m {x : V} {L : Nat} {hi : Int32} : ∀ (k A : Nat) (d : Int32), A ≤ (fNumL x L hi k A d).2
  | 0, A, d => Nat.le_refl _
  | k + 1, A, d => by
    rw [fNumL]
    by_cases a : A < L
    · rw [if_pos a]
      by_cases b : 0 < d
      · rw [if_pos b]
        by_cases e : fDigit x L A < 0
        · rw [if_pos e]; exact Nat.le_refl _
        · rw [if_neg e]
          by_cases f : hi < 10 * d + fDigit x L A
          · rw [if_pos f]; exact Nat.le_refl _
          · rw [if_neg f]; exact Nat.le_trans (Nat.le_succ A) (fNumL_m k (A + 1) _)
      · rw [if_neg b]; exact Nat.le_refl _
    · rw [if_neg a]; exact Nat.le_refl _
theorem fNum_2 {x : V} {L A : Nat} {lo hi : Int32} (h : ¬ (fNum x L A lo hi).1 = -1) : A + 2 ≤ (fNum x L A lo hi).2 ∧ fSign x L A = 32 ∧ ¬ fDigit x L (A + 1) < lo ∧ ¬ hi < fDigit x L (A + 1) ∧ fNum x L A lo hi = fNumL x L hi (L - (A + 1 + 1)) (A + 1 + 1) (fDigit x L (A + 1)) := by
  by_cases q : fSign x L A = 32
  · by_cases a : fDigit x L (A + 1) < lo
    · rw [fNum_n q (Or.inl a)] at h; exact absurd rfl h
    · by_cases b : hi < fDigit x L (A + 1)
      · rw [fNum_n q (Or.inr b)] at h; exact absurd rfl h
      · rw [fNum_y q a b]
        exact ⟨fNumL_m _ _ _, q, a, b, rfl⟩
  · rw [fNum_a q] at h; exact absurd rfl h
theorem z_T4 {d : Int32} (h0 : ¬ d < 0) (h3 : ¬ 3 < d) : ∃ T, T < 4 ∧ d = nI T := by
  obtain ⟨j, hj, e⟩ := nI_of h0
  subst e
  exact ⟨j, by have q := Nat.not_lt.mp (fun q => h3 (nI_lt (a := 3) (b := j) q hj)); omega, rfl⟩
/-- a line that is one -/
theorem fLine_t {x : V} {L A : Nat} (h : (fLine x L A).1 = true) : A + 7 ≤ (fLine x L A).2.1 ∧ okL (fLine x L A).2.2 := by
  by_cases q1 : (fWord x L A).1 = -1
  · rw [show fLine x L A = (false, (fWord x L A).2, 0, 0, 0) from if_pos q1] at h
    exact absurd h Bool.false_ne_true
  · obtain ⟨a1, W, hW, eW⟩ := fWord_3 q1
    by_cases q2 : (fNum x L (fWord x L A).2 0 3).1 = -1
    · rw [show fLine x L A = _ from (if_neg q1).trans (if_pos q2)] at h
      exact absurd h Bool.false_ne_true
    · obtain ⟨b1, -, b2, b3, b4⟩ := fNum_2 q2
      by_cases q3 : (fNum x L (fNum x L (fWord x L A).2 0 3).2 (fLo (fWord x L A).1) 9999).1 = -1
      · rw [show fLine x L A = _ from (if_neg q1).trans ((if_neg q2).trans (if_pos q3))] at h
        exact absurd h Bool.false_ne_true
      · obtain ⟨c1, -, c2, c3, c4⟩ := fNum_2 q3
        rw [show fLine x L A = _ from (if_neg q1).trans ((if_neg q2).trans (if_neg q3))]
        refine ⟨by show A + 7 ≤ (fNum x L (fNum x L (fWord x L A).2 0 3).2 (fLo (fWord x L A).1) 9999).2; omega, ⟨W, hW, eW⟩, ?_, ?_, ?_⟩
        · show ∃ T, T < 4 ∧ (fNum x L (fWord x L A).2 0 3).1 = nI T
          rw [b4, fNumL_3 b2 b3]
          exact z_T4 b2 b3
        · show ¬ (fNum x L (fNum x L (fWord x L A).2 0 3).2 (fLo (fWord x L A).1) 9999).1 < fLo (fWord x L A).1
          have d0 := z01 (fLo_01 _) c2
          have r := fNumL_9 (x := x) (L := L) (L - ((fNum x L (fWord x L A).2 0 3).2 + 1 + 1)) ((fNum x L (fWord x L A).2 0 3).2 + 1 + 1) _ d0 c3
          rw [c4]
          rcases fLo_01 (fWord x L A).1 with e | e
          · rw [e]; exact r.1
          · rw [e] at c2 ⊢
            have p := r.2.2 (by rw [z_i, show (0 : Int32).toInt = 0 by decide]; rw [z_i, show (1 : Int32).toInt = 1 by decide] at c2; omega)
            intro w
            rw [z_i, show (1 : Int32).toInt = 1 by decide] at w
            rw [z_i, show (0 : Int32).toInt = 0 by decide] at p
            omega
        · show ¬ 9999 < (fNum x L (fNum x L (fWord x L A).2 0 3).2 (fLo (fWord x L A).1) 9999).1
          rw [c4]
          exact (fNumL_9 _ _ _ (z01 (fLo_01 _) c2) c3).2.1
/-- one line, done -/
def mStep (v : V) (q : Int32 × Int32 × Int32) : Int32 × V := if q.1 = 3 then (0, fResize v (iN q.2.1) 0 q.2.2) else if q.1 = 4 then (0, fResize v (iN q.2.1) 1 q.2.2) else fAsk v (3 * iN q.2.1 + iN q.1) q.2.2
theorem fRun_s (q : Int32 × Int32 × Int32) (ls : List (Int32 × Int32 × Int32)) (x : Int32) (v : V) : fRun (q :: ls) x v = fRun ls (x + (mStep v q).1) (mStep v q).2 := by
  rw [fRun, mStep]
  by_cases a : q.1 = 3
  · rw [if_pos a, if_pos a, Int32.add_zero]
  · rw [if_neg a, if_neg a]
    by_cases b : q.1 = 4
    · rw [if_pos b, if_pos b, Int32.add_zero]
    · rw [if_neg b, if_neg b]
def zDoP (g : Mem) (v u : V) (q : Int32 × Int32 × Int32) (r : Int32) (g' : Mem) : Prop := r = (mStep v q).1 ∧ ∃ u' : V, g' = zM g 0 (mStep v q).2 u' ∧ ∀ j, j < 7 → u' j = u j
