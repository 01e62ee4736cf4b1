/-- a row that the acts may meet -/
def zOkV (v : V) : Prop := zFl v ∧ zKy v ∧ zGu v ∧ ¬ v 9 < 1 ∧ (∃ R, v 11 = nI R ∧ 1 ≤ R ∧ R ≤ 12) ∧ (∀ t, t < 4 → ¬ v t < 0 ∧ ¬ 9999 < v t ∧ ¬ 9999 < v (4 + t)) ∧ ∀ j, 160 ≤ j → v j = 0
theorem zOkV_step {v : V} {q : Int32 × Int32 × Int32} (h : zOkV v) (hq : okL q) : zOkV (mStep v q).2 := by sorry
def mTold : Option Nat → Int32
  | none => 0
  | some f => -1 - nI f
theorem mTold_some {f : Nat} (h : f ≤ 80) : mTold (some f) < 0 ∧ -100 - (-1 - mTold (some f)) = -100 - nI f := by
  have e0 : (nI f).toInt = f := nI_toInt (by omega)
  have e1 : (-1 - nI f : Int32).toInt = -1 - f := by
    rw [Int32.toInt_sub, show (-1 : Int32).toInt = -1 by decide, e0, Int.bmod_eq_of_le (by omega) (by omega)]
  constructor
  · unfold mTold
    rw [z_i, e1, show (0 : Int32).toInt = 0 by decide]
    omega
  · unfold mTold
    rw [show (-1 - (-1 - nI f) : Int32) = nI f from z_inj (by
      rw [Int32.toInt_sub, e1, show (-1 : Int32).toInt = -1 by decide, e0, Int.bmod_eq_of_le (by omega) (by omega)]
      omega)]
theorem fRd_n {x : V} {L k A : Nat} (h : ¬ (fLine x L A).1 = true) : fRd x L (k + 1) A = ([], some (fLine x L A).2.1) := by
  rw [fRd, if_neg h]
theorem fRd_e {x : V} {L k A : Nat} (h : (fLine x L A).1 = true) (hE : ¬ (fLine x L A).2.1 < L) : fRd x L (k + 1) A = ([(fLine x L A).2.2], none) := by
  rw [fRd, if_pos h, if_neg hE]
theorem fRd_f {x : V} {L k A : Nat} (h : (fLine x L A).1 = true) (hE : (fLine x L A).2.1 < L) (hs : ¬ fSign x L (fLine x L A).2.1 = 59) : fRd x L (k + 1) A = ([(fLine x L A).2.2], some (fLine x L A).2.1) := by
  rw [fRd, if_pos h, if_pos hE, zCs_6, fPass_f hs, if_neg fPf]
theorem fRd_y {x : V} {L k A : Nat} (h : (fLine x L A).1 = true) (hE : (fLine x L A).2.1 < L) (hs : fSign x L (fLine x L A).2.1 = 59) : fRd x L (k + 1) A = ((fLine x L A).2.2 :: (fRd x L k ((fLine x L A).2.1 + 1)).1, (fRd x L k ((fLine x L A).2.1 + 1)).2) := by
  rw [fRd, if_pos h, if_pos hE, zCs_6, fPass_t hs, fPass_e, if_pos fPt]
theorem zPo_nt {g : Mem} {v u t : V} {n : Nat} (h : zJk g) (ht : ∀ j, j < 3 → t j = u j) : zPo g v u n none (zM g 0 v t) :=
  ⟨g (10 + 6), t, by show _ = zM (zUp g (10 + 6) (g (10 + 6))) 0 v t; rw [zUp_id], h 6 (by omega), ht⟩
theorem fRd_le {x : V} {L : Nat} : ∀ (k A f : Nat), A ≤ L → (fRd x L k A).2 = some f → f ≤ L
  | 0, A, f, hA, h => by
    have e : some A = some f := h
    injection e with e
    omega
  | k + 1, A, f, hA, h => by
    have hb := (fLine_b (x := x) hA).2
    by_cases a : (fLine x L A).1 = true
    · by_cases b : (fLine x L A).2.1 < L
      · by_cases d : fSign x L (fLine x L A).2.1 = 59
        · rw [fRd_y a b d] at h
          exact fRd_le k _ f b h
        · rw [fRd_f a b d] at h
          injection h with e
          omega
      · rw [fRd_e a b] at h
        exact absurd h (by simp)
    · rw [fRd_n a] at h
      injection h with e
      omega
