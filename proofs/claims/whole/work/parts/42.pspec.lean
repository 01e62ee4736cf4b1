/-! the counts' places, and what a question would do, by asks() -/
theorem z_7 {w : Int32} {lo hi : Int32} (a b : Int) (ha : lo.toInt = a) (hb : hi.toInt = b) (h : ¬ w < lo ∧ ¬ hi < w) : a ≤ w.toInt ∧ w.toInt ≤ b := by
  obtain ⟨h1, h2⟩ := h
  rw [z_i, ha] at h1
  rw [z_i, hb] at h2
  exact ⟨Int.not_lt.mp h1, Int.not_lt.mp h2⟩
theorem z_w7 {w : Int32} (h : ¬ w < 3 ∧ ¬ 9 < w) : w = 3 ∨ w = 4 ∨ w = 5 ∨ w = 6 ∨ w = 7 ∨ w = 8 ∨ w = 9 := by
  have q := z_7 3 9 (by decide) (by decide) h
  have e : ∀ (k : Int32) (a : Int), k.toInt = a → w.toInt = a → w = k := fun k a h1 h2 => Int32.toInt_inj.mp (h2.trans h1.symm)
  obtain c | c | c | c | c | c | c : w.toInt = 3 ∨ w.toInt = 4 ∨ w.toInt = 5 ∨ w.toInt = 6 ∨ w.toInt = 7 ∨ w.toInt = 8 ∨ w.toInt = 9 := by omega
  · exact Or.inl (e 3 3 (by decide) c)
  · exact Or.inr (Or.inl (e 4 4 (by decide) c))
  · exact Or.inr (Or.inr (Or.inl (e 5 5 (by decide) c)))
  · exact Or.inr (Or.inr (Or.inr (Or.inl (e 6 6 (by decide) c))))
  · exact Or.inr (Or.inr (Or.inr (Or.inr (Or.inl (e 7 7 (by decide) c)))))
  · exact Or.inr (Or.inr (Or.inr (Or.inr (Or.inr (Or.inl (e 8 8 (by decide) c))))))
  · exact Or.inr (Or.inr (Or.inr (Or.inr (Or.inr (Or.inr (e 9 9 (by decide) c))))))
theorem z_w5 {w : Int32} (h : ¬ w < 10 ∧ ¬ 14 < w) : w = 10 ∨ w = 11 ∨ w = 12 ∨ w = 13 ∨ w = 14 := by
  have q := z_7 10 14 (by decide) (by decide) h
  have e : ∀ (k : Int32) (a : Int), k.toInt = a → w.toInt = a → w = k := fun k a h1 h2 => Int32.toInt_inj.mp (h2.trans h1.symm)
  obtain c | c | c | c | c : w.toInt = 10 ∨ w.toInt = 11 ∨ w.toInt = 12 ∨ w.toInt = 13 ∨ w.toInt = 14 := by omega
  · exact Or.inl (e 10 10 (by decide) c)
  · exact Or.inr (Or.inl (e 11 11 (by decide) c))
  · exact Or.inr (Or.inr (Or.inl (e 12 12 (by decide) c)))
  · exact Or.inr (Or.inr (Or.inr (Or.inl (e 13 13 (by decide) c))))
  · exact Or.inr (Or.inr (Or.inr (Or.inr (e 14 14 (by decide) c))))
theorem z_n7 {w : Int32} (h : ¬ (¬ w < 3 ∧ ¬ 9 < w)) : ¬ w = 3 ∧ ¬ w = 4 ∧ ¬ w = 5 ∧ ¬ w = 6 ∧ ¬ w = 7 ∧ ¬ w = 8 ∧ ¬ w = 9 :=
  ⟨fun q => h (by rw [q]; decide), fun q => h (by rw [q]; decide), fun q => h (by rw [q]; decide), fun q => h (by rw [q]; decide), fun q => h (by rw [q]; decide), fun q => h (by rw [q]; decide), fun q => h (by rw [q]; decide)⟩
theorem z_n5 {w : Int32} (h : ¬ (¬ w < 10 ∧ ¬ 14 < w)) : ¬ w = 10 ∧ ¬ w = 11 ∧ ¬ w = 12 ∧ ¬ w = 13 ∧ ¬ w = 14 :=
  ⟨fun q => h (by rw [q]; decide), fun q => h (by rw [q]; decide), fun q => h (by rw [q]; decide), fun q => h (by rw [q]; decide), fun q => h (by rw [q]; decide)⟩
theorem fIf_m {v : V} {z : Nat} {n w : Int32} (hz : z < 12) : fIf v z n w = if w = 0 then (fAsk v z n).1 else if w = 1 then (if fWhy v z n = 0 then v (13 + 11 * z + 1) else fBest v z n) else if w = 2 then (if fWhy v z n = 0 ∧ fDear v z (fCost v z (v (13 + 11 * z + 1)) n) = true then 1 else 0) else if w = 3 then (if fWhy v z n = 0 then -4 else fFirst v z) else (fAsk v z n).1 - fCost v z (fBest v z n) n := by
  unfold fIf
  by_cases hw : fWhy v z n = 0
  · rw [if_pos hw, fAsk_h1 hz hw, if_pos hw, if_pos hw, Int32.add_zero]
    have e : (if fWhy v z n = 0 ∧ fDear v z (fCost v z (v (13 + 11 * z + 1)) n) = true then (1 : Int32) else 0) = if fDear v z (fCost v z (v (13 + 11 * z + 1)) n) = true then 1 else 0 := by
      by_cases d : fDear v z (fCost v z (v (13 + 11 * z + 1)) n) = true
      · rw [if_pos ⟨hw, d⟩, if_pos d]
      · rw [if_neg (fun q => d q.2), if_neg d]
    rw [e]
  · have e : (if fWhy v z n = 0 ∧ fDear v z (fCost v z (v (13 + 11 * z + 1)) n) = true then (1 : Int32) else 0) = 0 := if_neg (fun q => hw q.1)
    rw [if_neg hw, fAsk_m1 hz hw, if_neg hw, if_neg hw, e]
theorem z20 : ((2 : Int32) = 0) = False := eq_false (by decide)
theorem z21 : ((2 : Int32) = 1) = False := eq_false (by decide)
theorem z31 : ((3 : Int32) = 1) = False := eq_false (by decide)
theorem z32 : ((3 : Int32) = 2) = False := eq_false (by decide)
