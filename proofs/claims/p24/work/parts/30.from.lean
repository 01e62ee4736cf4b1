/-! from the whole: sums, bounds, rooms, questions (my own rows of the other claim) -/
theorem zFl_kill {v : V} {S : Nat} (hf : zFl v) : zFl (fKill v S) := by
  intro t ht
  unfold fKill
  rw [zu_n _ _ (show 13 + 11 * t + 0 ≠ 151 by omega), zu_n _ _ (show 13 + 11 * t + 8 ≠ 151 by omega), zu_n _ _ (show 13 + 11 * t + 8 ≠ 13 + 11 * S + 0 by omega)]
  refine ⟨?_, (hf t ht).2⟩
  by_cases h : t = S
  · subst h
    rw [zu_s]; exact Or.inl rfl
  · rw [zu_n _ _ (by omega)]; exact (hf t ht).1
theorem fK_nat {v : V} : ∀ n, ∃ k, k ≤ n ∧ fK v n = nI k
  | 0 => ⟨0, Nat.le_refl _, rfl⟩
  | n + 1 => by
    obtain ⟨k, h1, h2⟩ := fK_nat (v := v) n
    rw [fK]
    by_cases h : v (13 + 11 * n + 0) = 0
    · rw [if_pos h]; exact ⟨k, by omega, h2⟩
    · rw [if_neg h, h2]; exact ⟨k + 1, by omega, nI_1 k⟩
theorem fP_le {v : V} : ∀ n, n ≤ 12 → ∃ k q, k ≤ n ∧ q ≤ k ∧ fK v n = nI k ∧ fP v n = nI q
  | 0, _ => ⟨0, 0, Nat.le_refl _, Nat.le_refl _, rfl, rfl⟩
  | n + 1, hn => by
    obtain ⟨k, q, h1, h2, h3, h4⟩ := fP_le (v := v) n (by omega)
    rw [fK, fP, h3, h4]
    by_cases a : v (13 + 11 * n + 0) = 0
    · rw [if_pos a, if_pos a]; exact ⟨k, q, by omega, h2, rfl, rfl⟩
    · rw [if_neg a, if_neg a]
      by_cases b : v (13 + 11 * n + 8) = 0
      · rw [if_pos b]; exact ⟨k + 1, q, by omega, by omega, nI_1 k, rfl⟩
      · rw [if_neg b]; exact ⟨k + 1, q + 1, by omega, by omega, nI_1 k, nI_1 q⟩
theorem fLacks_n {v : V} {s R : Nat} (eR : v 11 = nI R) (hR : 1 ≤ R) (hR2 : R ≤ 12) (h : fLacks v s = true) : ∃ n, R - 1 + n ≤ 12 ∧ fK v 12 = nI (R - 1 + n) ∧ 1 ≤ n ∧ fRoom v s = fCrowd n v := by
  have h0 := h
  unfold fLacks at h
  rw [decide_eq_true_eq] at h
  obtain ⟨k, hk1, hk2⟩ := fK_nat (v := v) 12
  have h1 : R ≤ k := by
    rw [hk2, eR] at h
    exact Nat.not_lt.mp (fun q => h.2 (nI_lt q (by omega)))
  refine ⟨k - (R - 1), by omega, by rw [hk2]; congr 1; omega, by omega, ?_⟩
  unfold fRoom fDown
  rw [if_pos h0, hk2, eR, show nI R - 1 = nI (R - 1) by rw [show (1 : Int32) = nI 1 from rfl, pk_sub hR], pk_sub (by omega), nI_clamp (by omega)]
theorem fCrowd_k0 {t : Nat} (ht : t < 12) : ∀ (n : Nat) (v : V), v (13 + 11 * t + 0) = 0 → fCrowd n v (13 + 11 * t + 0) = 0
  | 0, _, h => h
  | n + 1, v, h => by
    rw [fCrowd]
    split
    · exact h
    · refine fCrowd_k0 ht n _ ?_
      unfold fKill
      rw [zu_n _ _ (by omega)]
      by_cases e : t = (fOldest v).toNatClampNeg
      · rw [e, zu_s]
      · rw [zu_n _ _ (by omega)]; exact h
theorem fRoom_k0 {v : V} {s : Nat} (hs : s < 12) (h : v (13 + 11 * s + 0) = 0) : fRoom v s (13 + 11 * s + 0) = 0 := by
  unfold fRoom
  split
  · exact fCrowd_k0 hs _ _ h
  · exact h
theorem zFl_co {v w : V} (h : ∀ j, 13 ≤ j → j < 145 → w j = v j) (hf : zFl v) : zFl w := by
  intro t ht
  rw [h _ (by omega) (by omega), h _ (by omega) (by omega)]
  exact hf t ht
theorem fK_co {v w : V} (h : ∀ j, 13 ≤ j → j < 145 → w j = v j) : ∀ n, n ≤ 12 → fK w n = fK v n
  | 0, _ => rfl
  | n + 1, hn => by rw [fK, fK, fK_co h n (by omega), h _ (by omega) (by omega)]
theorem fO_co {v w : V} (h : ∀ j, 13 ≤ j → j < 145 → w j = v j) : ∀ n, n ≤ 12 → fO w n = fO v n
  | 0, _ => rfl
  | n + 1, hn => by rw [fO, fO, fO_co h n (by omega), h _ (by omega) (by omega), h _ (by omega) (by omega), h _ (by omega) (by omega)]
theorem fOldest_co {v w : V} (h : ∀ j, 13 ≤ j → j < 145 → w j = v j) : fOldest w = fOldest v := by
  unfold fOldest
  rw [fO_co h 12 (Nat.le_refl _)]
theorem fLacks_co {v w : V} {s : Nat} (hs : s < 12) (h : ∀ j, 13 ≤ j → j < 145 → w j = v j) (h11 : w 11 = v 11) : fLacks w s = fLacks v s := by
  unfold fLacks
  rw [fK_co h 12 (Nat.le_refl _), h11, h _ (by omega) (by omega)]
theorem fAsk_h1 {v : V} {z : Nat} {n : Int32} (hz : z < 12) (hw : fWhy v z n = 0) : (fAsk v z n).1 = fCost v z (v (13 + 11 * z + 1)) n := by
  unfold fAsk fAskQ
  rw [if_pos hw]
  unfold fHit
  show fCost (upd v 145 (v 145 + 1)) z (upd v 145 (v 145 + 1) (13 + 11 * z + 1)) n = _
  rw [zu_n _ _ (by omega)]
  exact fCost_co hz (fun j hj => zu_n _ _ (by omega))
theorem fAsk_hv {v : V} {z : Nat} {n : Int32} (hz : z < 12) (hw : fWhy v z n = 0) : (fAsk v z n).2 = (fAskQ v z (fCost v z (v (13 + 11 * z + 1)) n, if fDear v z (fCost v z (v (13 + 11 * z + 1)) n) = true then upd (upd (upd (upd (upd (upd v 145 (v 145 + 1)) 146 (v 146 + 1)) (13 + 11 * z + 9) (v (13 + 11 * z + 9) + 1)) (13 + 11 * z + 7) (v 145 + 1)) (13 + 11 * z + 0) 0) 150 (v 150 + 1) else upd (upd (upd (upd v 145 (v 145 + 1)) 146 (v 146 + 1)) (13 + 11 * z + 9) (v (13 + 11 * z + 9) + 1)) (13 + 11 * z + 7) (v 145 + 1))).2 := by
  unfold fAsk
  rw [if_pos hw]
  unfold fHit
  have e1 : (upd v 145 (v 145 + 1)) (13 + 11 * z + 1) = v (13 + 11 * z + 1) := zu_n _ _ (by omega)
  have e2 : fCost (upd v 145 (v 145 + 1)) z (v (13 + 11 * z + 1)) n = fCost v z (v (13 + 11 * z + 1)) n := fCost_co hz (fun j hj => zu_n _ _ (by omega))
  have e3 : fHitV (upd v 145 (v 145 + 1)) z = upd (upd (upd (upd v 145 (v 145 + 1)) 146 (v 146 + 1)) (13 + 11 * z + 9) (v (13 + 11 * z + 9) + 1)) (13 + 11 * z + 7) (v 145 + 1) := by
    unfold fHitV
    rw [zu_n _ _ (show 146 ≠ 145 by decide), zu_n _ _ (show 13 + 11 * z + 9 ≠ 145 by omega), zu_s]
  have e4 : ∀ x, fDear (upd (upd (upd (upd v 145 (v 145 + 1)) 146 (v 146 + 1)) (13 + 11 * z + 9) (v (13 + 11 * z + 9) + 1)) (13 + 11 * z + 7) (v 145 + 1)) z x = fDear v z x := by
    intro x
    unfold fDear
    rw [zu_n _ _ (show 12 ≠ 13 + 11 * z + 7 by omega), zu_n _ _ (show 12 ≠ 13 + 11 * z + 9 by omega), zu_n _ _ (show 12 ≠ 146 by omega), zu_n _ _ (show 12 ≠ 145 by omega), zu_n _ _ (show 13 + 11 * z + 5 ≠ 13 + 11 * z + 7 by omega), zu_n _ _ (show 13 + 11 * z + 5 ≠ 13 + 11 * z + 9 by omega), zu_n _ _ (show 13 + 11 * z + 5 ≠ 146 by omega), zu_n _ _ (show 13 + 11 * z + 5 ≠ 145 by omega)]
  have e5 : (upd v 145 (v 145 + 1)) 150 = v 150 := zu_n _ _ (by decide)
  rw [e1, e2, e3, e4, e5]
theorem fAsk_m1 {v : V} {z : Nat} {n : Int32} (hz : z < 12) (hw : ¬ fWhy v z n = 0) : (fAsk v z n).1 = fCost v z (fBest v z n) n + v 8 := by
  unfold fAsk fAskQ
  rw [if_neg hw]
  unfold fMiss
  dsimp only
  rw [zu_n _ _ (show 8 ≠ 145 by decide), fBest_co hz (fun j hj => zu_n _ _ (by omega)), fCost_co hz (fun j hj => zu_n _ _ (by omega))]
def mMiss (v : V) : V := upd (upd (upd v 145 (v 145 + 1)) 147 (v 147 + 1)) 149 (v 149 + v 8)
theorem fMissA_m (v : V) (z : Nat) : fMissA (upd v 145 (v 145 + 1)) z = fRoom (mMiss v) z := by
  unfold fMissA mMiss
  rw [zu_n _ _ (show 147 ≠ 145 by decide), zu_n _ _ (show 149 ≠ 145 by decide), zu_n _ _ (show 8 ≠ 145 by decide)]
theorem mMiss_o {v : V} {j : Nat} (h1 : j ≠ 145) (h2 : j ≠ 147) (h3 : j ≠ 149) : mMiss v j = v j := by
  unfold mMiss
  rw [zu_n _ _ h3, zu_n _ _ h2, zu_n _ _ h1]
theorem fAsk_m2 {v : V} {z : Nat} {n : Int32} (hz : z < 12) (hw : ¬ fWhy v z n = 0) (h9 : ¬ v 9 < 1) : (fAsk v z n).2 = (fAskQ v z (fCost v z (fBest v z n) n + v 8, if fCould (fRoom (mMiss v) z) z = true then fPlace (fRoom (mMiss v) z) z (fBest v z n) n (n / v 9) (n * v 9) else fRoom (mMiss v) z)).2 := by
  unfold fAsk
  rw [if_neg hw]
  unfold fMiss fMissV
  rw [fMissA_m, zu_n _ _ (show 9 ≠ 145 by decide), zu_n _ _ (show 8 ≠ 145 by decide), fBest_co hz (fun j hj => zu_n _ _ (by omega)), fCost_co hz (fun j hj => zu_n _ _ (by omega)), fQuo, if_neg h9]
theorem fWhy_kept {v : V} {z : Nat} {n : Int32} (h : fWhy v z n = 0) : ¬ v (13 + 11 * z + 0) = 0 := by
  intro q
  unfold fWhy at h
  rw [if_pos q] at h
  exact absurd h (by decide)
theorem fBits_n (x : Int32) : ∃ c, c ≤ 31 ∧ fBits x = nI c := by
  by_cases h : 0 < x
  · obtain ⟨N, hN, rfl⟩ := zPos h
    exact ⟨zBl N, zBl_31 hN, by rw [fBits, if_pos h, nI_clamp hN]⟩
  · exact ⟨0, by omega, by rw [fBits, if_neg h]; rfl⟩
theorem fQuo_n {A b : Nat} (hA : A < 2 ^ 31) (h1 : 1 ≤ b) (hb : b < 2 ^ 31) : fQuo (nI A) (nI b) = nI (A / b) := by
  unfold fQuo
  rw [if_neg (show ¬ nI b < 1 from nI_nlt (a := b) (b := 1) h1 hb), pk_div hA h1 hb]
theorem fMet_n {v : V} {s a b m : Nat} (ha : a ≤ 9999) (hb1 : 1 ≤ b) (hb : b ≤ 9999) (hm : m ≤ 9999) (er : v (s / 3) = nI a) (ek : v (4 + s / 3) = nI b) : ∃ p, p ≤ 9999 ∧ fMet v s (nI m) = nI p := by
  have p1 : a * m ≤ 9999 * 9999 := Nat.mul_le_mul ha hm
  by_cases h : s % 3 = 1
  · have e : fQuo (v (s / 3) * nI m + v (4 + s / 3) - 1) (v (4 + s / 3)) = nI ((a * m + b - 1) / b) := by
      rw [er, ek, pk_mul, nI_add, show (1 : Int32) = nI 1 from rfl, pk_sub (by omega), fQuo_n (by omega) hb1 (by omega)]
    have hq : (a * m + b - 1) / b ≤ a * m + b - 1 := Nat.div_le_self _ _
    unfold fMet
    rw [if_pos h, e, er]
    by_cases q : nI a < nI ((a * m + b - 1) / b)
    · rw [if_pos q]; exact ⟨a, ha, rfl⟩
    · rw [if_neg q]
      exact ⟨_, by have := Nat.not_lt.mp (fun w => q (nI_lt (a := a) (b := (a * m + b - 1) / b) w (by omega))); omega, rfl⟩
  · exact ⟨m, hm, by rw [fMet, if_neg h]⟩
theorem fRaw_n {v : V} {s a b m : Nat} {w : Int32} (ha : a ≤ 9999) (hb1 : 1 ≤ b) (hb : b ≤ 9999) (hm : m ≤ 9999) (er : v (s / 3) = nI a) (ek : v (4 + s / 3) = nI b) : ∃ N, N < 2 ^ 31 ∧ fRaw v s w (nI m) = nI N := by
  obtain ⟨c, hc, ec⟩ := fBits_n (nI m)
  obtain ⟨d, hd, ed⟩ := fBits_n (nI a)
  obtain ⟨p, hp, ep⟩ := fMet_n (s := s) ha hb1 hb hm er ek
  have p1 : m * c ≤ 9999 * 31 := Nat.mul_le_mul hm hc
  have p2 : m * d ≤ 9999 * 31 := Nat.mul_le_mul hm hd
  unfold fRaw
  rw [er, ec, ed, ep]
  by_cases h0 : w = 0
  · rw [if_pos h0]
    by_cases h2 : s % 3 = 2
    · rw [if_pos h2, pk_mul, nI_add]; exact ⟨_, by omega, rfl⟩
    · rw [if_neg h2]; exact ⟨a, by omega, rfl⟩
  · rw [if_neg h0]
    by_cases h1 : w = 1
    · rw [if_pos h1]
      by_cases h2 : s % 3 = 2
      · rw [if_pos h2, show (1 : Int32) = nI 1 from rfl, pk_mul, nI_add]; exact ⟨_, by omega, rfl⟩
      · rw [if_neg h2, show (3 : Int32) = nI 3 from rfl, pk_mul, nI_add]; exact ⟨_, by omega, rfl⟩
    · rw [if_neg h1]
      by_cases h2 : s % 3 = 2
      · rw [if_pos h2, pk_mul, nI_add]; exact ⟨_, by omega, rfl⟩
      · rw [if_neg h2, show (2 : Int32) = nI 2 from rfl, pk_mul]; exact ⟨_, by omega, rfl⟩
theorem fCost_bd {v : V} {s a b m : Nat} {w : Int32} (ha : a ≤ 9999) (hb1 : 1 ≤ b) (hb : b ≤ 9999) (hm : m ≤ 9999) (er : v (s / 3) = nI a) (ek : v (4 + s / 3) = nI b) : 0 ≤ (fCost v s w (nI m)).toInt ∧ (fCost v s w (nI m)).toInt ≤ 1000000 := by
  obtain ⟨N, hN, e⟩ := fRaw_n (w := w) (s := s) ha hb1 hb hm er ek
  unfold fCost
  rw [e]
  by_cases q : 1000000 < nI N
  · rw [if_pos q]; decide
  · rw [if_neg q, nI_toInt hN]
    have := Nat.not_lt.mp (fun w => q (nI_lt (a := 1000000) (b := N) w hN))
    omega
