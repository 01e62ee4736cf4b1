/-- a row that the acts may meet -/
def zOkV (v : V) : Prop := zFl v ∧ zKy v ∧ zGu v ∧ ¬ v 9 < 1 ∧ (∃ R, v 11 = nI R ∧ 1 ≤ R ∧ R ≤ 12) ∧ (∀ t, t < 4 → ¬ v t < 0 ∧ ¬ 9999 < v t ∧ ¬ 9999 < v (4 + t)) ∧ ∀ j, 160 ≤ j → v j = 0
theorem fBits_n (x : Int32) : ∃ c, c ≤ 31 ∧ fBits x = nI c := by
  by_cases h : 0 < x
  · obtain ⟨N, hN, rfl⟩ := zPos h
    exact ⟨zBl N, zBl_31 hN, by rw [fBits, if_pos h, nI_clamp hN]⟩
  · exact ⟨0, by omega, by rw [fBits, if_neg h]; rfl⟩
theorem fQuo_n {A b : Nat} (hA : A < 2 ^ 31) (h1 : 1 ≤ b) (hb : b < 2 ^ 31) : fQuo (nI A) (nI b) = nI (A / b) := by
  unfold fQuo
  rw [if_neg (show ¬ nI b < 1 from nI_nlt (a := b) (b := 1) h1 hb), pk_div hA h1 hb]
theorem fMet_n {v : V} {s a b m : Nat} (ha : a ≤ 9999) (hb1 : 1 ≤ b) (hb : b ≤ 9999) (hm : m ≤ 9999) (er : v (s / 3) = nI a) (ek : v (4 + s / 3) = nI b) : ∃ p, p ≤ 9999 ∧ fMet v s (nI m) = nI p := by
  have p1 : a * m ≤ 9999 * 9999 := Nat.mul_le_mul ha hm
  by_cases h : s % 3 = 1
  · have e : fQuo (v (s / 3) * nI m + v (4 + s / 3) - 1) (v (4 + s / 3)) = nI ((a * m + b - 1) / b) := by
      rw [er, ek, pk_mul, nI_add, show (1 : Int32) = nI 1 from rfl, pk_sub (by omega), fQuo_n (by omega) hb1 (by omega)]
    have hq : (a * m + b - 1) / b ≤ a * m + b - 1 := Nat.div_le_self _ _
    unfold fMet
    rw [if_pos h, e, er]
    by_cases q : nI a < nI ((a * m + b - 1) / b)
    · rw [if_pos q]; exact ⟨a, ha, rfl⟩
    · rw [if_neg q]
      exact ⟨_, by have := Nat.not_lt.mp (fun w => q (nI_lt (a := a) (b := (a * m + b - 1) / b) w (by omega))); omega, rfl⟩
  · exact ⟨m, hm, by rw [fMet, if_neg h]⟩
theorem fRaw_n {v : V} {s a b m : Nat} {w : Int32} (ha : a ≤ 9999) (hb1 : 1 ≤ b) (hb : b ≤ 9999) (hm : m ≤ 9999) (er : v (s / 3) = nI a) (ek : v (4 + s / 3) = nI b) : ∃ N, N < 2 ^ 31 ∧ fRaw v s w (nI m) = nI N := by
  obtain ⟨c, hc, ec⟩ := fBits_n (nI m)
  obtain ⟨d, hd, ed⟩ := fBits_n (nI a)
  obtain ⟨p, hp, ep⟩ := fMet_n (s := s) ha hb1 hb hm er ek
  have p1 : m * c ≤ 9999 * 31 := Nat.mul_le_mul hm hc
  have p2 : m * d ≤ 9999 * 31 := Nat.mul_le_mul hm hd
  unfold fRaw
  rw [er, ec, ed, ep]
  by_cases h0 : w = 0
  · rw [if_pos h0]
    by_cases h2 : s % 3 = 2
    · rw [if_pos h2, pk_mul, nI_add]; exact ⟨_, by omega, rfl⟩
    · rw [if_neg h2]; exact ⟨a, by omega, rfl⟩
  · rw [if_neg h0]
    by_cases h1 : w = 1
    · rw [if_pos h1]
      by_cases h2 : s % 3 = 2
      · rw [if_pos h2, show (1 : Int32) = nI 1 from rfl, pk_mul, nI_add]; exact ⟨_, by omega, rfl⟩
      · rw [if_neg h2, show (3 : Int32) = nI 3 from rfl, pk_mul, nI_add]; exact ⟨_, by omega, rfl⟩
    · rw [if_neg h1]
      by_cases h2 : s % 3 = 2
      · rw [if_pos h2, pk_mul, nI_add]; exact ⟨_, by omega, rfl⟩
      · rw [if_neg h2, show (2 : Int32) = nI 2 from rfl, pk_mul]; exact ⟨_, by omega, rfl⟩
theorem fCost_bd {v : V} {s a b m : Nat} {w : Int32} (ha : a ≤ 9999) (hb1 : 1 ≤ b) (hb : b ≤ 9999) (hm : m ≤ 9999) (er : v (s / 3) = nI a) (ek : v (4 + s / 3) = nI b) : 0 ≤ (fCost v s w (nI m)).toInt ∧ (fCost v s w (nI m)).toInt ≤ 1000000 := by
  obtain ⟨N, hN, e⟩ := fRaw_n (w := w) (s := s) ha hb1 hb hm er ek
  unfold fCost
  rw [e]
  by_cases q : 1000000 < nI N
  · rw [if_pos q]; decide
  · rw [if_neg q, nI_toInt hN]
    have := Nat.not_lt.mp (fun w => q (nI_lt (a := 1000000) (b := N) w hN))
    omega
theorem z_99 {x : Int32} (h0 : ¬ x < 0) (h9 : ¬ 9999 < x) : ∃ m, m ≤ 9999 ∧ x = nI m := by
  obtain ⟨j, hj, e⟩ := nI_of h0
  subst e
  exact ⟨j, Nat.not_lt.mp (fun q => h9 (nI_lt (a := 9999) (b := j) q hj)), rfl⟩
theorem z_l1 {x : Int32} (h : ¬ x < 1) : ¬ x < 0 := z01 (Or.inr rfl) h
theorem fCost_ok {v : V} {s : Nat} {w n : Int32} (h : zOkV v) (hs : s < 12) (hn : ¬ n < 0 ∧ ¬ 9999 < n) : 0 ≤ (fCost v s w n).toInt ∧ (fCost v s w n).toInt ≤ 1000000 := by
  obtain ⟨-, hk, -, -, -, hb, -⟩ := h
  have h1 := hb (s / 3) (by omega)
  obtain ⟨a, ha, ea⟩ := z_99 h1.1 h1.2.1
  have h2 := hk (s / 3) (by omega)
  obtain ⟨b, hb9, eb⟩ := z_99 (z_l1 h2) h1.2.2
  obtain ⟨m, hm, rfl⟩ := z_99 hn.1 hn.2
  refine fCost_bd ha ?_ hb9 hm ea eb
  rw [eb] at h2
  exact Nat.not_lt.mp (fun q => h2 (nI_lt (a := b) (b := 1) q (by omega)))
/-- what zOkV speaks of -/
def zImp (j : Nat) : Prop := j < 8 ∨ j = 9 ∨ j = 11 ∨ j = 12 ∨ 160 ≤ j ∨ ∃ t, t < 12 ∧ (j = 13 + 11 * t + 0 ∨ j = 13 + 11 * t + 5 ∨ j = 13 + 11 * t + 8)
theorem zOkV_co {v w : V} (e : ∀ j, zImp j → w j = v j) (h : zOkV v) : zOkV w := by
  obtain ⟨hf, hk, ⟨hg1, hg2⟩, h9, ⟨R, eR, hR⟩, hb, hv⟩ := h
  have e12 := e 12 (Or.inr (Or.inr (Or.inr (Or.inl rfl))))
  refine ⟨fun t ht => ?_, fun t ht => ?_, ⟨by rw [e12]; exact hg1, fun z hz => ?_⟩, ?_, ⟨R, ?_, hR⟩, fun t ht => ?_, fun j hj => ?_⟩
  · rw [e _ (Or.inr (Or.inr (Or.inr (Or.inr (Or.inr ⟨t, ht, Or.inl rfl⟩))))), e _ (Or.inr (Or.inr (Or.inr (Or.inr (Or.inr ⟨t, ht, Or.inr (Or.inr rfl)⟩)))))]
    exact hf t ht
  · rw [e _ (Or.inl (by omega))]; exact hk t ht
  · rw [e _ (Or.inr (Or.inr (Or.inr (Or.inr (Or.inr ⟨z, hz, Or.inr (Or.inl rfl)⟩)))))]; exact hg2 z hz
  · rw [e 9 (Or.inr (Or.inl rfl))]; exact h9
  · rw [e 11 (Or.inr (Or.inr (Or.inl rfl)))]; exact eR
  · rw [e t (Or.inl (by omega)), e (4 + t) (Or.inl (by omega))]; exact hb t ht
  · rw [e j (Or.inr (Or.inr (Or.inr (Or.inr (Or.inl hj)))))]; exact hv j hj
theorem zOkV_u {v : V} {i : Nat} {x : Int32} (hi : ¬ zImp i) (h : zOkV v) : zOkV (upd v i x) := zOkV_co (fun j hj => zu_n _ _ (fun q => hi (q ▸ hj))) h
theorem zImp_n {t f : Nat} (hf : f < 11) (ht : t < 12) (h : f ≠ 0 ∧ f ≠ 5 ∧ f ≠ 8) : ¬ zImp (13 + 11 * t + f) := by
  rintro (q | q | q | q | q | ⟨t2, h2, q | q | q⟩) <;> omega
theorem zImp_a {j : Nat} (h1 : 145 ≤ j) (h2 : j < 160) : ¬ zImp j := by
  rintro (q | q | q | q | q | ⟨t2, h2, q | q | q⟩) <;> omega
theorem zOkV_f0 {v : V} {z : Nat} {b : Int32} (hz : z < 12) (hb : b = 0 ∨ b = 1) (h : zOkV v) : zOkV (upd v (13 + 11 * z + 0) b) := by
  obtain ⟨hf, hk, ⟨hg1, hg2⟩, h9, ⟨R, eR, hR⟩, hbd, hv⟩ := h
  refine ⟨zFl_f0 hf hb, fun t ht => ?_, ⟨by rw [zu_n _ _ (by omega)]; exact hg1, fun q hq => ?_⟩, ?_, ⟨R, ?_, hR⟩, fun t ht => ?_, fun j hj => ?_⟩
  · rw [zu_n _ _ (by omega)]; exact hk t ht
  · rw [zu_n _ _ (by omega)]; exact hg2 q hq
  · rw [zu_n _ _ (by omega)]; exact h9
  · rw [zu_n _ _ (by omega)]; exact eR
  · rw [zu_n _ _ (by omega), zu_n _ _ (by omega)]; exact hbd t ht
  · rw [zu_n _ _ (by omega)]; exact hv j hj
theorem zOkV_f8 {v : V} {z : Nat} {b : Int32} (hz : z < 12) (hb : b = 0 ∨ b = 1) (h : zOkV v) : zOkV (upd v (13 + 11 * z + 8) b) := by
  obtain ⟨hf, hk, ⟨hg1, hg2⟩, h9, ⟨R, eR, hR⟩, hbd, hv⟩ := h
  refine ⟨zFl_f8 hf hb, fun t ht => ?_, ⟨by rw [zu_n _ _ (by omega)]; exact hg1, fun q hq => ?_⟩, ?_, ⟨R, ?_, hR⟩, fun t ht => ?_, fun j hj => ?_⟩
  · rw [zu_n _ _ (by omega)]; exact hk t ht
  · rw [zu_n _ _ (by omega)]; exact hg2 q hq
  · rw [zu_n _ _ (by omega)]; exact h9
  · rw [zu_n _ _ (by omega)]; exact eR
  · rw [zu_n _ _ (by omega), zu_n _ _ (by omega)]; exact hbd t ht
  · rw [zu_n _ _ (by omega)]; exact hv j hj
theorem zOkV_f5 {v : V} {z : Nat} {b : Int32} (hz : z < 12) (hb : 0 ≤ b.toInt ∧ b.toInt ≤ 1000000) (h : zOkV v) : zOkV (upd v (13 + 11 * z + 5) b) := by
  obtain ⟨hf, hk, ⟨hg1, hg2⟩, h9, ⟨R, eR, hR⟩, hbd, hv⟩ := h
  refine ⟨fun t ht => ?_, fun t ht => ?_, ⟨by rw [zu_n _ _ (by omega)]; exact hg1, fun q hq => ?_⟩, ?_, ⟨R, ?_, hR⟩, fun t ht => ?_, fun j hj => ?_⟩
  · rw [zu_n _ _ (by omega), zu_n _ _ (by omega)]; exact hf t ht
  · rw [zu_n _ _ (by omega)]; exact hk t ht
  · by_cases e : q = z
    · subst e; rw [zu_s]; exact hb
    · rw [zu_n _ _ (by omega)]; exact hg2 q hq
  · rw [zu_n _ _ (by omega)]; exact h9
  · rw [zu_n _ _ (by omega)]; exact eR
  · rw [zu_n _ _ (by omega), zu_n _ _ (by omega)]; exact hbd t ht
  · rw [zu_n _ _ (by omega)]; exact hv j hj
theorem zOkV_kill {v : V} {S : Nat} (hS : S < 12) (h : zOkV v) : zOkV (fKill v S) := zOkV_u (zImp_a (by omega) (by omega)) (zOkV_f0 hS (Or.inl rfl) h)
theorem zOkV_crowd : ∀ (n : Nat) (v : V), zOkV v → zOkV (fCrowd n v)
  | 0, _, h => h
  | n + 1, v, h => by
    rw [fCrowd]
    by_cases q : fOldest v < 0
    · rw [if_pos q]; exact h
    · rw [if_neg q]
      obtain ⟨S, hS, eS, -⟩ := fOldest_nat q
      rw [eS, nI_clamp (by omega)]
      exact zOkV_crowd n _ (zOkV_kill hS h)
theorem zOkV_room {v : V} {s : Nat} (h : zOkV v) : zOkV (fRoom v s) := by
  unfold fRoom
  split
  · exact zOkV_crowd _ _ h
  · exact h
theorem zOkV_place {v : V} {s : Nat} {w n lo hi : Int32} (hs : s < 12) (hn : ¬ n < 0 ∧ ¬ 9999 < n) (h : zOkV v) : zOkV (fPlace v s w n lo hi) := by
  have hc := fCost_ok (w := w) h hs hn
  unfold fPlace
  refine zOkV_u (zImp_n (by omega) hs (by omega)) (zOkV_u (zImp_n (by omega) hs (by omega)) (zOkV_u (zImp_n (by omega) hs (by omega)) (zOkV_u (zImp_n (by omega) hs (by omega)) (zOkV_f5 hs hc (zOkV_u (zImp_n (by omega) hs (by omega)) (zOkV_u (zImp_n (by omega) hs (by omega)) (zOkV_u (zImp_n (by omega) hs (by omega)) (zOkV_u (zImp_n (by omega) hs (by omega)) (zOkV_f8 hs (Or.inl rfl) (zOkV_f0 hs (Or.inr rfl) h))))))))))
theorem zOkV_ask {v : V} {s : Nat} {n : Int32} (hs : s < 12) (hn : ¬ n < 0 ∧ ¬ 9999 < n) (h : zOkV v) : zOkV (fAsk v s n).2 := by
  have A : ∀ {w : V} {i : Nat} {x : Int32}, 145 ≤ i → i < 160 → zOkV w → zOkV (upd w i x) := fun h1 h2 hw => zOkV_u (zImp_a h1 h2) hw
  unfold fAsk fAskQ
  dsimp only
  refine A (by omega) (by omega) (A (by omega) (by omega) (A (by omega) (by omega) ?_))
  have h1 : zOkV (upd v 145 (v 145 + 1)) := A (by omega) (by omega) h
  split
  · unfold fHit
    dsimp only
    have hh : zOkV (fHitV (upd v 145 (v 145 + 1)) s) := zOkV_u (zImp_n (by omega) hs (by omega)) (zOkV_u (zImp_n (by omega) hs (by omega)) (A (by omega) (by omega) h1))
    split
    · exact A (by omega) (by omega) (zOkV_f0 hs (Or.inl rfl) hh)
    · exact hh
  · unfold fMiss
    dsimp only
    have hm : zOkV (fMissA (upd v 145 (v 145 + 1)) s) := zOkV_room (A (by omega) (by omega) (A (by omega) (by omega) h1))
    unfold fMissV
    split
    · exact zOkV_place hs hn hm
    · exact hm
theorem zOkV_size {v : V} {q : Nat} {x many : Int32} (hq : q < 4) (hm : ¬ many < (if x = 0 then 0 else 1)) (h9 : ¬ 9999 < many) (h : zOkV v) : zOkV (fResize v q x many) := by
  obtain ⟨hf, hk, ⟨hg1, hg2⟩, h9s, ⟨R, eR, hR⟩, hbd, hv⟩ := h
  unfold fResize
  by_cases hx : x = 0
  · rw [if_pos hx] at hm ⊢
    refine ⟨zFl_co (fun j h1 h2 => zu_n _ _ (by omega)) hf, fun t ht => ?_, ⟨by rw [zu_n _ _ (by omega)]; exact hg1, fun z hz => ?_⟩, ?_, ⟨R, ?_, hR⟩, fun t ht => ?_, fun j hj => ?_⟩
    · rw [zu_n _ _ (by omega)]; exact hk t ht
    · rw [zu_n _ _ (by omega)]; exact hg2 z hz
    · rw [zu_n _ _ (by omega)]; exact h9s
    · rw [zu_n _ _ (by omega)]; exact eR
    · by_cases e : t = q
      · subst e; rw [zu_s, zu_n _ _ (by omega)]; exact ⟨hm, h9, (hbd t ht).2.2⟩
      · rw [zu_n _ _ (by omega), zu_n _ _ (by omega)]; exact hbd t ht
    · rw [zu_n _ _ (by omega)]; exact hv j hj
  · rw [if_neg hx] at hm ⊢
    refine ⟨zFl_co (fun j h1 h2 => zu_n _ _ (by omega)) hf, fun t ht => ?_, ⟨by rw [zu_n _ _ (by omega)]; exact hg1, fun z hz => ?_⟩, ?_, ⟨R, ?_, hR⟩, fun t ht => ?_, fun j hj => ?_⟩
    · by_cases e : t = q
      · subst e; rw [zu_s]; exact hm
      · rw [zu_n _ _ (by omega)]; exact hk t ht
    · rw [zu_n _ _ (by omega)]; exact hg2 z hz
    · rw [zu_n _ _ (by omega)]; exact h9s
    · rw [zu_n _ _ (by omega)]; exact eR
    · by_cases e : t = q
      · subst e; rw [zu_n _ _ (by omega), zu_s]; exact ⟨(hbd t ht).1, (hbd t ht).2.1, h9⟩
      · rw [zu_n _ _ (by omega), zu_n _ _ (by omega)]; exact hbd t ht
    · rw [zu_n _ _ (by omega)]; exact hv j hj
theorem zOkV_step {v : V} {q : Int32 × Int32 × Int32} (h : zOkV v) (hq : okL q) : zOkV (mStep v q).2 := by
  obtain ⟨⟨W, hW, eW⟩, ⟨T, hT, eT⟩, h1, h2⟩ := hq
  have h0 := z01 (fLo_01 _) h1
  unfold mStep
  by_cases a : q.1 = 3
  · rw [if_pos a, eT, iNn (by omega)]
    exact zOkV_size hT (by rw [if_pos rfl]; exact h0) h2 h
  · rw [if_neg a]
    by_cases b : q.1 = 4
    · rw [if_pos b, eT, iNn (by omega)]
      refine zOkV_size hT (by rw [if_neg (show ¬ (1 : Int32) = 0 by decide)]; rw [show fLo q.1 = 1 from by rw [b]; decide] at h1; exact h1) h2 h
    · rw [if_neg b, eT, eW, iNn (by omega), iNn (by omega)]
      have w3 : W ≠ 3 := fun e => a (by rw [eW, e]; rfl)
      have w4 : W ≠ 4 := fun e => b (by rw [eW, e]; rfl)
      exact zOkV_ask (by omega) ⟨h0, h2⟩ h
