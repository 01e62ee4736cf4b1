/-! a question: what it leaves, what it answers, what was told ahead -/
theorem zPl_u {v : V} {i : Nat} {x : Int32} (h1 : 146 ≤ i) (h2 : i < 160) (h : zPl v) : zPl (upd v i x) := by
  obtain ⟨f, r, s, p, z⟩ := h
  exact ⟨zFl_u (by omega) f, iR_u (by omega) r, iS_u (by omega) s, fun t ht => iP_u (by omega) ht (p t ht), zZ_u h2 z⟩
theorem zPl_off {v : V} {q : Nat} (hq : q < 12) (h : zPl v) : zPl (upd v (13 + 11 * q + 0) 0) := by
  have a0 : iA 0 (fun _ => 0) := by unfold iA; decide
  obtain ⟨f, r, s, p, z⟩ := h
  refine ⟨fun t ht => ?_, iR_u (by omega) r, iS_u (by omega) s, fun t ht => ?_, zZ_u (by omega) z⟩
  · rw [zu_n v _ (show 13 + 11 * t + 8 ≠ 13 + 11 * q + 0 by omega)]
    refine ⟨?_, (f t ht).2⟩
    by_cases e : t = q
    · subst e; rw [zu_s]; exact Or.inl rfl
    · rw [zu_n _ _ (by omega)]; exact (f t ht).1
  · exact iP_co (fun k => by
      by_cases e : t = q
      · subst e; rw [zu_s] at k; exact absurd rfl k
      · rw [zu_n _ _ (by omega)] at k; exact k) (fun f hf h0 h8 => zu_n _ _ (by omega)) (by rw [zu_n _ _ (by omega)]; exact Int.le_refl _) (p t ht)
def mHit (v : V) (z : Nat) : V := upd (upd (upd (upd v 145 (v 145 + 1)) 146 (v 146 + 1)) (13 + 11 * z + 9) (v (13 + 11 * z + 9) + 1)) (13 + 11 * z + 7) (v 145 + 1)
def mHitD (v : V) (z : Nat) (c : Int32) : V := if fDear v z c = true then upd (upd (mHit v z) (13 + 11 * z + 0) 0) 150 (v 150 + 1) else mHit v z
def mMissP (v : V) (z : Nat) (n : Int32) : V := if fCould (fRoom (mMiss v) z) z = true then fPlace (fRoom (mMiss v) z) z (fBest v z n) n (n / v 9) (n * v 9) else fRoom (mMiss v) z
theorem fAsk_h {v : V} {z : Nat} {n : Int32} (hz : z < 12) (hw : fWhy v z n = 0) : fAsk v z n = (fCost v z (v (13 + 11 * z + 1)) n, fEnd (mHitD v z (fCost v z (v (13 + 11 * z + 1)) n)) z (fCost v z (v (13 + 11 * z + 1)) n)) :=
  Prod.ext (fAsk_h1 hz hw) (fAsk_hv hz hw)
theorem fAsk_m {v : V} {z : Nat} {n : Int32} (hz : z < 12) (hw : ¬ fWhy v z n = 0) (h9 : ¬ v 9 < 1) : fAsk v z n = (fCost v z (fBest v z n) n + v 8, fEnd (mMissP v z n) z (fCost v z (fBest v z n) n + v 8)) :=
  Prod.ext (fAsk_m1 hz hw) (fAsk_m2 hz hw h9)
theorem mHit_o {v : V} {z j : Nat} (h1 : j ≠ 145) (h2 : j ≠ 146) (h3 : j ≠ 13 + 11 * z + 9) (h4 : j ≠ 13 + 11 * z + 7) : mHit v z j = v j := by
  unfold mHit
  rw [zu_n _ _ h4, zu_n _ _ h3, zu_n _ _ h2, zu_n _ _ h1]
theorem mHit_145 {v : V} {z : Nat} (hz : z < 12) : mHit v z 145 = v 145 + 1 := by
  unfold mHit
  rw [zu_n _ _ (by omega), zu_n _ _ (by omega), zu_n _ _ (by omega), zu_s]
theorem mHit_146 {v : V} {z : Nat} (hz : z < 12) : mHit v z 146 = v 146 + 1 := by
  unfold mHit
  rw [zu_n _ _ (by omega), zu_n _ _ (by omega), zu_s]
theorem mHit_7 {v : V} {z : Nat} : mHit v z (13 + 11 * z + 7) = v 145 + 1 := by
  unfold mHit
  rw [zu_s]
theorem mHit_9 {v : V} {z : Nat} : mHit v z (13 + 11 * z + 9) = v (13 + 11 * z + 9) + 1 := by
  unfold mHit
  rw [zu_n _ _ (by omega), zu_s]
theorem zPl_hit {B : Int} {v : V} {z : Nat} (hz : z < 12) (hB : B ≤ 1000) (hk : ¬ v (13 + 11 * z + 0) = 0) (h : zInv B v) : zPl (mHit v z) := by
  obtain ⟨⟨f, r, s, p, zz⟩, a⟩ := h
  have ha := a.1
  have g : (v 145 + 1).toInt = (v 145).toInt + 1 := by rw [t_add (by rw [t_1]; omega) (by rw [t_1]; omega), t_1]
  refine ⟨fun t ht => ?_, iR_co (fun j hj => mHit_o (by omega) (by omega) (by omega) (by omega)) r, iS_co (fun j h1 h2 => mHit_o (by omega) (by omega) (by omega) (by omega)) s, fun t ht => ?_, fun j hj => (mHit_o (by omega) (by omega) (by omega) (by omega)).trans (zz j hj)⟩
  · rw [mHit_o (by omega) (by omega) (by omega) (by omega), mHit_o (by omega) (by omega) (by omega) (by omega)]
    exact f t ht
  · by_cases e : t = z
    · subst e
      obtain ⟨a1, a2, a3, a4, ⟨b1, b2, b3⟩, ⟨c1, c2⟩, d⟩ := p t hz hk
      have g9 : (v (13 + 11 * t + 9) + 1).toInt = (v (13 + 11 * t + 9)).toInt + 1 := by rw [t_add (by rw [t_1]; omega) (by rw [t_1]; omega), t_1]
      intro _
      have O : ∀ f, f < 11 → f ≠ 9 → f ≠ 7 → mHit v t (13 + 11 * t + f) = v (13 + 11 * t + f) := fun f hf h1 h2 => mHit_o (by omega) (by omega) (by omega) (by omega)
      rw [O 1 (by omega) (by omega) (by omega), O 2 (by omega) (by omega) (by omega), O 3 (by omega) (by omega) (by omega), O 4 (by omega) (by omega) (by omega), O 5 (by omega) (by omega) (by omega), O 6 (by omega) (by omega) (by omega), O 10 (by omega) (by omega) (by omega), mHit_7, mHit_9, mHit_145 hz, g, g9]
      exact ⟨a1, a2, a3, a4, ⟨b1, by omega, Int.le_refl _⟩, ⟨by omega, by omega⟩, d⟩
    · exact iP_co (fun k => by rw [mHit_o (by omega) (by omega) (by omega) (by omega)] at k; exact k) (fun f hf h0 h8 => mHit_o (by omega) (by omega) (by omega) (by omega)) (by rw [mHit_145 hz, g]; omega) (p t ht)
theorem mHitD_o {v : V} {z j : Nat} {c : Int32} (hz : z < 12) (h1 : j ≠ 145) (h2 : j ≠ 146) (h3 : j < 13 ∨ 145 ≤ j) (h4 : j ≠ 150) : mHitD v z c j = v j := by
  unfold mHitD
  by_cases q : fDear v z c = true
  · rw [if_pos q, zu_n _ _ h4, zu_n _ _ (by omega), mHit_o h1 h2 (by omega) (by omega)]
  · rw [if_neg q, mHit_o h1 h2 (by omega) (by omega)]
theorem mHitD_145 {v : V} {z : Nat} {c : Int32} (hz : z < 12) : mHitD v z c 145 = v 145 + 1 := by
  unfold mHitD
  by_cases q : fDear v z c = true
  · rw [if_pos q, zu_n _ _ (by omega), zu_n _ _ (by omega), mHit_145 hz]
  · rw [if_neg q, mHit_145 hz]
theorem mHitD_146 {v : V} {z : Nat} {c : Int32} (hz : z < 12) : mHitD v z c 146 = v 146 + 1 := by
  unfold mHitD
  by_cases q : fDear v z c = true
  · rw [if_pos q, zu_n _ _ (by omega), zu_n _ _ (by omega), mHit_146 hz]
  · rw [if_neg q, mHit_146 hz]
theorem mHitD_150 {v : V} {z : Nat} {c : Int32} (hz : z < 12) : mHitD v z c 150 = v 150 + (if fDear v z c = true then 1 else 0) := by
  unfold mHitD
  by_cases q : fDear v z c = true
  · rw [if_pos q, if_pos q, zu_s]
  · rw [if_neg q, if_neg q, mHit_o (by omega) (by omega) (by omega) (by omega), Int32.add_zero]
theorem fBest_3 {v : V} {z : Nat} {n : Int32} : fBest v z n = 0 ∨ fBest v z n = 1 ∨ fBest v z n = 2 := by
  unfold fBest
  by_cases a : fCost v z 2 n < fCost v z (fB1 v z n) n
  · rw [if_pos a]; exact Or.inr (Or.inr rfl)
  · rw [if_neg a]
    unfold fB1
    by_cases b : fCost v z 1 n < fCost v z 0 n
    · rw [if_pos b]; exact Or.inr (Or.inl rfl)
    · rw [if_neg b]; exact Or.inl rfl
theorem iS_9 {v : V} (s : iS v) : ¬ v 9 < 1 := fun q => by
  have := s.2.1
  rw [t_i, t_1] at q
  omega
theorem mMiss_145 {v : V} : mMiss v 145 = v 145 + 1 := by
  unfold mMiss
  rw [zu_n _ _ (by omega), zu_n _ _ (by omega), zu_s]
theorem mMiss_147 {v : V} : mMiss v 147 = v 147 + 1 := by
  unfold mMiss
  rw [zu_n _ _ (by omega), zu_s]
theorem mMiss_149 {v : V} : mMiss v 149 = v 149 + v 8 := by
  unfold mMiss
  rw [zu_s]
theorem zPl_miss0 {B : Int} {v : V} (hB : B ≤ 1000) (h : zInv B v) : zPl (mMiss v) := by
  obtain ⟨⟨f, r, s, p, zz⟩, a⟩ := h
  have ha := a.1
  have g : (v 145 + 1).toInt = (v 145).toInt + 1 := by rw [t_add (by rw [t_1]; omega) (by rw [t_1]; omega), t_1]
  refine ⟨zFl_co (fun j h1 h2 => mMiss_o (by omega) (by omega) (by omega)) f, iR_co (fun j hj => mMiss_o (by omega) (by omega) (by omega)) r, iS_co (fun j h1 h2 => mMiss_o (by omega) (by omega) (by omega)) s, fun t ht => ?_, fun j hj => (mMiss_o (by omega) (by omega) (by omega)).trans (zz j hj)⟩
  exact iP_co (fun k => by rw [mMiss_o (by omega) (by omega) (by omega)] at k; exact k) (fun f hf h0 h8 => mMiss_o (by omega) (by omega) (by omega)) (by rw [mMiss_145, g]; omega) (p t ht)
/-- the row of a miss: what it holds outside the plans -/
theorem mMissP_o {v : V} {z j : Nat} {n : Int32} (hz : z < 12) (h : j < 13 ∨ 145 ≤ j) (h1 : j ≠ 151) : mMissP v z n j = mMiss v j := by
  have e : fRoom (mMiss v) z j = mMiss v j := fRoom_o (by omega)
  unfold mMissP
  by_cases q : fCould (fRoom (mMiss v) z) z = true
  · rw [if_pos q, fPlace_n (by omega), e]
  · rw [if_neg q, e]
theorem mMissP_151 {v : V} {z : Nat} {n : Int32} (hz : z < 12) : mMissP v z n 151 = fRoom (mMiss v) z 151 := by
  unfold mMissP
  by_cases q : fCould (fRoom (mMiss v) z) z = true
  · rw [if_pos q, fPlace_n (by omega)]
  · rw [if_neg q]
theorem z_lohi {n x : Int32} (hn : 0 ≤ n.toInt ∧ n.toInt ≤ 9999) (hx : 1 ≤ x.toInt ∧ x.toInt ≤ 20) : (n / x).toInt ≤ (n * x).toInt := by
  obtain ⟨a, ha, rfl, -⟩ := t_of (N := 9999) hn.1 (by omega)
  obtain ⟨b, hb, rfl, fb⟩ := t_of (x := x) (N := 20) (by omega) (by omega)
  have hb1 : 1 ≤ b := by omega
  have h1 : a * b ≤ 9999 * 20 := Nat.mul_le_mul ha hb
  have h2 : a / b ≤ a := Nat.div_le_self _ _
  have h3 : a ≤ a * b := Nat.le_mul_of_pos_right a hb1
  rw [pk_div (by omega) hb1 (by omega), pk_mul, nI_toInt (by omega), nI_toInt (by omega)]
  omega
theorem zPl_missP {B : Int} {v : V} {z : Nat} {n : Int32} (hz : z < 12) (hB : B ≤ 1000) (hn : okN z n) (h : zInv B v) : zPl (mMissP v z n) := by
  have h0 := zPl_miss0 hB h
  have h9 := h.2.2.2.2.1
  have hr : zPl (fRoom (mMiss v) z) := zPl_room (by rw [mMiss_o (by omega) (by omega) (by omega)]; omega) h0
  unfold mMissP
  by_cases q : fCould (fRoom (mMiss v) z) z = true
  · rw [if_pos q]
    refine zPl_place hz fBest_3 (okN_t hn) (z_lohi (okN_0 hn) h.1.2.2.1.2.1) ?_ hr
    have ha := h.2.1
    rw [fRoom_o (by omega), mMiss_145, t_add (by rw [t_1]; omega) (by rw [t_1]; omega), t_1]
    omega
  · rw [if_neg q]; exact hr
theorem fAsk_st {B : Int} {v : V} {z : Nat} {n : Int32} (hB : 0 ≤ B ∧ B ≤ 1000) (hz : z < 12) (hn : okN z n) (h : zInv B v) : zInv (B + 1) (fAsk v z n).2 ∧ 0 ≤ (fAsk v z n).1.toInt := by
  obtain ⟨⟨a1, a2, a3, a4⟩, ⟨b1, b2, b3⟩, ⟨c1, c2⟩, d, s1, s2⟩ := h.2
  by_cases hw : fWhy v z n = 0
  · have hk := fWhy_kept hw
    have hc := fCost_ok (w := v (13 + 11 * z + 1)) h.1.2.1 hz (okN_0 hn)
    have hp := zPl_hit hz hB.2 hk h
    rw [fAsk_h hz hw]
    refine ⟨?_, hc.1⟩
    show zInv (B + 1) (fEnd (mHitD v z (fCost v z (v (13 + 11 * z + 1)) n)) z (fCost v z (v (13 + 11 * z + 1)) n))
    generalize fCost v z (v (13 + 11 * z + 1)) n = x at hc
    have hp2 : zPl (mHitD v z x) := by
      unfold mHitD
      split
      · exact zPl_u (by omega) (by omega) (zPl_off hz hp)
      · exact hp
    have g : (v 146 + 1).toInt = (v 146).toInt + 1 := by rw [t_add (by rw [t_1]; omega) (by rw [t_1]; omega), t_1]
    have O : ∀ j, 147 ≤ j → j ≠ 150 → mHitD v z x j = v j := fun j h1 h2 => mHitD_o hz (by omega) (by omega) (by omega) h2
    have e150 : 0 ≤ (mHitD v z x 150).toInt ∧ (mHitD v z x 150).toInt ≤ (v 146).toInt + 1 := by
      rw [mHitD_150 hz]
      split
      · rw [t_add (by rw [t_1]; omega) (by rw [t_1]; omega), t_1]; omega
      · rw [Int32.add_zero]; omega
    refine zInv_end hz hB (by omega) h.2 hp2 (mHitD_145 hz) ?_ (O 148 (by omega) (by omega)) ?_ ?_ ?_ ⟨⟨O 152 (by omega) (by omega), O 153 (by omega) (by omega), O 154 (by omega) (by omega), O 155 (by omega) (by omega)⟩, O 156 (by omega) (by omega), O 157 (by omega) (by omega), O 158 (by omega) (by omega), O 159 (by omega) (by omega)⟩
    · rw [mHitD_146 hz, O 147 (by omega) (by omega), g]; omega
    · rw [O 149 (by omega) (by omega)]; omega
    · rw [mHitD_146 hz, g]; exact e150
    · rw [O 151 (by omega) (by omega)]; omega
  · have hc := fCost_ok (w := fBest v z n) h.1.2.1 hz (okN_0 hn)
    have h8 := h.1.2.2.1.1
    have hp := zPl_missP hz hB.2 hn h
    have hr : (fCost v z (fBest v z n) n + v 8).toInt = (fCost v z (fBest v z n) n).toInt + (v 8).toInt := t_add (by omega) (by omega)
    rw [fAsk_m hz hw (iS_9 h.1.2.2.1)]
    refine ⟨?_, by show 0 ≤ (fCost v z (fBest v z n) n + v 8).toInt; omega⟩
    show zInv (B + 1) (fEnd (mMissP v z n) z (fCost v z (fBest v z n) n + v 8))
    have O : ∀ j, 145 ≤ j → j ≠ 151 → mMissP v z n j = mMiss v j := fun j h1 h2 => mMissP_o hz (by omega) h2
    have M : ∀ j, j ≠ 145 → j ≠ 147 → j ≠ 149 → mMiss v j = v j := fun j h1 h2 h3 => mMiss_o h1 h2 h3
    have E : ∀ j, 150 ≤ j → j ≠ 151 → mMissP v z n j = v j := fun j h1 h2 => (O j (by omega) h2).trans (M j (by omega) (by omega) (by omega))
    have g : (v 147 + 1).toInt = (v 147).toInt + 1 := by rw [t_add (by rw [t_1]; omega) (by rw [t_1]; omega), t_1]
    have g9 : (v 149 + v 8).toInt = (v 149).toInt + (v 8).toInt := t_add (by omega) (by omega)
    obtain ⟨nn, hnn, -, hl⟩ := fRoom_ls (v := mMiss v) (s := z) (zPl_miss0 hB.2 h).2.2.1 (by rw [M 151 (by omega) (by omega) (by omega)]; omega)
    have l3 := hl.2.2
    rw [M 151 (by omega) (by omega) (by omega)] at l3
    refine zInv_end hz hB (by omega) h.2 hp ((O 145 (by omega) (by omega)).trans mMiss_145) ?_ ((O 148 (by omega) (by omega)).trans (M 148 (by omega) (by omega) (by omega))) ?_ ?_ ?_ ⟨⟨E 152 (by omega) (by omega), E 153 (by omega) (by omega), E 154 (by omega) (by omega), E 155 (by omega) (by omega)⟩, E 156 (by omega) (by omega), E 157 (by omega) (by omega), E 158 (by omega) (by omega), E 159 (by omega) (by omega)⟩
    · rw [O 146 (by omega) (by omega), M 146 (by omega) (by omega) (by omega), O 147 (by omega) (by omega), mMiss_147, g]; omega
    · rw [O 149 (by omega) (by omega), mMiss_149, g9]; omega
    · rw [E 150 (by omega) (by omega), O 146 (by omega) (by omega), M 146 (by omega) (by omega) (by omega)]; omega
    · rw [mMissP_151 hz]; omega
theorem kAsk_st {B : Int} {v : V} {x n : Int32} (hB : 0 ≤ B ∧ B ≤ 1000) (h : zInv B v) : zStep B (kAsk v x n) := by
  unfold kAsk
  by_cases a : okS x
  · rw [if_pos a]
    obtain ⟨z, hz, rfl⟩ := zIx (B := 12) (b := 12) rfl (by decide) a
    rw [iNn (by omega)]
    by_cases b : okN z n
    · rw [if_pos b]
      obtain ⟨h1, h2⟩ := fAsk_st hB hz b h
      exact zStep_s (t_nn h2) h1
    · rw [if_neg b]; exact zStep_n (by decide)
  · rw [if_neg a]; exact zStep_n (by decide)
