/-! what the law's reads answer of a good row; what was told ahead of a question comes so -/
theorem okS_n {z : Nat} (hz : z < 12) : okS (nI z) := ⟨nI_pos (by omega), nI_lt (a := z) (b := 12) hz (by omega)⟩
theorem okT_n {z : Nat} (hz : z < 4) : okT (nI z) := ⟨nI_pos (by omega), nI_lt (a := z) (b := 4) hz (by omega)⟩
theorem okW_w {w : Int32} (h : w = 0 ∨ w = 1 ∨ w = 2) : okW w := by
  rcases h with rfl | rfl | rfl <;> exact ⟨by decide, by decide⟩
theorem okN_m {z m : Nat} (h : 1 ≤ m ∧ m ≤ 9999) : okN z (nI m) := by
  refine ⟨?_, nI_nlt (a := 9999) (b := m) h.2 (by omega)⟩
  by_cases q : z % 3 = 0
  · rw [if_pos q]; exact nI_pos (by omega)
  · rw [if_neg q]; exact nI_nlt (a := m) (b := 1) h.1 (by omega)
theorem okN_i {z : Nat} {n : Int32} (h1 : (if z % 3 = 0 then 0 else 1) ≤ n.toInt) (h2 : n.toInt ≤ 9999) : okN z n := by
  refine ⟨?_, fun q => by rw [t_i, show (9999 : Int32).toInt = 9999 by decide] at q; omega⟩
  by_cases q : z % 3 = 0
  · rw [if_pos q] at h1 ⊢
    exact fun k => by rw [t_i, t_0] at k; omega
  · rw [if_neg q] at h1 ⊢
    exact fun k => by rw [t_i, t_1] at k; omega
theorem hasP_n {v : V} {z : Nat} (hz : z < 12) (h : ¬ v (13 + 11 * z + 0) = 0) : hasP v (nI z) := ⟨okS_n hz, by rw [iNn (by omega)]; exact h⟩
theorem hasP_x {v : V} {z : Nat} (hz : z < 12) (h : v (13 + 11 * z + 0) = 0) : ¬ hasP v (nI z) := fun q => q.2 (by rw [iNn (by omega)]; exact h)
section KR
variable {v : V} {z m : Nat}
theorem kpn {w : Int32} (hz : z < 12) (h : v (13 + 11 * z + 0) = 0) : kPlan v (nI z) w = -1 := by
  unfold kPlan
  rw [if_neg (hasP_x hz h)]
theorem kpin (hz : z < 12) (h : v (13 + 11 * z + 0) = 0) {b : Int32} : kPin v (nI z) b = (-1, none) := by
  unfold kPin
  rw [if_neg (hasP_x hz h)]
theorem kthr (hz : z < 12) (h : v (13 + 11 * z + 0) = 0) : kThrow v (nI z) = (-1, none) := by
  unfold kThrow
  rw [if_neg (hasP_x hz h)]
theorem kre (hz : z < 12) {n : Int32} (hn : okN z n) : kReason v (nI z) n = fWhy v z n := by
  unfold kReason
  rw [iNn (by omega), if_pos (okS_n hz), if_pos hn]
theorem kco (hz : z < 12) {w n : Int32} (hw : okW w) (hn : okN z n) : kCost v (nI z) w n = fCost v z w n := by
  unfold kCost
  rw [iNn (by omega), if_pos (okS_n hz), if_pos hw, if_pos hn]
theorem kch (hz : z < 12) {n : Int32} (hn : okN z n) : kCheap v (nI z) n = fBest v z n := by
  unfold kCheap
  rw [iNn (by omega), if_pos (okS_n hz), if_pos hn]
theorem kif (hz : z < 12) {n : Int32} (hn : okN z n) {w : Int32} (h1 : ¬ w < 0) (h2 : ¬ 4 < w) : kIf v (nI z) n w = fIf v z n w := by
  unfold kIf
  rw [iNn (by omega), if_pos (okS_n hz), if_pos hn, if_neg h1, if_neg h2]
theorem kask (hz : z < 12) {n : Int32} (hn : okN z n) : kAsk v (nI z) n = ((fAsk v z n).1, some (fAsk v z n).2) := by
  unfold kAsk
  rw [iNn (by omega), if_pos (okS_n hz), if_pos hn]
theorem kp0 (hz : z < 12) (h : ¬ v (13 + 11 * z + 0) = 0) : kPlan v (nI z) 0 = v (13 + 11 * z + 1) := by
  unfold kPlan
  have e : iN (nI z) = z := iNn (by omega)
  rw [if_pos (hasP_n hz h)]
  simp only [e]
  rfl
theorem kp1 (hz : z < 12) (h : ¬ v (13 + 11 * z + 0) = 0) : kPlan v (nI z) 1 = v (13 + 11 * z + 2) := by
  unfold kPlan
  have e : iN (nI z) = z := iNn (by omega)
  rw [if_pos (hasP_n hz h)]
  simp only [e]
  rfl
theorem kp2 (hz : z < 12) (h : ¬ v (13 + 11 * z + 0) = 0) : kPlan v (nI z) 2 = v (13 + 11 * z + 3) := by
  unfold kPlan
  have e : iN (nI z) = z := iNn (by omega)
  rw [if_pos (hasP_n hz h)]
  simp only [e]
  rfl
theorem kp3 (hz : z < 12) (h : ¬ v (13 + 11 * z + 0) = 0) : kPlan v (nI z) 3 = v (13 + 11 * z + 4) := by
  unfold kPlan
  have e : iN (nI z) = z := iNn (by omega)
  rw [if_pos (hasP_n hz h)]
  simp only [e]
  rfl
theorem kp4 (hz : z < 12) (h : ¬ v (13 + 11 * z + 0) = 0) : kPlan v (nI z) 4 = v (13 + 11 * z + 5) := by
  unfold kPlan
  have e : iN (nI z) = z := iNn (by omega)
  rw [if_pos (hasP_n hz h)]
  simp only [e]
  rfl
theorem kp5 (hz : z < 12) (h : ¬ v (13 + 11 * z + 0) = 0) : kPlan v (nI z) 5 = v 145 - v (13 + 11 * z + 6) := by
  unfold kPlan
  have e : iN (nI z) = z := iNn (by omega)
  rw [if_pos (hasP_n hz h)]
  simp only [e]
  rfl
theorem kp6 (hz : z < 12) (h : ¬ v (13 + 11 * z + 0) = 0) : kPlan v (nI z) 6 = (if fChanged v z = true ∨ fOld v z = true then 1 else 0) := by
  unfold kPlan
  have e : iN (nI z) = z := iNn (by omega)
  rw [if_pos (hasP_n hz h)]
  simp only [e]
  rfl
theorem kp7 (hz : z < 12) (h : ¬ v (13 + 11 * z + 0) = 0) : kPlan v (nI z) 7 = v (13 + 11 * z + 8) := by
  unfold kPlan
  have e : iN (nI z) = z := iNn (by omega)
  rw [if_pos (hasP_n hz h)]
  simp only [e]
  rfl
theorem kp8 (hz : z < 12) (h : ¬ v (13 + 11 * z + 0) = 0) : kPlan v (nI z) 8 = v (13 + 11 * z + 9) := by
  unfold kPlan
  have e : iN (nI z) = z := iNn (by omega)
  rw [if_pos (hasP_n hz h)]
  simp only [e]
  rfl
theorem kp9 (hz : z < 12) (h : ¬ v (13 + 11 * z + 0) = 0) : kPlan v (nI z) 9 = v 145 - v (13 + 11 * z + 7) := by
  unfold kPlan
  have e : iN (nI z) = z := iNn (by omega)
  rw [if_pos (hasP_n hz h)]
  simp only [e]
  rfl
theorem kp10 (hz : z < 12) (h : ¬ v (13 + 11 * z + 0) = 0) : kPlan v (nI z) 10 = v (13 + 11 * z + 10) := by
  unfold kPlan
  have e : iN (nI z) = z := iNn (by omega)
  rw [if_pos (hasP_n hz h)]
  simp only [e]
  rfl
theorem kto0 (hz : z < 4) : kTableOf v (nI z) 0 = v z := by
  unfold kTableOf
  rw [iNn (by omega), if_pos (okT_n hz)]
  rfl
theorem kto1 (hz : z < 4) : kTableOf v (nI z) 1 = v (4 + z) := by
  unfold kTableOf
  rw [iNn (by omega), if_pos (okT_n hz)]
  rfl
theorem kto2 (hz : z < 4) : kTableOf v (nI z) 2 = fKo v z 3 := by
  unfold kTableOf
  rw [iNn (by omega), if_pos (okT_n hz)]
  rfl
theorem kto3 (hz : z < 4) : kTableOf v (nI z) 3 = v (152 + z) := by
  unfold kTableOf
  rw [iNn (by omega), if_pos (okT_n hz)]
  rfl
theorem kto4 (hz : z < 4) : kTableOf v (nI z) 4 = v (156 + z) := by
  unfold kTableOf
  rw [iNn (by omega), if_pos (okT_n hz)]
  rfl
theorem kcn0 {x y : Int32} : kCount v x y 0 = fK v 12 := rfl
theorem kcn1 {x y : Int32} : kCount v x y 1 = fP v 12 := rfl
theorem kcn2 {x y : Int32} : kCount v x y 2 = fS v 12 := rfl
theorem kcn3 {x y : Int32} : kCount v x y 3 = v 145 := rfl
theorem kcn4 {x y : Int32} : kCount v x y 4 = v 146 := rfl
theorem kcn5 {x y : Int32} : kCount v x y 5 = v 147 := rfl
theorem kcn6 {x y : Int32} : kCount v x y 6 = v 148 := rfl
theorem kcn7 {x y : Int32} : kCount v x y 7 = v 149 := rfl
theorem kcn8 {x y : Int32} : kCount v x y 8 = v 150 := rfl
theorem kcn9 {x y : Int32} : kCount v x y 9 = v 151 := rfl
theorem kcn10 {x y : Int32} : kCount v x y 10 = v 8 := rfl
theorem kcn11 {x y : Int32} : kCount v x y 11 = v 9 := rfl
theorem kcn12 {x y : Int32} : kCount v x y 12 = v 10 := rfl
theorem kcn13 {x y : Int32} : kCount v x y 13 = v 11 := rfl
theorem kcn14 {x y : Int32} : kCount v x y 14 = v 12 := rfl
theorem kcn15 {x y : Int32} : kCount v x y 15 = x := rfl
theorem kcn16 {x y : Int32} : kCount v x y 16 = y := rfl
end KR
/-- the oldest: as the law finds it -/
def zLg (v : V) (k : Nat) : Int32 := if (fO v k).1 = -4 then -1 else v 145 - (fO v k).2
theorem fO_x {v : V} {k : Nat} (h : v (13 + 11 * k + 0) = 0) : fO v (k + 1) = fO v k := by rw [fO, if_pos h]
theorem fO_p {v : V} {k : Nat} (h : ¬ v (13 + 11 * k + 0) = 0) (h8 : ¬ v (13 + 11 * k + 8) = 0) : fO v (k + 1) = fO v k := by rw [fO, if_neg h, if_neg h8]
theorem zLg_x {v : V} {k : Nat} (h : fO v (k + 1) = fO v k) : zLg v (k + 1) = zLg v k := by
  unfold zLg
  rw [h]
theorem zUsed_i {B : Int} {v : V} {k : Nat} (hk : k < 12) (hB : B ≤ 1000) (h : zInv B v) (h0 : ¬ v (13 + 11 * k + 0) = 0) : (v 145 - v (13 + 11 * k + 7)).toInt = (v 145).toInt - (v (13 + 11 * k + 7)).toInt ∧ 0 ≤ (v (13 + 11 * k + 7)).toInt ∧ (v (13 + 11 * k + 7)).toInt ≤ (v 145).toInt ∧ (v 145).toInt ≤ B := by
  obtain ⟨-, -, -, -, ⟨b1, b2, b3⟩, -⟩ := h.1.2.2.2.1 k hk h0
  have ha := h.2.1
  exact ⟨t_sub (by omega) (by omega), by omega, b3, by omega⟩
theorem fO_w {B : Int} {v : V} {k : Nat} (hk : k < 12) (hB : B ≤ 1000) (h : zInv B v) (h0 : ¬ v (13 + 11 * k + 0) = 0) : (zLg v k < v 145 - v (13 + 11 * k + 7)) ↔ ((fO v k).1 = -4 ∨ v (13 + 11 * k + 7) < (fO v k).2) := by
  obtain ⟨e, b1, b2, b3⟩ := zUsed_i hk hB h h0
  unfold zLg
  rcases fO_nat v k with q | ⟨S, hS, e1, e2, e3, e4⟩
  · rw [if_pos q, t_i, e, show (-1 : Int32).toInt = -1 by decide]
    exact ⟨fun _ => Or.inl q, fun _ => by omega⟩
  · have ne : ¬ (fO v k).1 = -4 := by
      rw [e1]
      intro q
      have := congrArg Int32.toInt q
      rw [nI_toInt (by omega), show (-4 : Int32).toInt = -4 by decide] at this
      omega
    obtain ⟨f, d1, d2, d3⟩ := zUsed_i (k := S) (by omega) hB h e3
    rw [if_neg ne, e2, t_i, t_i, e, f]
    exact ⟨fun q => Or.inr (by omega), fun q => by rcases q with q | q; exact absurd q ne; omega⟩
theorem fO_y {B : Int} {v : V} {k : Nat} (hk : k < 12) (hB : B ≤ 1000) (h : zInv B v) (h0 : ¬ v (13 + 11 * k + 0) = 0) (h8 : v (13 + 11 * k + 8) = 0) (q : zLg v k < v 145 - v (13 + 11 * k + 7)) : (fO v (k + 1)).1 = nI k ∧ zLg v (k + 1) = v 145 - v (13 + 11 * k + 7) := by
  have e : fO v (k + 1) = (nI k, v (13 + 11 * k + 7)) := by
    rw [fO, if_neg h0, if_pos h8, if_pos ((fO_w hk hB h h0).mp q)]
  unfold zLg
  rw [e]
  refine ⟨rfl, if_neg ?_⟩
  intro q
  have := congrArg Int32.toInt q
  rw [nI_toInt (by omega), show (-4 : Int32).toInt = -4 by decide] at this
  omega
theorem fO_z {B : Int} {v : V} {k : Nat} (hk : k < 12) (hB : B ≤ 1000) (h : zInv B v) (h0 : ¬ v (13 + 11 * k + 0) = 0) (q : ¬ zLg v k < v 145 - v (13 + 11 * k + 7)) : fO v (k + 1) = fO v k := by
  rw [fO, if_neg h0]
  split
  · rw [if_neg (fun w => q ((fO_w hk hB h h0).mpr w))]
  · rfl
/-- counting as the law does it -/
theorem fP_k {v : V} {k : Nat} (h0 : ¬ v (13 + 11 * k + 0) = 0) (h8 : v (13 + 11 * k + 8) = 0 ∨ v (13 + 11 * k + 8) = 1) : fP v (k + 1) = fP v k + v (13 + 11 * k + 8) := by
  rw [fP, if_neg h0]
  rcases h8 with h | h
  · rw [if_pos h, h, Int32.add_zero]
  · rw [if_neg (by rw [h]; decide), h]
theorem fS_k {v : V} {k : Nat} (h0 : ¬ v (13 + 11 * k + 0) = 0) : fS v (k + 1) = fS v k + (if fChanged v k = true ∨ fOld v k = true then 1 else 0) := by
  rw [fS, if_neg h0]
  by_cases h : fChanged v k = true ∨ fOld v k = true
  · rw [if_pos h, if_pos h]
  · rw [if_neg h, if_neg h, Int32.add_zero]
theorem fKo_sum {v : V} : 0 + fKo v 0 3 + fKo v 1 3 + fKo v 2 3 + fKo v 3 3 = fK v 12 := by
  simp only [fKo, fK, Nat.mul_zero, Nat.zero_add, Nat.reduceAdd, Nat.reduceMul, Int32.zero_add]
  have key : ∀ (c : Prop) [Decidable c] (x : Int32), (if c then x else x + 1) = x + (if c then 0 else 1) := fun c _ x => by
    by_cases h : c
    · rw [if_pos h, if_pos h, Int32.add_zero]
    · rw [if_neg h, if_neg h]
  simp only [key, Int32.zero_add]
  ac_rfl
/-- a difference of rows, as the law takes it -/
theorem fAbs_gt {a b : Int32} (ha : 0 ≤ a.toInt ∧ a.toInt ≤ 9999) (hb : 0 ≤ b.toInt ∧ b.toInt ≤ 9999) (h : b < a) : fAbs (a - b) = a - b := by
  have e : (a - b).toInt = a.toInt - b.toInt := t_sub (by omega) (by omega)
  unfold fAbs
  rw [t_i] at h
  rw [if_pos (by rw [t_le, t_0]; omega)]
theorem fAbs_le {a b : Int32} (ha : 0 ≤ a.toInt ∧ a.toInt ≤ 9999) (hb : 0 ≤ b.toInt ∧ b.toInt ≤ 9999) (h : ¬ b < a) : fAbs (a - b) = b - a := by
  have e : (a - b).toInt = a.toInt - b.toInt := t_sub (by omega) (by omega)
  have e2 : (b - a).toInt = b.toInt - a.toInt := t_sub (by omega) (by omega)
  unfold fAbs
  rw [t_i] at h
  by_cases q : (0 : Int32) ≤ a - b
  · rw [if_pos q]
    rw [t_le, t_0] at q
    exact t_eq (by omega)
  · rw [if_neg q]
    exact t_eq (by rw [t_sub (by rw [t_0]; omega) (by rw [t_0]; omega), t_0]; omega)
theorem fChanged_of {v : V} {k : Nat} {x : Int32} (e : fAbs (v (k / 3) - v (13 + 11 * k + 10)) = x) : (fChanged v k = true) ↔ v (13 + 11 * k + 10) / 2 < x := by
  unfold fChanged
  rw [e, decide_eq_true_eq]
theorem fOld_iff {v : V} {k : Nat} : (fOld v k = true) ↔ v 10 < v 145 - v (13 + 11 * k + 6) := by
  unfold fOld
  rw [decide_eq_true_eq]
/-- the cheapest way -/
theorem t_lt3 {x y z : Int32} (h1 : x < y) (h2 : ¬ z < y) : x < z := by
  rw [t_i] at h1 h2 ⊢
  omega
theorem t_tr {x y z : Int32} (h1 : x < y) (h2 : y < z) : x < z := by
  rw [t_i] at h1 h2 ⊢
  omega
theorem fBest_c {v : V} {z : Nat} {n : Int32} : (fBest v z n = 0 → ¬ fCost v z 1 n < fCost v z 0 n ∧ ¬ fCost v z 2 n < fCost v z 0 n) ∧ (fBest v z n = 1 → fCost v z 1 n < fCost v z 0 n ∧ ¬ fCost v z 2 n < fCost v z 1 n) ∧ (fBest v z n = 2 → fCost v z 2 n < fCost v z 0 n ∧ fCost v z 2 n < fCost v z 1 n) := by
  unfold fBest fB1
  by_cases b : fCost v z 1 n < fCost v z 0 n
  · rw [if_pos b]
    by_cases a : fCost v z 2 n < fCost v z 1 n
    · rw [if_pos a]
      exact ⟨fun q => absurd q (by decide), fun q => absurd q (by decide), fun _ => ⟨t_tr a b, a⟩⟩
    · rw [if_neg a]
      exact ⟨fun q => absurd q (by decide), fun _ => ⟨b, a⟩, fun q => absurd q (by decide)⟩
  · rw [if_neg b]
    by_cases a : fCost v z 2 n < fCost v z 0 n
    · rw [if_pos a]
      exact ⟨fun q => absurd q (by decide), fun q => absurd q (by decide), fun _ => ⟨a, t_lt3 a b⟩⟩
    · rw [if_neg a]
      exact ⟨fun _ => ⟨b, a⟩, fun q => absurd q (by decide), fun q => absurd q (by decide)⟩
theorem t_irr {x : Int32} : ¬ x < x := fun q => by
  rw [t_i] at q
  omega
theorem t_asy {x y : Int32} (h : x < y) : ¬ y < x := fun q => by
  rw [t_i] at h q
  omega
/-- no way costs less than the cheapest one -/
theorem fBest_le {v : V} {z : Nat} {n w : Int32} (hw : w = 0 ∨ w = 1 ∨ w = 2) : ¬ fCost v z w n < fCost v z (fBest v z n) n := by
  obtain ⟨h0, h1, h2⟩ := fBest_c (v := v) (z := z) (n := n)
  rcases fBest_3 (v := v) (z := z) (n := n) with e | e | e <;> rw [e]
  · obtain ⟨a, b⟩ := h0 e
    rcases hw with rfl | rfl | rfl
    · exact t_irr
    · exact a
    · exact b
  · obtain ⟨a, b⟩ := h1 e
    rcases hw with rfl | rfl | rfl
    · exact t_asy a
    · exact t_irr
    · exact b
  · obtain ⟨a, b⟩ := h2 e
    rcases hw with rfl | rfl | rfl
    · exact t_asy a
    · exact t_asy b
    · exact t_irr
theorem fReach_sum {v : V} {z lo : Nat} : ∀ n, fReach v z 0 lo n + fReach v z 1 lo n + fReach v z 2 lo n = nI n
  | 0 => rfl
  | n + 1 => by
    have ih := fReach_sum (v := v) (z := z) (lo := lo) n
    rw [fReach, fReach, fReach]
    rcases fBest_3 (v := v) (z := z) (n := nI (lo + n)) with e | e | e <;> rw [e]
    · rw [if_pos rfl, if_neg (by decide), if_neg (by decide), ← nI_1 n, ← ih]; ac_rfl
    · rw [if_neg (by decide), if_pos rfl, if_neg (by decide), ← nI_1 n, ← ih]; ac_rfl
    · rw [if_neg (by decide), if_neg (by decide), if_pos rfl, ← nI_1 n, ← ih]; ac_rfl
theorem kReach_sum {v : V} {z : Nat} (hz : z < 12) : kReach v (nI z) 0 + kReach v (nI z) 1 + kReach v (nI z) 2 = if z % 3 = 0 then 201 else 200 := by
  unfold kReach
  rw [iNn (by omega), if_pos (okS_n hz), if_pos (okW_w (Or.inl rfl)), if_pos (okS_n hz), if_pos (okW_w (Or.inr (Or.inl rfl))), if_pos (okS_n hz), if_pos (okW_w (Or.inr (Or.inr rfl)))]
  by_cases h : z % 3 = 0
  · rw [if_pos h, if_pos h, if_pos h, if_pos h]
    exact fReach_sum 201
  · rw [if_neg h, if_neg h, if_neg h, if_neg h]
    exact fReach_sum 200
