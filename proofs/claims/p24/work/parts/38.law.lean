/-! the law: what stands fast in it, what its checks rest on -/
def lwC (p : Program) (m : MethodId) (c : Code) (s : State) (args : Array Value) (D : va_G) (k : Nat → ClassId) (a : Nat → Nat → Nat) (b N : Nat) (xs : Nat → Int32) : Prop := zC p m c code 25 s args RL D k a ∧ va_X b N xs s s.heap ∧ ¬ zA a b ∧ N ≤ 260
/-- what the loop keeps of the memory -/
def zMm (B : Int) (G : Mem) : Prop := zInv B (G 0) ∧ (∃ x, x < 4 ∧ G 6 0 = nI x) ∧ (∃ S, S ≤ 4 ∧ G 6 1 = nI S) ∧ ∀ r, r < 6 → ∀ j, 160 ≤ j → G r j = 0
theorem zAct_0 {G : Mem} {w : V} : zAct G (some w) 0 = w := zUp_s _ _ _
theorem zAct_61 {G : Mem} {w : V} {x : Nat} (hx : x < 4) (e : G 6 0 = nI x) : zAct G (some w) 6 1 = if 4 < G 6 1 + 1 then 4 else G 6 1 + 1 := by
  show zUp (zRec G) 0 w 6 1 = _
  rw [zUp_n _ _ (by omega), zRec_x hx e]
  unfold zRecX
  rw [zUp_s, zu_s]
theorem zAct_4 {G : Mem} {w : V} {x S : Nat} (hx : x < 4) (e : G 6 0 = nI x) (hS : S ≤ 4) (e1 : G 6 1 = nI S) (h : G 6 1 = 4) : zAct G (some w) 6 1 = 4 := by
  rw [zAct_61 hx e, h]
  decide
theorem zAct_n4 {G : Mem} {w : V} {x S : Nat} (hx : x < 4) (e : G 6 0 = nI x) (hS : S ≤ 4) (e1 : G 6 1 = nI S) (h : ¬ G 6 1 = 4) : zAct G (some w) 6 1 = G 6 1 + 1 := by
  have h4 : S ≠ 4 := fun q => h (by rw [e1, q]; rfl)
  rw [zAct_61 hx e, e1, nI_1]
  exact if_neg (nI_nlt (a := 4) (b := S + 1) (by omega) (by omega))
theorem zMm_act {B : Int} {G : Mem} {w : V} (h : zMm B G) (hw : zInv (B + 1) w) : zMm (B + 1) (zAct G (some w)) := by
  obtain ⟨hI, ⟨x, hx, e⟩, ⟨S, hS, e1⟩, hj⟩ := h
  refine ⟨hw, ⟨(x + 1) % 4, Nat.mod_lt _ (by omega), ?_⟩, ?_, fun r hr j hj2 => ?_⟩
  · show zUp (zRec G) 0 w 6 0 = _
    rw [zUp_n _ _ (by omega), zRec_x hx e]
    unfold zRecX
    rw [zUp_s, zu_n _ _ (by omega), zu_s]
  · by_cases q : G 6 1 = 4
    · exact ⟨4, by omega, zAct_4 hx e hS e1 q⟩
    · refine ⟨S + 1, ?_, by rw [zAct_n4 hx e hS e1 q, e1, nI_1]⟩
      have : S ≠ 4 := fun k => q (by rw [e1, k]; rfl)
      omega
  · show zUp (zRec G) 0 w r j = 0
    by_cases q : r = 0
    · subst q
      rw [zUp_s]
      exact hw.1.2.2.2.2 j hj2
    · rw [zUp_n _ _ q, zRec_x hx e]
      unfold zRecX
      rw [zUp_n _ _ (by omega)]
      by_cases q2 : r = 2 + x
      · rw [q2, zUp_s]; exact hj 0 (by omega) j hj2
      · rw [zUp_n _ _ q2]; exact hj r hr j hj2
theorem aN_m {Y : Nat} : 1 ≤ aN Y ∧ aN Y ≤ 9999 := by
  unfold aN
  split <;> omega
theorem aAct_st {B : Int} {v : V} {Y : Nat} (hB : 0 ≤ B ∧ B ≤ 1000) (h : zInv B v) : zStep B (aAct v Y) := by
  unfold aAct
  split
  · exact kTable_st h
  · split
    · exact kPin_st (z_b01 _) h
    · split
      · split
        · exact kThrow_st h
        · exact kMake_st hB.2 h
      · split
        · exact kSet_st hB.2 h
        · exact kAsk_st hB h
theorem aAct_ask {v : V} {Y z mm : Nat} (ez : z = Y / 16 % 9) (em : mm = aN Y) (hk : 3 < Y % 16) : aAct v Y = ((fAsk v z (nI mm)).1, some (fAsk v z (nI mm)).2) := by
  have n0 : ∀ q : Nat, q < 4 → ¬ nI (Y % 16) = nI q := fun q hq w => by
    have := (nI_eq (a := Y % 16) (b := q) (by omega) (by omega)).mp w
    omega
  have m0 : ¬ nI (Y % 16) = 0 := n0 0 (by omega)
  have m1 : ¬ nI (Y % 16) = 1 := n0 1 (by omega)
  have m2 : ¬ nI (Y % 16) = 2 := n0 2 (by omega)
  have m3 : ¬ nI (Y % 16) = 3 := n0 3 (by omega)
  unfold aAct
  rw [if_neg m0, if_neg m1, if_neg m2, if_neg m3, ez, em]
  exact kask (by omega) (okN_m aN_m)
theorem kThrow_2 {v w : V} {x t : Int32} (h : kThrow v x = (t, some w)) : t = fK w 12 := by
  unfold kThrow at h
  split at h
  · injection h with h1 h2
    injection h2 with h2
    rw [← h1, ← h2]
  · injection h with h1 h2
    cases h2
theorem kMake_2 {v w : V} {x w1 n lo hi t : Int32} (h : kMake v x w1 n lo hi = (t, some w)) : t = fK w 12 := by
  unfold kMake at h
  split at h
  · split at h
    · split at h
      · split at h
        · injection h with h1 h2; cases h2
        · split at h
          · injection h with h1 h2; cases h2
          · split at h
            · injection h with h1 h2; cases h2
            · split at h
              · injection h with h1 h2; cases h2
              · split at h
                · injection h with h1 h2
                  injection h2 with h2
                  rw [← h1, ← h2]
                · injection h with h1 h2; cases h2
      · injection h with h1 h2; cases h2
    · injection h with h1 h2; cases h2
  · injection h with h1 h2; cases h2
theorem aAct_2 {v w : V} {Y : Nat} {t : Int32} (hk : Y % 16 = 2) (h : aAct v Y = (t, some w)) : t = fK w 12 := by
  have m0 : ¬ nI (Y % 16) = 0 := by rw [hk]; decide
  have m1 : ¬ nI (Y % 16) = 1 := by rw [hk]; decide
  have m2 : nI (Y % 16) = 2 := by rw [hk]; rfl
  unfold aAct at h
  rw [if_neg m0, if_neg m1, if_pos m2] at h
  split at h
  · exact kThrow_2 h
  · exact kMake_2 h
/-! what is told ahead -/
section PRE
variable {B : Int} {v : V} {z : Nat} {n : Int32}
theorem if_1h (hw : fWhy v z n = 0) : fIf v z n 1 = v (13 + 11 * z + 1) := by
  unfold fIf
  rw [if_pos hw, if_neg (show ¬ (1 : Int32) = 0 by decide), if_pos rfl]
theorem if_1m (hw : ¬ fWhy v z n = 0) : fIf v z n 1 = fBest v z n := by
  unfold fIf
  rw [if_neg hw, if_neg (show ¬ (1 : Int32) = 0 by decide), if_pos rfl]
theorem if_0h (hw : fWhy v z n = 0) : fIf v z n 0 = fCost v z (fIf v z n 1) n + 0 := by
  rw [if_1h hw]
  unfold fIf
  rw [if_pos hw, if_pos rfl]
theorem if_0m (hw : ¬ fWhy v z n = 0) : fIf v z n 0 = fCost v z (fIf v z n 1) n + v 8 := by
  rw [if_1m hw]
  unfold fIf
  rw [if_neg hw, if_pos rfl]
theorem if_2h (hw : fWhy v z n = 0) : fIf v z n 2 = if fDear v z (fCost v z (v (13 + 11 * z + 1)) n) = true then 1 else 0 := by
  unfold fIf
  rw [if_pos hw, if_neg (show ¬ (2 : Int32) = 0 by decide), if_neg (show ¬ (2 : Int32) = 1 by decide), if_pos (show (2 : Int32) = 2 from rfl)]
theorem if_2m (hw : ¬ fWhy v z n = 0) : fIf v z n 2 = 0 := by
  unfold fIf
  rw [if_neg hw, if_neg (show ¬ (2 : Int32) = 0 by decide), if_neg (show ¬ (2 : Int32) = 1 by decide), if_pos rfl]
theorem if_3h (hw : fWhy v z n = 0) : fIf v z n 3 = -4 := by
  unfold fIf
  rw [if_pos hw, if_neg (show ¬ (3 : Int32) = 0 by decide), if_neg (show ¬ (3 : Int32) = 1 by decide), if_neg (show ¬ (3 : Int32) = 2 by decide), if_pos rfl]
theorem if_3m (hw : ¬ fWhy v z n = 0) : fIf v z n 3 = fFirst v z := by
  unfold fIf
  rw [if_neg hw, if_neg (show ¬ (3 : Int32) = 0 by decide), if_neg (show ¬ (3 : Int32) = 1 by decide), if_neg (show ¬ (3 : Int32) = 2 by decide), if_pos rfl]
theorem if_4 : fIf v z n 4 = fIf v z n 0 - fCost v z (fBest v z n) n := by
  have a0 : ¬ (4 : Int32) = 0 := by decide
  have a1 : ¬ (4 : Int32) = 1 := by decide
  have a2 : ¬ (4 : Int32) = 2 := by decide
  have a3 : ¬ (4 : Int32) = 3 := by decide
  by_cases hw : fWhy v z n = 0
  · rw [if_0h hw, if_1h hw]
    unfold fIf
    rw [if_pos hw, if_neg a0, if_neg a1, if_neg a2, if_neg a3]
  · rw [if_0m hw, if_1m hw]
    unfold fIf
    rw [if_neg hw, if_neg a0, if_neg a1, if_neg a2, if_neg a3]
theorem if_w (hz : z < 12) (h : zInv B v) : okW (fIf v z n 1) := by
  by_cases hw : fWhy v z n = 0
  · rw [if_1h hw]
    exact okW_w (h.1.2.2.2.1 z hz (fWhy_kept hw)).1
  · rw [if_1m hw]
    exact okW_w fBest_3
theorem if_4n (hz : z < 12) (hn : okN z n) (h : zInv B v) : ¬ fIf v z n 4 < 0 := by
  have hb := fCost_ok (w := fBest v z n) h.1.2.1 hz (okN_0 hn)
  have h8 := h.1.2.2.1.1
  rw [if_4]
  by_cases hw : fWhy v z n = 0
  · have hway := (h.1.2.2.2.1 z hz (fWhy_kept hw)).1
    have hc := fCost_ok (w := fIf v z n 1) h.1.2.1 hz (okN_0 hn)
    have hle := fBest_le (v := v) (z := z) (n := n) (w := fIf v z n 1) (by rw [if_1h hw]; exact hway)
    rw [t_i] at hle
    rw [if_0h hw, Int32.add_zero, t_i, t_0, t_sub (by omega) (by omega)]
    omega
  · rw [if_0m hw, if_1m hw, t_i, t_0]
    have e : (fCost v z (fBest v z n) n + v 8).toInt = (fCost v z (fBest v z n) n).toInt + (v 8).toInt := t_add (by omega) (by omega)
    rw [t_sub (by omega) (by omega), e]
    omega
theorem fFirst_f (h : ¬ fFirst v z = -4) : fLacks v z = true ∧ v (13 + 11 * z + 0) = 0 ∧ ∃ S, S < 12 ∧ fFirst v z = nI S ∧ fOldest v = nI S ∧ ¬ v (13 + 11 * S + 0) = 0 ∧ v (13 + 11 * S + 8) = 0 := by
  unfold fFirst at h ⊢
  by_cases q : fLacks v z = true
  · rw [if_pos q] at h ⊢
    have q2 := q
    unfold fLacks at q2
    rw [decide_eq_true_eq] at q2
    rcases fO_nat v 12 with k | ⟨S, h1, h2, -, h3, h4⟩
    · exact absurd k h
    · exact ⟨q, q2.1, S, h1, h2, h2, h3, h4⟩
  · rw [if_neg q] at h
    exact absurd rfl h
theorem if_out7 (hw : ¬ fWhy v z n = 0) (h : ¬ fIf v z n 3 = -4) : kPlan v (fIf v z n 3) 7 = 0 ∧ v (13 + 11 * z + 0) = 0 := by
  rw [if_3m hw] at h ⊢
  obtain ⟨-, h0, S, hS, e, -, h1, h2⟩ := fFirst_f h
  rw [e, kp7 hS h1]
  exact ⟨h2, h0⟩
end PRE
/-! behind a question -/
section POST
variable {B : Int} {v w : V} {z : Nat} {n : Int32}
theorem ask_0 (hz : z < 12) (h : zInv B v) : (fAsk v z n).1 = fIf v z n 0 := by
  by_cases hw : fWhy v z n = 0
  · rw [if_0h hw, if_1h hw, fAsk_h hz hw, Int32.add_zero]
  · rw [if_0m hw, if_1m hw, fAsk_m hz hw (iS_9 h.1.2.2.1)]
theorem ask_o (hz : z < 12) {m : V} {r : Int32} {j : Nat} (hj : j < 148 ∨ (149 ≤ j ∧ j < 152)) (e : fAsk v z n = (r, fEnd m z r)) : (fAsk v z n).2 j = m j := by
  rw [e]
  exact fEnd_o hz (by omega)
theorem ask_145 (hz : z < 12) (h : zInv B v) : (fAsk v z n).2 145 = v 145 + 1 := by
  by_cases hw : fWhy v z n = 0
  · rw [ask_o hz (by omega) (fAsk_h hz hw), mHitD_145 hz]
  · rw [ask_o hz (by omega) (fAsk_m hz hw (iS_9 h.1.2.2.1)), mMissP_o hz (by omega) (by omega), mMiss_145]
theorem ask_146h (hz : z < 12) (hw : fWhy v z n = 0) : (fAsk v z n).2 146 = v 146 + 1 := by
  rw [ask_o hz (by omega) (fAsk_h hz hw), mHitD_146 hz]
theorem ask_146m (hz : z < 12) (h : zInv B v) (hw : ¬ fWhy v z n = 0) : (fAsk v z n).2 146 = v 146 + 0 := by
  rw [ask_o hz (by omega) (fAsk_m hz hw (iS_9 h.1.2.2.1)), mMissP_o hz (by omega) (by omega), mMiss_o (by omega) (by omega) (by omega), Int32.add_zero]
theorem ask_148 (hz : z < 12) (h : zInv B v) : (fAsk v z n).2 148 = v 148 + (fAsk v z n).1 := by
  by_cases hw : fWhy v z n = 0
  · rw [fAsk_h hz hw]
    show fEnd _ z _ 148 = _
    rw [fEnd_148 hz, mHitD_o hz (by omega) (by omega) (by omega) (by omega)]
  · rw [fAsk_m hz hw (iS_9 h.1.2.2.1)]
    show fEnd _ z _ 148 = _
    rw [fEnd_148 hz, mMissP_o hz (by omega) (by omega), mMiss_o (by omega) (by omega) (by omega)]
theorem ask_150 (hz : z < 12) (h : zInv B v) : (fAsk v z n).2 150 = v 150 + fIf v z n 2 := by
  by_cases hw : fWhy v z n = 0
  · rw [ask_o hz (by omega) (fAsk_h hz hw), mHitD_150 hz, if_2h hw]
  · rw [ask_o hz (by omega) (fAsk_m hz hw (iS_9 h.1.2.2.1)), mMissP_o hz (by omega) (by omega), mMiss_o (by omega) (by omega) (by omega), if_2m hw, Int32.add_zero]
theorem ask_out (hz : z < 12) (hB : B ≤ 1000) (h : zInv B v) (hw : ¬ fWhy v z n = 0) (ho : ¬ fIf v z n 3 = -4) : v 151 < (fAsk v z n).2 151 ∧ kPlan (fAsk v z n).2 (fIf v z n 3) 0 = -1 := by
  rw [if_3m hw] at ho ⊢
  obtain ⟨hl, h0, S, hS, e, eo, h1, h2⟩ := fFirst_f ho
  have h9 := h.2.2.2.2.1
  have hs := h.1.2.2.1.2.2.2.1
  obtain ⟨R, hR, eR, fR⟩ := t_of (x := v 11) (N := 12) (by omega) (by omega)
  have M : ∀ j, j ≠ 145 → j ≠ 147 → j ≠ 149 → mMiss v j = v j := fun j a1 a2 a3 => mMiss_o a1 a2 a3
  have hl2 : fLacks (mMiss v) z = true := by
    rw [fLacks_co hz (fun j a1 a2 => M j (by omega) (by omega) (by omega)) (M 11 (by omega) (by omega) (by omega))]
    exact hl
  have eo2 : fOldest (mMiss v) = nI S := by
    rw [fOldest_co (fun j a1 a2 => M j (by omega) (by omega) (by omega))]
    exact eo
  obtain ⟨nn, hn1, -, hn2, er⟩ := fLacks_n (v := mMiss v) (s := z) (R := R) (by rw [M 11 (by omega) (by omega) (by omega)]; exact eR) (by omega) hR hl2
  obtain ⟨n', rfl⟩ : ∃ n', nn = n' + 1 := ⟨nn - 1, by omega⟩
  have ec : fRoom (mMiss v) z = fCrowd n' (fKill (mMiss v) S) := by
    rw [er, fCrowd, if_neg (by rw [eo2]; exact nI_pos (by omega)), eo2, nI_clamp (by omega)]
  have e151 := M 151 (by omega) (by omega) (by omega)
  obtain ⟨k1, k2⟩ := zLs_kill (v := mMiss v) hS (by rw [e151]; omega)
  obtain ⟨l1, l2, l3, l4⟩ := zLs_crowd n' (fKill (mMiss v) S) (by rw [k2, e151]; omega)
  have hzS : S ≠ z := fun q => h1 (by rw [q]; exact h0)
  have dead : fRoom (mMiss v) z (13 + 11 * S + 0) = 0 := by
    rw [ec]
    refine fCrowd_k0 hS n' _ ?_
    unfold fKill
    rw [zu_n _ _ (by omega), zu_s]
  have ea := fAsk_m hz hw (iS_9 h.1.2.2.1)
  refine ⟨?_, ?_⟩
  · rw [ask_o hz (by omega) ea, mMissP_151 hz, ec, t_i]
    rw [e151] at k2
    omega
  · rw [e]
    refine kpn hS ?_
    rw [ask_o hz (by omega) ea]
    unfold mMissP
    split
    · rw [fPlace_n (by omega)]; exact dead
    · exact dead
theorem ask_bad (hz : z < 12) (ht : fIf v z n 2 = 1) : (fAsk v z n).2 (13 + 11 * z + 0) = 0 := by
  by_cases hw : fWhy v z n = 0
  · rw [if_2h hw] at ht
    rw [ask_o hz (by omega) (fAsk_h hz hw)]
    unfold mHitD
    by_cases q : fDear v z (fCost v z (v (13 + 11 * z + 1)) n) = true
    · rw [if_pos q, zu_n _ _ (by omega), zu_s]
    · rw [if_neg q] at ht
      exact absurd ht (by decide)
  · rw [if_2m hw] at ht
    exact absurd ht (by decide)
theorem ask_use (hz : z < 12) (hw : fWhy v z n = 0) (ht : ¬ fIf v z n 2 = 1) : kPlan (fAsk v z n).2 (nI z) 8 = kPlan v (nI z) 8 + 1 := by
  have hk := fWhy_kept hw
  rw [if_2h hw] at ht
  have hd : ¬ fDear v z (fCost v z (v (13 + 11 * z + 1)) n) = true := fun q => ht (if_pos q)
  have e : ∀ j, j < 148 → (fAsk v z n).2 j = mHit v z j := fun j hj => by
    rw [ask_o hz (by omega) (fAsk_h hz hw)]
    unfold mHitD
    rw [if_neg hd]
  rw [kp8 hz hk, kp8 hz (by rw [e _ (by omega), mHit_o (by omega) (by omega) (by omega) (by omega)]; exact hk), e _ (by omega), mHit_9]
theorem ask_new (hz : z < 12) (h : zInv B v) (hw : ¬ fWhy v z n = 0) (hk : ¬ (fAsk v z n).2 (13 + 11 * z + 0) = 0) :
    (fAsk v z n).2 (13 + 11 * z + 4) = n ∧ (fAsk v z n).2 (13 + 11 * z + 9) = 0 ∧ (fAsk v z n).2 145 - (fAsk v z n).2 (13 + 11 * z + 6) = 0 ∧ (fAsk v z n).2 (13 + 11 * z + 2) = n / (fAsk v z n).2 9 ∧ (fAsk v z n).2 (13 + 11 * z + 3) = n * (fAsk v z n).2 9 := by
  have ea := fAsk_m hz hw (iS_9 h.1.2.2.1)
  have e : ∀ j, j < 148 → (fAsk v z n).2 j = mMissP v z n j := fun j hj => ask_o hz (by omega) ea
  rw [e _ (by omega)] at hk
  have e9 : mMissP v z n 9 = v 9 := by rw [mMissP_o hz (by omega) (by omega), mMiss_o (by omega) (by omega) (by omega)]
  by_cases q : fCould (fRoom (mMiss v) z) z = true
  · have ep : mMissP v z n = fPlace (fRoom (mMiss v) z) z (fBest v z n) n (n / v 9) (n * v 9) := if_pos q
    obtain ⟨p0, p1, p2, p3, p4, p5, p6, p7, p8, p9, p10⟩ := fPlace_s (v := fRoom (mMiss v) z) (s := z) (w := fBest v z n) (n := n) (a := n / v 9) (b := n * v 9)
    refine ⟨?_, ?_, ?_, ?_, ?_⟩
    · rw [e _ (by omega), ep]; exact p4
    · rw [e _ (by omega), ep]; exact p9
    · rw [e 145 (by omega), e (13 + 11 * z + 6) (by omega), ep, p6, fPlace_n (by omega)]
      exact Int32.sub_self _
    · rw [e (13 + 11 * z + 2) (by omega), e 9 (by omega), e9, ep]; exact p2
    · rw [e (13 + 11 * z + 3) (by omega), e 9 (by omega), e9, ep]; exact p3
  · exfalso
    have ep : mMissP v z n = fRoom (mMiss v) z := if_neg q
    rw [ep] at hk
    exact q (by unfold fCould; rw [decide_eq_true_eq]; exact Or.inl hk)
end POST
