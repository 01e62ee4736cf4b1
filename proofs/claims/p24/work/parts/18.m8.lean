set_option maxRecDepth 100000 in
set_option maxHeartbeats 4000000 in
theorem c_X5_cost (l : Launch) (D : va_G) (k : Nat → ClassId) (a : Nat → Nat → Nat) (g : Mem) (sh wa nu : Int32) : zI l yX5_cost cX5_cost 4 .int 3 71 D k a [.ref (a 6 0), .int (sh), .int (wa), .int (nu)] (g) (fun r g' => r = (kCost (g 0) sh wa nu) ∧ g' = (g)) := by
  refine zI_of (own := RX5) (by decide +kernel) rfl (Nat.le_of_ble_eq_true rfl) ?_
  intro p e s m args below meth c X Q hret hH ls hl
  obtain ⟨hx, hb, hml, hown, hts⟩ := X.1
  have hl : lv_has ls 4 [(0, .ref (a 6 0)), (1, .int (sh)), (2, .int (wa)), (3, .int (nu))] := hl
  have hH : zH D k a s (g) s.heap [] := hH
  have hH : zH D k a s (zUp g 0 (g 0)) s.heap [] := by rw [zUp_id]; exact hH
  refine lv_iload_n hx hb dX5_cost_0 rfl (lv_at hl 1 rfl) ?_
  refine z_callSi X hH (c_X5_isShape l D k a (zUp g 0 (g 0)) sh) k_X5_62 [] rfl rfl hl.1 (Nat.le_of_ble_eq_true rfl) ⟨Nat.le_of_ble_eq_true rfl, Nat.le_of_ble_eq_true rfl⟩ ⟨Nat.le_refl _, Nat.le_refl _⟩ dX5_cost_1 (fun r1 g2 H locs h3 hH => ?_)
  rw [h3.2] at hH
  rw [h3.1]
  refine b_ifne (P := ¬ sh < 0 ∧ sh < 12) (tgt := 9) hx hb dX5_cost_4 (by decide) (fun c4 => ?_) (fun c4 => ?_)
  · obtain ⟨z, hz, rfl⟩ := zIx (B := 12) (b := 12) rfl (by decide) c4
    have hz1 : iN (nI z) = z := iNn (by omega)
    refine lv_iload_n hx hb dX5_cost_9 rfl (lv_at hl 2 rfl) ?_
    refine z_callSi X hH (c_X5_isWay l D k a (zUp g 0 (g 0)) wa) k_X5_110 [] rfl rfl hl.1 (Nat.le_of_ble_eq_true rfl) ⟨Nat.le_of_ble_eq_true rfl, Nat.le_of_ble_eq_true rfl⟩ ⟨Nat.le_refl _, Nat.le_refl _⟩ dX5_cost_10 (fun r5 g6 H locs h7 hH => ?_)
    rw [h7.2] at hH
    rw [h7.1]
    refine b_ifeq (P := ¬ wa < 0 ∧ wa < 3) (tgt := 26) hx hb dX5_cost_13 (by decide) (fun c8 => ?_) (fun c8 => ?_)
    · refine lv_bipush (v := (-2)) hx hb dX5_cost_26 (by decide) ?_
      exact hret _ _ _ _ _ _ rfl ⟨by simp only [kCost, c4, hz1, c8, okS, okT, okW, okN, hasP, zAct, if_true, if_false, not_true_eq_false, not_false_eq_true, and_self, or_true, true_or, or_false, false_or, and_true, true_and, and_false, false_and, or_self, Bool.false_eq_true, z10], zUp_id _ _⟩ hH dX5_cost_28
    · refine lv_iload_n hx hb dX5_cost_16 rfl (lv_at hl 1 rfl) ?_
      refine lv_iconst (v := 3) hx hb dX5_cost_17 (by decide) ?_
      refine n_irem (A := z) (B := 3) hx hb (z % 3) rfl (by omega) (by omega) (by omega) dX5_cost_18 ?_
      refine lv_iload_n hx hb dX5_cost_19 rfl (lv_at hl 3 rfl) ?_
      refine z_callSi X hH (c_X5_isNumberOf l D k a (zUp g 0 (g 0)) (z % 3) (by omega) nu) k_X5_65 [] rfl rfl hl.1 (Nat.le_of_ble_eq_true rfl) ⟨Nat.le_of_ble_eq_true rfl, Nat.le_of_ble_eq_true rfl⟩ ⟨Nat.le_refl _, Nat.le_refl _⟩ dX5_cost_20 (fun r9 g10 H locs h11 hH => ?_)
      rw [h11.2] at hH
      rw [h11.1]
      refine b_ifne (P := ¬ nu < (if z % 3 = 0 then 0 else 1) ∧ ¬ 9999 < nu) (tgt := 29) hx hb dX5_cost_23 (by decide) (fun c12 => ?_) (fun c12 => ?_)
      · refine lv_aload_n hx hb dX5_cost_29 rfl (lv_at hl 0 rfl) ?_
        refine gf_X5_now X hH q_213 dX5_cost_30 ?_
        refine lv_iload_n hx hb dX5_cost_33 rfl (lv_at hl 1 rfl) ?_
        refine lv_iload_n hx hb dX5_cost_34 rfl (lv_at hl 2 rfl) ?_
        refine lv_iload_n hx hb dX5_cost_35 rfl (lv_at hl 3 rfl) ?_
        refine z_callVi X hH (c_X3_priceBy l D k a g (g 0) (z) (by omega) wa nu) k_X5_153 (rv_X3 X hH (by omega)) [] rfl rfl hl.1 (Nat.le_of_ble_eq_true rfl) ⟨Nat.le_of_ble_eq_true rfl, Nat.le_of_ble_eq_true rfl⟩ ⟨Nat.le_refl _, Nat.le_refl _⟩ dX5_cost_36 (fun r13 g14 H locs h15 hH => ?_)
        rw [h15.2] at hH
        rw [h15.1]
        exact hret _ _ _ _ _ _ rfl ⟨by simp only [kCost, c4, hz1, c8, c12, okS, okT, okW, okN, hasP, zAct, if_true, if_false, not_true_eq_false, not_false_eq_true, and_self, or_true, true_or, or_false, false_or, and_true, true_and, and_false, false_and, or_self, Bool.false_eq_true, z10], zUp_id _ _⟩ hH dX5_cost_39
      · refine lv_bipush (v := (-2)) hx hb dX5_cost_26 (by decide) ?_
        exact hret _ _ _ _ _ _ rfl ⟨by simp only [kCost, c4, hz1, c8, c12, okS, okT, okW, okN, hasP, zAct, if_true, if_false, not_true_eq_false, not_false_eq_true, and_self, or_true, true_or, or_false, false_or, and_true, true_and, and_false, false_and, or_self, Bool.false_eq_true, z10], zUp_id _ _⟩ hH dX5_cost_28
  · refine lv_iconst (v := (-1)) hx hb dX5_cost_7 (by decide) ?_
    exact hret _ _ _ _ _ _ rfl ⟨by simp only [kCost, c4, okS, okT, okW, okN, hasP, zAct, if_true, if_false, not_true_eq_false, not_false_eq_true, and_self, or_true, true_or, or_false, false_or, and_true, true_and, and_false, false_and, or_self, Bool.false_eq_true, z10], zUp_id _ _⟩ hH dX5_cost_8
set_option maxRecDepth 100000 in
set_option maxHeartbeats 4000000 in
theorem c_X5_cheapest (l : Launch) (D : va_G) (k : Nat → ClassId) (a : Nat → Nat → Nat) (g : Mem) (sh nu : Int32) : zI l yX5_cheapest cX5_cheapest 3 .int 4 97 D k a [.ref (a 6 0), .int (sh), .int (nu)] (g) (fun r g' => r = (kCheap (g 0) sh nu) ∧ g' = (g)) := by
  refine zI_of (own := RX5) (by decide +kernel) rfl (Nat.le_of_ble_eq_true rfl) ?_
  intro p e s m args below meth c X Q hret hH ls hl
  obtain ⟨hx, hb, hml, hown, hts⟩ := X.1
  have hl : lv_has ls 3 [(0, .ref (a 6 0)), (1, .int (sh)), (2, .int (nu))] := hl
  have hH : zH D k a s (g) s.heap [] := hH
  have hH : zH D k a s (zUp g 0 (g 0)) s.heap [] := by rw [zUp_id]; exact hH
  refine lv_iload_n hx hb dX5_cheapest_0 rfl (lv_at hl 1 rfl) ?_
  refine z_callSi X hH (c_X5_isShape l D k a (zUp g 0 (g 0)) sh) k_X5_62 [] rfl rfl hl.1 (Nat.le_of_ble_eq_true rfl) ⟨Nat.le_of_ble_eq_true rfl, Nat.le_of_ble_eq_true rfl⟩ ⟨Nat.le_refl _, Nat.le_refl _⟩ dX5_cheapest_1 (fun r1 g2 H locs h3 hH => ?_)
  rw [h3.2] at hH
  rw [h3.1]
  refine b_ifne (P := ¬ sh < 0 ∧ sh < 12) (tgt := 9) hx hb dX5_cheapest_4 (by decide) (fun c4 => ?_) (fun c4 => ?_)
  · obtain ⟨z, hz, rfl⟩ := zIx (B := 12) (b := 12) rfl (by decide) c4
    have hz1 : iN (nI z) = z := iNn (by omega)
    refine lv_iload_n hx hb dX5_cheapest_9 rfl (lv_at hl 1 rfl) ?_
    refine lv_iconst (v := 3) hx hb dX5_cheapest_10 (by decide) ?_
    refine n_irem (A := z) (B := 3) hx hb (z % 3) rfl (by omega) (by omega) (by omega) dX5_cheapest_11 ?_
    refine lv_iload_n hx hb dX5_cheapest_12 rfl (lv_at hl 2 rfl) ?_
    refine z_callSi X hH (c_X5_isNumberOf l D k a (zUp g 0 (g 0)) (z % 3) (by omega) nu) k_X5_65 [] rfl rfl hl.1 (Nat.le_of_ble_eq_true rfl) ⟨Nat.le_of_ble_eq_true rfl, Nat.le_of_ble_eq_true rfl⟩ ⟨Nat.le_refl _, Nat.le_refl _⟩ dX5_cheapest_13 (fun r5 g6 H locs h7 hH => ?_)
    rw [h7.2] at hH
    rw [h7.1]
    refine b_ifne (P := ¬ nu < (if z % 3 = 0 then 0 else 1) ∧ ¬ 9999 < nu) (tgt := 22) hx hb dX5_cheapest_16 (by decide) (fun c8 => ?_) (fun c8 => ?_)
    · refine lv_aload_n hx hb dX5_cheapest_22 rfl (lv_at hl 0 rfl) ?_
      refine gf_X5_now X hH q_213 dX5_cheapest_23 ?_
      refine lv_iload_n hx hb dX5_cheapest_26 rfl (lv_at hl 1 rfl) ?_
      refine lv_iload_n hx hb dX5_cheapest_27 rfl (lv_at hl 2 rfl) ?_
      refine z_callVi X hH (c_X3_cheapestWay l D k a g (g 0) (z) (by omega) nu) k_X5_157 (rv_X3 X hH (by omega)) [] rfl rfl hl.1 (Nat.le_of_ble_eq_true rfl) ⟨Nat.le_of_ble_eq_true rfl, Nat.le_of_ble_eq_true rfl⟩ ⟨Nat.le_refl _, Nat.le_refl _⟩ dX5_cheapest_28 (fun r9 g10 H locs h11 hH => ?_)
      rw [h11.2] at hH
      rw [h11.1]
      exact hret _ _ _ _ _ _ rfl ⟨by simp only [kCheap, c4, hz1, c8, okS, okT, okW, okN, hasP, zAct, if_true, if_false, not_true_eq_false, not_false_eq_true, and_self, or_true, true_or, or_false, false_or, and_true, true_and, and_false, false_and, or_self, Bool.false_eq_true, z10], zUp_id _ _⟩ hH dX5_cheapest_31
    · refine lv_bipush (v := (-2)) hx hb dX5_cheapest_19 (by decide) ?_
      exact hret _ _ _ _ _ _ rfl ⟨by simp only [kCheap, c4, hz1, c8, okS, okT, okW, okN, hasP, zAct, if_true, if_false, not_true_eq_false, not_false_eq_true, and_self, or_true, true_or, or_false, false_or, and_true, true_and, and_false, false_and, or_self, Bool.false_eq_true, z10], zUp_id _ _⟩ hH dX5_cheapest_21
  · refine lv_iconst (v := (-1)) hx hb dX5_cheapest_7 (by decide) ?_
    exact hret _ _ _ _ _ _ rfl ⟨by simp only [kCheap, c4, okS, okT, okW, okN, hasP, zAct, if_true, if_false, not_true_eq_false, not_false_eq_true, and_self, or_true, true_or, or_false, false_or, and_true, true_and, and_false, false_and, or_self, Bool.false_eq_true, z10], zUp_id _ _⟩ hH dX5_cheapest_8
set_option maxRecDepth 100000 in
set_option maxHeartbeats 4000000 in
theorem c_X5_reason (l : Launch) (D : va_G) (k : Nat → ClassId) (a : Nat → Nat → Nat) (g : Mem) (sh nu : Int32) : zI l yX5_reason cX5_reason 3 .int 3 66 D k a [.ref (a 6 0), .int (sh), .int (nu)] (g) (fun r g' => r = (kReason (g 0) sh nu) ∧ g' = (g)) := by
  refine zI_of (own := RX5) (by decide +kernel) rfl (Nat.le_of_ble_eq_true rfl) ?_
  intro p e s m args below meth c X Q hret hH ls hl
  obtain ⟨hx, hb, hml, hown, hts⟩ := X.1
  have hl : lv_has ls 3 [(0, .ref (a 6 0)), (1, .int (sh)), (2, .int (nu))] := hl
  have hH : zH D k a s (g) s.heap [] := hH
  have hH : zH D k a s (zUp g 0 (g 0)) s.heap [] := by rw [zUp_id]; exact hH
  refine lv_iload_n hx hb dX5_reason_0 rfl (lv_at hl 1 rfl) ?_
  refine z_callSi X hH (c_X5_isShape l D k a (zUp g 0 (g 0)) sh) k_X5_62 [] rfl rfl hl.1 (Nat.le_of_ble_eq_true rfl) ⟨Nat.le_of_ble_eq_true rfl, Nat.le_of_ble_eq_true rfl⟩ ⟨Nat.le_refl _, Nat.le_refl _⟩ dX5_reason_1 (fun r1 g2 H locs h3 hH => ?_)
  rw [h3.2] at hH
  rw [h3.1]
  refine b_ifne (P := ¬ sh < 0 ∧ sh < 12) (tgt := 9) hx hb dX5_reason_4 (by decide) (fun c4 => ?_) (fun c4 => ?_)
  · obtain ⟨z, hz, rfl⟩ := zIx (B := 12) (b := 12) rfl (by decide) c4
    have hz1 : iN (nI z) = z := iNn (by omega)
    refine lv_iload_n hx hb dX5_reason_9 rfl (lv_at hl 1 rfl) ?_
    refine lv_iconst (v := 3) hx hb dX5_reason_10 (by decide) ?_
    refine n_irem (A := z) (B := 3) hx hb (z % 3) rfl (by omega) (by omega) (by omega) dX5_reason_11 ?_
    refine lv_iload_n hx hb dX5_reason_12 rfl (lv_at hl 2 rfl) ?_
    refine z_callSi X hH (c_X5_isNumberOf l D k a (zUp g 0 (g 0)) (z % 3) (by omega) nu) k_X5_65 [] rfl rfl hl.1 (Nat.le_of_ble_eq_true rfl) ⟨Nat.le_of_ble_eq_true rfl, Nat.le_of_ble_eq_true rfl⟩ ⟨Nat.le_refl _, Nat.le_refl _⟩ dX5_reason_13 (fun r5 g6 H locs h7 hH => ?_)
    rw [h7.2] at hH
    rw [h7.1]
    refine b_ifne (P := ¬ nu < (if z % 3 = 0 then 0 else 1) ∧ ¬ 9999 < nu) (tgt := 22) hx hb dX5_reason_16 (by decide) (fun c8 => ?_) (fun c8 => ?_)
    · refine lv_aload_n hx hb dX5_reason_22 rfl (lv_at hl 0 rfl) ?_
      refine gf_X5_now X hH q_213 dX5_reason_23 ?_
      refine lv_iload_n hx hb dX5_reason_26 rfl (lv_at hl 1 rfl) ?_
      refine lv_iload_n hx hb dX5_reason_27 rfl (lv_at hl 2 rfl) ?_
      refine z_callVi X hH (c_X3_whyNotUsed l D k a g (g 0) (z) (by omega) nu) k_X5_191 (rv_X3 X hH (by omega)) [] rfl rfl hl.1 (Nat.le_of_ble_eq_true rfl) ⟨Nat.le_of_ble_eq_true rfl, Nat.le_of_ble_eq_true rfl⟩ ⟨Nat.le_refl _, Nat.le_refl _⟩ dX5_reason_28 (fun r9 g10 H locs h11 hH => ?_)
      rw [h11.2] at hH
      rw [h11.1]
      exact hret _ _ _ _ _ _ rfl ⟨by simp only [kReason, c4, hz1, c8, okS, okT, okW, okN, hasP, zAct, if_true, if_false, not_true_eq_false, not_false_eq_true, and_self, or_true, true_or, or_false, false_or, and_true, true_and, and_false, false_and, or_self, Bool.false_eq_true, z10], zUp_id _ _⟩ hH dX5_reason_31
    · refine lv_bipush (v := (-2)) hx hb dX5_reason_19 (by decide) ?_
      exact hret _ _ _ _ _ _ rfl ⟨by simp only [kReason, c4, hz1, c8, okS, okT, okW, okN, hasP, zAct, if_true, if_false, not_true_eq_false, not_false_eq_true, and_self, or_true, true_or, or_false, false_or, and_true, true_and, and_false, false_and, or_self, Bool.false_eq_true, z10], zUp_id _ _⟩ hH dX5_reason_21
  · refine lv_iconst (v := (-1)) hx hb dX5_reason_7 (by decide) ?_
    exact hret _ _ _ _ _ _ rfl ⟨by simp only [kReason, c4, okS, okT, okW, okN, hasP, zAct, if_true, if_false, not_true_eq_false, not_false_eq_true, and_self, or_true, true_or, or_false, false_or, and_true, true_and, and_false, false_and, or_self, Bool.false_eq_true, z10], zUp_id _ _⟩ hH dX5_reason_8
set_option maxRecDepth 100000 in
set_option maxHeartbeats 4000000 in
theorem c_X5_oldest (l : Launch) (D : va_G) (k : Nat → ClassId) (a : Nat → Nat → Nat) (g : Mem) : zI l yX5_oldest cX5_oldest 1 .int 1 25 D k a [.ref (a 6 0)] (g) (fun r g' => r = (fOldest (g 0)) ∧ g' = (g)) := by
  refine zI_of (own := RX5) (by decide +kernel) rfl (Nat.le_of_ble_eq_true rfl) ?_
  intro p e s m args below meth c X Q hret hH ls hl
  obtain ⟨hx, hb, hml, hown, hts⟩ := X.1
  have hl : lv_has ls 1 [(0, .ref (a 6 0))] := hl
  have hH : zH D k a s (g) s.heap [] := hH
  have hH : zH D k a s (zUp g 0 (g 0)) s.heap [] := by rw [zUp_id]; exact hH
  refine lv_aload_n hx hb dX5_oldest_0 rfl (lv_at hl 0 rfl) ?_
  refine gf_X5_now X hH q_213 dX5_oldest_1 ?_
  refine z_callVi X hH (c_X3_oldestUnpinned l D k a g (g 0)) k_X5_204 (rv_X3 X hH (by omega)) [] rfl rfl hl.1 (Nat.le_of_ble_eq_true rfl) ⟨Nat.le_of_ble_eq_true rfl, Nat.le_of_ble_eq_true rfl⟩ ⟨Nat.le_refl _, Nat.le_refl _⟩ dX5_oldest_4 (fun r1 g2 H locs h3 hH => ?_)
  rw [h3.2] at hH
  rw [h3.1]
  exact hret _ _ _ _ _ _ rfl ⟨by simp only [fOldest, okS, okT, okW, okN, hasP, zAct, if_true, if_false, not_true_eq_false, not_false_eq_true, and_self, or_true, true_or, or_false, false_or, and_true, true_and, and_false, false_and, or_self, Bool.false_eq_true, z10], zUp_id _ _⟩ hH dX5_oldest_7
set_option maxRecDepth 100000 in
set_option maxHeartbeats 4000000 in
theorem c_X5_plan (l : Launch) (D : va_G) (k : Nat → ClassId) (a : Nat → Nat → Nat) (g : Mem) (hf : zFl (g 0)) (sh wh : Int32) : zI l yX5_plan cX5_plan 4 .int 3 64 D k a [.ref (a 6 0), .int (sh), .int (wh)] (g) (fun r g' => r = (kPlan (g 0) sh wh) ∧ g' = (g)) := by
  refine zI_of (own := RX5) (by decide +kernel) rfl (Nat.le_of_ble_eq_true rfl) ?_
  intro p e s m args below meth c X Q hret hH ls hl
  obtain ⟨hx, hb, hml, hown, hts⟩ := X.1
  have hl : lv_has ls 4 [(0, .ref (a 6 0)), (1, .int (sh)), (2, .int (wh))] := hl
  have hH : zH D k a s (g) s.heap [] := hH
  have hH : zH D k a s (zUp g 0 (g 0)) s.heap [] := by rw [zUp_id]; exact hH
  refine lv_aload_n hx hb dX5_plan_0 rfl (lv_at hl 0 rfl) ?_
  refine lv_iload_n hx hb dX5_plan_1 rfl (lv_at hl 1 rfl) ?_
  refine z_callVi X hH (c_X5_hasPlan l D k a g (g 0) sh) k_X5_89 (rv_X5 X hH) [] rfl rfl hl.1 (Nat.le_of_ble_eq_true rfl) ⟨Nat.le_of_ble_eq_true rfl, Nat.le_of_ble_eq_true rfl⟩ ⟨Nat.le_refl _, Nat.le_refl _⟩ dX5_plan_2 (fun r1 g2 H locs h3 hH => ?_)
  rw [h3.2] at hH
  rw [h3.1]
  refine b_ifne (P := hasP (g 0) sh) (tgt := 10) hx hb dX5_plan_5 (by decide) (fun c4 => ?_) (fun c4 => ?_)
  · obtain ⟨z, hz, rfl⟩ := zIx (B := 12) (b := 12) rfl (by decide) c4.1
    have hz1 : iN (nI z) = z := iNn (by omega)
    have hz2 : ¬ g 0 (13 + 11 * z + 0) = 0 := by have q9 := c4.2; rw [hz1] at q9; exact q9
    refine lv_aload_n hx hb dX5_plan_10 rfl (lv_at hl 0 rfl) ?_
    refine gf_X5_now X hH q_213 dX5_plan_11 ?_
    refine gf_X3_plans X hH (by omega) q_121 dX5_plan_14 ?_
    refine lv_iload_n hx hb dX5_plan_17 rfl (lv_at hl 1 rfl) ?_
    refine ar_plans X hH (by omega) (z) (by omega) dX5_plan_18 ?_
    refine lv_astore_n (lv' := [(3, .ref (a 0 (8 + z))), (0, .ref (a 6 0)), (1, .int (nI z)), (2, .int (wh))]) hx hb dX5_plan_19 rfl hl (by decide) rfl (fun ls hl => ?_)
    refine lv_iload_n hx hb dX5_plan_20 rfl (lv_at hl 3 rfl) ?_
    by_cases c5 : wh = 0
    · refine lv_tableIn (off := 59) (tgt := 80) hx hb dX5_plan_21 (by rw [c5]; decide) (by rw [c5]; decide) (by rw [c5]; rfl) (by decide) ?_
      refine lv_aload_n hx hb dX5_plan_80 rfl (lv_at hl 0 rfl) ?_
      refine gn_X1_way X hH (by omega) q_70 dX5_plan_81 ?_
      exact hret _ _ _ _ _ _ rfl ⟨by simp only [kPlan, c4, hz1, hz2, if_pos c5, okS, okT, okW, okN, hasP, zAct, if_true, if_false, not_true_eq_false, not_false_eq_true, and_self, or_true, true_or, or_false, false_or, and_true, true_and, and_false, false_and, or_self, Bool.false_eq_true, z10], zUp_id _ _⟩ hH dX5_plan_84
    by_cases c6 : wh = 1
    · refine lv_tableIn (off := 64) (tgt := 85) hx hb dX5_plan_21 (by rw [c6]; decide) (by rw [c6]; decide) (by rw [c6]; rfl) (by decide) ?_
      refine lv_aload_n hx hb dX5_plan_85 rfl (lv_at hl 0 rfl) ?_
      refine gn_X1_least X hH (by omega) q_73 dX5_plan_86 ?_
      exact hret _ _ _ _ _ _ rfl ⟨by simp only [kPlan, c4, hz1, hz2, c5, if_pos c6, okS, okT, okW, okN, hasP, zAct, if_true, if_false, not_true_eq_false, not_false_eq_true, and_self, or_true, true_or, or_false, false_or, and_true, true_and, and_false, false_and, or_self, Bool.false_eq_true, z10], zUp_id _ _⟩ hH dX5_plan_89
    by_cases c7 : wh = 2
    · refine lv_tableIn (off := 69) (tgt := 90) hx hb dX5_plan_21 (by rw [c7]; decide) (by rw [c7]; decide) (by rw [c7]; rfl) (by decide) ?_
      refine lv_aload_n hx hb dX5_plan_90 rfl (lv_at hl 0 rfl) ?_
      refine gn_X1_most X hH (by omega) q_76 dX5_plan_91 ?_
      exact hret _ _ _ _ _ _ rfl ⟨by simp only [kPlan, c4, hz1, hz2, c5, c6, if_pos c7, okS, okT, okW, okN, hasP, zAct, if_true, if_false, not_true_eq_false, not_false_eq_true, and_self, or_true, true_or, or_false, false_or, and_true, true_and, and_false, false_and, or_self, Bool.false_eq_true, z10], zUp_id _ _⟩ hH dX5_plan_94
    by_cases c8 : wh = 3
    · refine lv_tableIn (off := 74) (tgt := 95) hx hb dX5_plan_21 (by rw [c8]; decide) (by rw [c8]; decide) (by rw [c8]; rfl) (by decide) ?_
      refine lv_aload_n hx hb dX5_plan_95 rfl (lv_at hl 0 rfl) ?_
      refine gn_X1_number X hH (by omega) q_79 dX5_plan_96 ?_
      exact hret _ _ _ _ _ _ rfl ⟨by simp only [kPlan, c4, hz1, hz2, c5, c6, c7, if_pos c8, okS, okT, okW, okN, hasP, zAct, if_true, if_false, not_true_eq_false, not_false_eq_true, and_self, or_true, true_or, or_false, false_or, and_true, true_and, and_false, false_and, or_self, Bool.false_eq_true, z10], zUp_id _ _⟩ hH dX5_plan_99
    by_cases c9 : wh = 4
    · refine lv_tableIn (off := 79) (tgt := 100) hx hb dX5_plan_21 (by rw [c9]; decide) (by rw [c9]; decide) (by rw [c9]; rfl) (by decide) ?_
      refine lv_aload_n hx hb dX5_plan_100 rfl (lv_at hl 0 rfl) ?_
      refine gn_X1_guess X hH (by omega) q_82 dX5_plan_101 ?_
      exact hret _ _ _ _ _ _ rfl ⟨by simp only [kPlan, c4, hz1, hz2, c5, c6, c7, c8, if_pos c9, okS, okT, okW, okN, hasP, zAct, if_true, if_false, not_true_eq_false, not_false_eq_true, and_self, or_true, true_or, or_false, false_or, and_true, true_and, and_false, false_and, or_self, Bool.false_eq_true, z10], zUp_id _ _⟩ hH dX5_plan_104
    by_cases c10 : wh = 5
    · refine lv_tableIn (off := 84) (tgt := 105) hx hb dX5_plan_21 (by rw [c10]; decide) (by rw [c10]; decide) (by rw [c10]; rfl) (by decide) ?_
      refine lv_aload_n hx hb dX5_plan_105 rfl (lv_at hl 1 rfl) ?_
      refine gf_X5_now X hH q_213 dX5_plan_106 ?_
      refine gn_X3_questions X hH q_125 dX5_plan_109 ?_
      refine lv_aload_n hx hb dX5_plan_112 rfl (lv_at hl 0 rfl) ?_
      refine gn_X1_madeAt X hH (by omega) q_91 dX5_plan_113 ?_
      refine lv_isub hx hb dX5_plan_116 ?_
      exact hret _ _ _ _ _ _ rfl ⟨by simp only [kPlan, c4, hz1, hz2, c5, c6, c7, c8, c9, if_pos c10, okS, okT, okW, okN, hasP, zAct, if_true, if_false, not_true_eq_false, not_false_eq_true, and_self, or_true, true_or, or_false, false_or, and_true, true_and, and_false, false_and, or_self, Bool.false_eq_true, z10], zUp_id _ _⟩ hH dX5_plan_117
    by_cases c11 : wh = 6
    · refine lv_tableIn (off := 97) (tgt := 118) hx hb dX5_plan_21 (by rw [c11]; decide) (by rw [c11]; decide) (by rw [c11]; rfl) (by decide) ?_
      refine lv_aload_n hx hb dX5_plan_118 rfl (lv_at hl 1 rfl) ?_
      refine gf_X5_now X hH q_213 dX5_plan_119 ?_
      refine lv_iload_n hx hb dX5_plan_122 rfl (lv_at hl 2 rfl) ?_
      refine z_callVi X hH (c_X3_isStale l D k a g (g 0) (z) (by omega)) k_X5_181 (rv_X3 X hH (by omega)) [] rfl rfl hl.1 (Nat.le_of_ble_eq_true rfl) ⟨Nat.le_of_ble_eq_true rfl, Nat.le_of_ble_eq_true rfl⟩ ⟨Nat.le_refl _, Nat.le_refl _⟩ dX5_plan_123 (fun r12 g13 H locs h14 hH => ?_)
      rw [h14.2] at hH
      rw [h14.1]
      refine b_ifeq (P := fChanged (g 0) z = true ∨ fOld (g 0) z = true) (tgt := 133) hx hb dX5_plan_126 (by decide) (fun c15 => ?_) (fun c15 => ?_)
      · refine lv_iconst (v := 0) hx hb dX5_plan_133 (by decide) ?_
        exact hret _ _ _ _ _ _ rfl ⟨by simp only [kPlan, c4, hz1, hz2, c5, c6, c7, c8, c9, c10, if_pos c11, c15, okS, okT, okW, okN, hasP, zAct, if_true, if_false, not_true_eq_false, not_false_eq_true, and_self, or_true, true_or, or_false, false_or, and_true, true_and, and_false, false_and, or_self, Bool.false_eq_true, z10], zUp_id _ _⟩ hH dX5_plan_134
      · refine lv_iconst (v := 1) hx hb dX5_plan_129 (by decide) ?_
        refine lv_goto (tgt := 134) hx hb dX5_plan_130 (by decide) ?_
        exact hret _ _ _ _ _ _ rfl ⟨by simp only [kPlan, c4, hz1, hz2, c5, c6, c7, c8, c9, c10, if_pos c11, c15, okS, okT, okW, okN, hasP, zAct, if_true, if_false, not_true_eq_false, not_false_eq_true, and_self, or_true, true_or, or_false, false_or, and_true, true_and, and_false, false_and, or_self, Bool.false_eq_true, z10], zUp_id _ _⟩ hH dX5_plan_134
    by_cases c16 : wh = 7
    · refine lv_tableIn (off := 114) (tgt := 135) hx hb dX5_plan_21 (by rw [c16]; decide) (by rw [c16]; decide) (by rw [c16]; rfl) (by decide) ?_
      refine lv_aload_n hx hb dX5_plan_135 rfl (lv_at hl 0 rfl) ?_
      refine gn_X1_pinned X hH (by omega) q_66 dX5_plan_136 ?_
      refine lv_if_eq (tgt := 146) hx hb dX5_plan_139 (by decide) (fun c17 => ?_) (fun c17 => ?_)
      · refine lv_iconst (v := 0) hx hb dX5_plan_146 (by decide) ?_
        exact hret _ _ _ _ _ _ rfl ⟨by simp only [kPlan, c4, hz1, hz2, c5, c6, c7, c8, c9, c10, c11, if_pos c16, c17, okS, okT, okW, okN, hasP, zAct, if_true, if_false, not_true_eq_false, not_false_eq_true, and_self, or_true, true_or, or_false, false_or, and_true, true_and, and_false, false_and, or_self, Bool.false_eq_true, z10], zUp_id _ _⟩ hH dX5_plan_147
      · have hp1 : g 0 (13 + 11 * z + 8) = 1 := (hf z hz).2.resolve_left c17
        refine lv_iconst (v := 1) hx hb dX5_plan_142 (by decide) ?_
        refine lv_goto (tgt := 147) hx hb dX5_plan_143 (by decide) ?_
        exact hret _ _ _ _ _ _ rfl ⟨by simp only [kPlan, c4, hz1, hz2, c5, c6, c7, c8, c9, c10, c11, if_pos c16, hp1, okS, okT, okW, okN, hasP, zAct, if_true, if_false, not_true_eq_false, not_false_eq_true, and_self, or_true, true_or, or_false, false_or, and_true, true_and, and_false, false_and, or_self, Bool.false_eq_true, z10], zUp_id _ _⟩ hH dX5_plan_147
    by_cases c18 : wh = 8
    · refine lv_tableIn (off := 127) (tgt := 148) hx hb dX5_plan_21 (by rw [c18]; decide) (by rw [c18]; decide) (by rw [c18]; rfl) (by decide) ?_
      refine lv_aload_n hx hb dX5_plan_148 rfl (lv_at hl 0 rfl) ?_
      refine gn_X1_uses X hH (by omega) q_88 dX5_plan_149 ?_
      exact hret _ _ _ _ _ _ rfl ⟨by simp only [kPlan, c4, hz1, hz2, c5, c6, c7, c8, c9, c10, c11, c16, if_pos c18, okS, okT, okW, okN, hasP, zAct, if_true, if_false, not_true_eq_false, not_false_eq_true, and_self, or_true, true_or, or_false, false_or, and_true, true_and, and_false, false_and, or_self, Bool.false_eq_true, z10], zUp_id _ _⟩ hH dX5_plan_152
    by_cases c19 : wh = 9
    · refine lv_tableIn (off := 132) (tgt := 153) hx hb dX5_plan_21 (by rw [c19]; decide) (by rw [c19]; decide) (by rw [c19]; rfl) (by decide) ?_
      refine lv_aload_n hx hb dX5_plan_153 rfl (lv_at hl 1 rfl) ?_
      refine gf_X5_now X hH q_213 dX5_plan_154 ?_
      refine gn_X3_questions X hH q_125 dX5_plan_157 ?_
      refine lv_aload_n hx hb dX5_plan_160 rfl (lv_at hl 0 rfl) ?_
      refine gn_X1_usedAt X hH (by omega) q_94 dX5_plan_161 ?_
      refine lv_isub hx hb dX5_plan_164 ?_
      exact hret _ _ _ _ _ _ rfl ⟨by simp only [kPlan, c4, hz1, hz2, c5, c6, c7, c8, c9, c10, c11, c16, c18, if_pos c19, okS, okT, okW, okN, hasP, zAct, if_true, if_false, not_true_eq_false, not_false_eq_true, and_self, or_true, true_or, or_false, false_or, and_true, true_and, and_false, false_and, or_self, Bool.false_eq_true, z10], zUp_id _ _⟩ hH dX5_plan_165
    by_cases c20 : wh = 10
    · refine lv_tableIn (off := 145) (tgt := 166) hx hb dX5_plan_21 (by rw [c20]; decide) (by rw [c20]; decide) (by rw [c20]; rfl) (by decide) ?_
      refine lv_aload_n hx hb dX5_plan_166 rfl (lv_at hl 0 rfl) ?_
      refine gn_X1_rows X hH (by omega) q_85 dX5_plan_167 ?_
      exact hret _ _ _ _ _ _ rfl ⟨by simp only [kPlan, c4, hz1, hz2, c5, c6, c7, c8, c9, c10, c11, c16, c18, c19, if_pos c20, okS, okT, okW, okN, hasP, zAct, if_true, if_false, not_true_eq_false, not_false_eq_true, and_self, or_true, true_or, or_false, false_or, and_true, true_and, and_false, false_and, or_self, Bool.false_eq_true, z10], zUp_id _ _⟩ hH dX5_plan_170
    refine lv_tableOut (tgt := 171) hx hb dX5_plan_21 (by have q0 := lv_neT (a := 0) c5 (by decide); have q1 := lv_neT (a := 1) c6 (by decide); have q2 := lv_neT (a := 2) c7 (by decide); have q3 := lv_neT (a := 3) c8 (by decide); have q4 := lv_neT (a := 4) c9 (by decide); have q5 := lv_neT (a := 5) c10 (by decide); have q6 := lv_neT (a := 6) c11 (by decide); have q7 := lv_neT (a := 7) c16 (by decide); have q8 := lv_neT (a := 8) c18 (by decide); have q9 := lv_neT (a := 9) c19 (by decide); have q10 := lv_neT (a := 10) c20 (by decide); omega) (by decide) ?_
    refine lv_bipush (v := (-2)) hx hb dX5_plan_171 (by decide) ?_
    exact hret _ _ _ _ _ _ rfl ⟨by simp only [kPlan, c4, hz1, hz2, c5, c6, c7, c8, c9, c10, c11, c16, c18, c19, c20, okS, okT, okW, okN, hasP, zAct, if_true, if_false, not_true_eq_false, not_false_eq_true, and_self, or_true, true_or, or_false, false_or, and_true, true_and, and_false, false_and, or_self, Bool.false_eq_true, z10], zUp_id _ _⟩ hH dX5_plan_173
  · refine lv_iconst (v := (-1)) hx hb dX5_plan_8 (by decide) ?_
    exact hret _ _ _ _ _ _ rfl ⟨by simp only [kPlan, c4, okS, okT, okW, okN, hasP, zAct, if_true, if_false, not_true_eq_false, not_false_eq_true, and_self, or_true, true_or, or_false, false_or, and_true, true_and, and_false, false_and, or_self, Bool.false_eq_true, z10], zUp_id _ _⟩ hH dX5_plan_9
set_option maxRecDepth 100000 in
set_option maxHeartbeats 4000000 in
theorem c_X5_tableOf (l : Launch) (D : va_G) (k : Nat → ClassId) (a : Nat → Nat → Nat) (g : Mem) (ta wh : Int32) : zI l yX5_tableOf cX5_tableOf 4 .int 1 23 D k a [.ref (a 6 0), .int (ta), .int (wh)] (g) (fun r g' => r = (kTableOf (g 0) ta wh) ∧ g' = (g)) := by
  refine zI_of (own := RX5) (by decide +kernel) rfl (Nat.le_of_ble_eq_true rfl) ?_
  intro p e s m args below meth c X Q hret hH ls hl
  obtain ⟨hx, hb, hml, hown, hts⟩ := X.1
  have hl : lv_has ls 4 [(0, .ref (a 6 0)), (1, .int (ta)), (2, .int (wh))] := hl
  have hH : zH D k a s (g) s.heap [] := hH
  have hH : zH D k a s (zUp g 0 (g 0)) s.heap [] := by rw [zUp_id]; exact hH
  refine lv_iload_n hx hb dX5_tableOf_0 rfl (lv_at hl 1 rfl) ?_
  refine z_callSi X hH (c_X5_isTable l D k a (zUp g 0 (g 0)) ta) k_X5_37 [] rfl rfl hl.1 (Nat.le_of_ble_eq_true rfl) ⟨Nat.le_of_ble_eq_true rfl, Nat.le_of_ble_eq_true rfl⟩ ⟨Nat.le_refl _, Nat.le_refl _⟩ dX5_tableOf_1 (fun r1 g2 H locs h3 hH => ?_)
  rw [h3.2] at hH
  rw [h3.1]
  refine b_ifne (P := ¬ ta < 0 ∧ ta < 4) (tgt := 9) hx hb dX5_tableOf_4 (by decide) (fun c4 => ?_) (fun c4 => ?_)
  · obtain ⟨q, hq, rfl⟩ := zIx (B := 4) (b := 4) rfl (by decide) c4
    have hq1 : iN (nI q) = q := iNn (by omega)
    refine lv_aload_n hx hb dX5_tableOf_9 rfl (lv_at hl 0 rfl) ?_
    refine gf_X5_now X hH q_213 dX5_tableOf_10 ?_
    refine gf_X3_tables X hH (by omega) q_119 dX5_tableOf_13 ?_
    refine lv_iload_n hx hb dX5_tableOf_16 rfl (lv_at hl 1 rfl) ?_
    refine ar_tabs X hH (by omega) (q) (by omega) dX5_tableOf_17 ?_
    refine lv_astore_n (lv' := [(3, .ref (a 0 (4 + q))), (0, .ref (a 6 0)), (1, .int (nI q)), (2, .int (wh))]) hx hb dX5_tableOf_18 rfl hl (by decide) rfl (fun ls hl => ?_)
    refine lv_iload_n hx hb dX5_tableOf_19 rfl (lv_at hl 3 rfl) ?_
    by_cases c5 : wh = 0
    · refine lv_tableIn (off := 36) (tgt := 56) hx hb dX5_tableOf_20 (by rw [c5]; decide) (by rw [c5]; decide) (by rw [c5]; rfl) (by decide) ?_
      refine lv_aload_n hx hb dX5_tableOf_56 rfl (lv_at hl 0 rfl) ?_
      refine gn_X4_rows X hH (by omega) q_36 dX5_tableOf_57 ?_
      exact hret _ _ _ _ _ _ rfl ⟨by simp only [kTableOf, c4, hq1, if_pos c5, okS, okT, okW, okN, hasP, zAct, if_true, if_false, not_true_eq_false, not_false_eq_true, and_self, or_true, true_or, or_false, false_or, and_true, true_and, and_false, false_and, or_self, Bool.false_eq_true, z10], zUp_id _ _⟩ hH dX5_tableOf_60
    by_cases c6 : wh = 1
    · refine lv_tableIn (off := 41) (tgt := 61) hx hb dX5_tableOf_20 (by rw [c6]; decide) (by rw [c6]; decide) (by rw [c6]; rfl) (by decide) ?_
      refine lv_aload_n hx hb dX5_tableOf_61 rfl (lv_at hl 0 rfl) ?_
      refine gn_X4_keys X hH (by omega) q_39 dX5_tableOf_62 ?_
      exact hret _ _ _ _ _ _ rfl ⟨by simp only [kTableOf, c4, hq1, c5, if_pos c6, okS, okT, okW, okN, hasP, zAct, if_true, if_false, not_true_eq_false, not_false_eq_true, and_self, or_true, true_or, or_false, false_or, and_true, true_and, and_false, false_and, or_self, Bool.false_eq_true, z10], zUp_id _ _⟩ hH dX5_tableOf_65
    by_cases c7 : wh = 2
    · refine lv_tableIn (off := 46) (tgt := 66) hx hb dX5_tableOf_20 (by rw [c7]; decide) (by rw [c7]; decide) (by rw [c7]; rfl) (by decide) ?_
      refine lv_aload_n hx hb dX5_tableOf_66 rfl (lv_at hl 1 rfl) ?_
      refine gf_X5_now X hH q_213 dX5_tableOf_67 ?_
      refine lv_iload_n hx hb dX5_tableOf_70 rfl (lv_at hl 2 rfl) ?_
      refine z_callVi X hH (c_X3_keptPlansOf l D k a g (g 0) (q) (by omega)) k_X5_207 (rv_X3 X hH (by omega)) [] rfl rfl hl.1 (Nat.le_of_ble_eq_true rfl) ⟨Nat.le_of_ble_eq_true rfl, Nat.le_of_ble_eq_true rfl⟩ ⟨Nat.le_refl _, Nat.le_refl _⟩ dX5_tableOf_71 (fun r8 g9 H locs h10 hH => ?_)
      rw [h10.2] at hH
      rw [h10.1]
      exact hret _ _ _ _ _ _ rfl ⟨by simp only [kTableOf, c4, hq1, c5, c6, if_pos c7, okS, okT, okW, okN, hasP, zAct, if_true, if_false, not_true_eq_false, not_false_eq_true, and_self, or_true, true_or, or_false, false_or, and_true, true_and, and_false, false_and, or_self, Bool.false_eq_true, z10], zUp_id _ _⟩ hH dX5_tableOf_74
    by_cases c11 : wh = 3
    · refine lv_tableIn (off := 55) (tgt := 75) hx hb dX5_tableOf_20 (by rw [c11]; decide) (by rw [c11]; decide) (by rw [c11]; rfl) (by decide) ?_
      refine lv_aload_n hx hb dX5_tableOf_75 rfl (lv_at hl 0 rfl) ?_
      refine gn_X4_questions X hH (by omega) q_43 dX5_tableOf_76 ?_
      exact hret _ _ _ _ _ _ rfl ⟨by simp only [kTableOf, c4, hq1, c5, c6, c7, if_pos c11, okS, okT, okW, okN, hasP, zAct, if_true, if_false, not_true_eq_false, not_false_eq_true, and_self, or_true, true_or, or_false, false_or, and_true, true_and, and_false, false_and, or_self, Bool.false_eq_true, z10], zUp_id _ _⟩ hH dX5_tableOf_79
    by_cases c12 : wh = 4
    · refine lv_tableIn (off := 60) (tgt := 80) hx hb dX5_tableOf_20 (by rw [c12]; decide) (by rw [c12]; decide) (by rw [c12]; rfl) (by decide) ?_
      refine lv_aload_n hx hb dX5_tableOf_80 rfl (lv_at hl 0 rfl) ?_
      refine gn_X4_spent X hH (by omega) q_46 dX5_tableOf_81 ?_
      exact hret _ _ _ _ _ _ rfl ⟨by simp only [kTableOf, c4, hq1, c5, c6, c7, c11, if_pos c12, okS, okT, okW, okN, hasP, zAct, if_true, if_false, not_true_eq_false, not_false_eq_true, and_self, or_true, true_or, or_false, false_or, and_true, true_and, and_false, false_and, or_self, Bool.false_eq_true, z10], zUp_id _ _⟩ hH dX5_tableOf_84
    refine lv_tableOut (tgt := 85) hx hb dX5_tableOf_20 (by have q0 := lv_neT (a := 0) c5 (by decide); have q1 := lv_neT (a := 1) c6 (by decide); have q2 := lv_neT (a := 2) c7 (by decide); have q3 := lv_neT (a := 3) c11 (by decide); have q4 := lv_neT (a := 4) c12 (by decide); omega) (by decide) ?_
    refine lv_bipush (v := (-2)) hx hb dX5_tableOf_85 (by decide) ?_
    exact hret _ _ _ _ _ _ rfl ⟨by simp only [kTableOf, c4, hq1, c5, c6, c7, c11, c12, okS, okT, okW, okN, hasP, zAct, if_true, if_false, not_true_eq_false, not_false_eq_true, and_self, or_true, true_or, or_false, false_or, and_true, true_and, and_false, false_and, or_self, Bool.false_eq_true, z10], zUp_id _ _⟩ hH dX5_tableOf_87
  · refine lv_iconst (v := (-1)) hx hb dX5_tableOf_7 (by decide) ?_
    exact hret _ _ _ _ _ _ rfl ⟨by simp only [kTableOf, c4, okS, okT, okW, okN, hasP, zAct, if_true, if_false, not_true_eq_false, not_false_eq_true, and_self, or_true, true_or, or_false, false_or, and_true, true_and, and_false, false_and, or_self, Bool.false_eq_true, z10], zUp_id _ _⟩ hH dX5_tableOf_8
set_option maxRecDepth 100000 in
set_option maxHeartbeats 4000000 in
theorem c_X5_count (l : Launch) (D : va_G) (k : Nat → ClassId) (a : Nat → Nat → Nat) (g : Mem) (wh : Int32) : zI l yX5_count cX5_count 2 .int 4 86 D k a [.ref (a 6 0), .int (wh)] (g) (fun r g' => r = (kCount (g 0) (g 6 1) (g 6 2) wh) ∧ g' = (g)) := by
  refine zI_of (own := RX5) (by decide +kernel) rfl (Nat.le_of_ble_eq_true rfl) ?_
  intro p e s m args below meth c X Q hret hH ls hl
  obtain ⟨hx, hb, hml, hown, hts⟩ := X.1
  have hl : lv_has ls 2 [(0, .ref (a 6 0)), (1, .int (wh))] := hl
  have hH : zH D k a s (g) s.heap [] := hH
  have hH : zH D k a s (zUp g 0 (g 0)) s.heap [] := by rw [zUp_id]; exact hH
  refine lv_iload_n hx hb dX5_count_0 rfl (lv_at hl 1 rfl) ?_
  by_cases c1 : wh = 0
  · refine lv_tableIn (off := 83) (tgt := 84) hx hb dX5_count_1 (by rw [c1]; decide) (by rw [c1]; decide) (by rw [c1]; rfl) (by decide) ?_
    refine lv_aload_n hx hb dX5_count_84 rfl (lv_at hl 0 rfl) ?_
    refine gf_X5_now X hH q_213 dX5_count_85 ?_
    refine z_callVi X hH (c_X3_keptPlans l D k a g (g 0)) k_X5_107 (rv_X3 X hH (by omega)) [] rfl rfl hl.1 (Nat.le_of_ble_eq_true rfl) ⟨Nat.le_of_ble_eq_true rfl, Nat.le_of_ble_eq_true rfl⟩ ⟨Nat.le_refl _, Nat.le_refl _⟩ dX5_count_88 (fun r2 g3 H locs h4 hH => ?_)
    rw [h4.2] at hH
    rw [h4.1]
    exact hret _ _ _ _ _ _ rfl ⟨by simp only [kCount, if_pos c1, okS, okT, okW, okN, hasP, zAct, if_true, if_false, not_true_eq_false, not_false_eq_true, and_self, or_true, true_or, or_false, false_or, and_true, true_and, and_false, false_and, or_self, Bool.false_eq_true, z10], zUp_id _ _⟩ hH dX5_count_91
  by_cases c5 : wh = 1
  · refine lv_tableIn (off := 91) (tgt := 92) hx hb dX5_count_1 (by rw [c5]; decide) (by rw [c5]; decide) (by rw [c5]; rfl) (by decide) ?_
    refine lv_aload_n hx hb dX5_count_92 rfl (lv_at hl 0 rfl) ?_
    refine gf_X5_now X hH q_213 dX5_count_93 ?_
    refine z_callVi X hH (c_X3_pinnedPlans l D k a g (g 0)) k_X5_101 (rv_X3 X hH (by omega)) [] rfl rfl hl.1 (Nat.le_of_ble_eq_true rfl) ⟨Nat.le_of_ble_eq_true rfl, Nat.le_of_ble_eq_true rfl⟩ ⟨Nat.le_refl _, Nat.le_refl _⟩ dX5_count_96 (fun r6 g7 H locs h8 hH => ?_)
    rw [h8.2] at hH
    rw [h8.1]
    exact hret _ _ _ _ _ _ rfl ⟨by simp only [kCount, c1, if_pos c5, okS, okT, okW, okN, hasP, zAct, if_true, if_false, not_true_eq_false, not_false_eq_true, and_self, or_true, true_or, or_false, false_or, and_true, true_and, and_false, false_and, or_self, Bool.false_eq_true, z10], zUp_id _ _⟩ hH dX5_count_99
  by_cases c9 : wh = 2
  · refine lv_tableIn (off := 99) (tgt := 100) hx hb dX5_count_1 (by rw [c9]; decide) (by rw [c9]; decide) (by rw [c9]; rfl) (by decide) ?_
    refine lv_aload_n hx hb dX5_count_100 rfl (lv_at hl 0 rfl) ?_
    refine gf_X5_now X hH q_213 dX5_count_101 ?_
    refine z_callVi X hH (c_X3_stalePlans l D k a g (g 0)) k_X5_214 (rv_X3 X hH (by omega)) [] rfl rfl hl.1 (Nat.le_of_ble_eq_true rfl) ⟨Nat.le_of_ble_eq_true rfl, Nat.le_of_ble_eq_true rfl⟩ ⟨Nat.le_refl _, Nat.le_refl _⟩ dX5_count_104 (fun r10 g11 H locs h12 hH => ?_)
    rw [h12.2] at hH
    rw [h12.1]
    exact hret _ _ _ _ _ _ rfl ⟨by simp only [kCount, c1, c5, if_pos c9, okS, okT, okW, okN, hasP, zAct, if_true, if_false, not_true_eq_false, not_false_eq_true, and_self, or_true, true_or, or_false, false_or, and_true, true_and, and_false, false_and, or_self, Bool.false_eq_true, z10], zUp_id _ _⟩ hH dX5_count_107
  by_cases c13 : wh = 3
  · refine lv_tableIn (off := 107) (tgt := 108) hx hb dX5_count_1 (by rw [c13]; decide) (by rw [c13]; decide) (by rw [c13]; rfl) (by decide) ?_
    refine lv_aload_n hx hb dX5_count_108 rfl (lv_at hl 0 rfl) ?_
    refine gf_X5_now X hH q_213 dX5_count_109 ?_
    refine gn_X3_questions X hH q_125 dX5_count_112 ?_
    exact hret _ _ _ _ _ _ rfl ⟨by simp only [kCount, c1, c5, c9, if_pos c13, okS, okT, okW, okN, hasP, zAct, if_true, if_false, not_true_eq_false, not_false_eq_true, and_self, or_true, true_or, or_false, false_or, and_true, true_and, and_false, false_and, or_self, Bool.false_eq_true, z10], zUp_id _ _⟩ hH dX5_count_115
  by_cases c14 : wh = 4
  · refine lv_tableIn (off := 115) (tgt := 116) hx hb dX5_count_1 (by rw [c14]; decide) (by rw [c14]; decide) (by rw [c14]; rfl) (by decide) ?_
    refine lv_aload_n hx hb dX5_count_116 rfl (lv_at hl 0 rfl) ?_
    refine gf_X5_now X hH q_213 dX5_count_117 ?_
    refine gn_X3_hits X hH q_127 dX5_count_120 ?_
    exact hret _ _ _ _ _ _ rfl ⟨by simp only [kCount, c1, c5, c9, c13, if_pos c14, okS, okT, okW, okN, hasP, zAct, if_true, if_false, not_true_eq_false, not_false_eq_true, and_self, or_true, true_or, or_false, false_or, and_true, true_and, and_false, false_and, or_self, Bool.false_eq_true, z10], zUp_id _ _⟩ hH dX5_count_123
  by_cases c15 : wh = 5
  · refine lv_tableIn (off := 123) (tgt := 124) hx hb dX5_count_1 (by rw [c15]; decide) (by rw [c15]; decide) (by rw [c15]; rfl) (by decide) ?_
    refine lv_aload_n hx hb dX5_count_124 rfl (lv_at hl 0 rfl) ?_
    refine gf_X5_now X hH q_213 dX5_count_125 ?_
    refine gn_X3_misses X hH q_129 dX5_count_128 ?_
    exact hret _ _ _ _ _ _ rfl ⟨by simp only [kCount, c1, c5, c9, c13, c14, if_pos c15, okS, okT, okW, okN, hasP, zAct, if_true, if_false, not_true_eq_false, not_false_eq_true, and_self, or_true, true_or, or_false, false_or, and_true, true_and, and_false, false_and, or_self, Bool.false_eq_true, z10], zUp_id _ _⟩ hH dX5_count_131
  by_cases c16 : wh = 6
  · refine lv_tableIn (off := 131) (tgt := 132) hx hb dX5_count_1 (by rw [c16]; decide) (by rw [c16]; decide) (by rw [c16]; rfl) (by decide) ?_
    refine lv_aload_n hx hb dX5_count_132 rfl (lv_at hl 0 rfl) ?_
    refine gf_X5_now X hH q_213 dX5_count_133 ?_
    refine gn_X3_spent X hH q_131 dX5_count_136 ?_
    exact hret _ _ _ _ _ _ rfl ⟨by simp only [kCount, c1, c5, c9, c13, c14, c15, if_pos c16, okS, okT, okW, okN, hasP, zAct, if_true, if_false, not_true_eq_false, not_false_eq_true, and_self, or_true, true_or, or_false, false_or, and_true, true_and, and_false, false_and, or_self, Bool.false_eq_true, z10], zUp_id _ _⟩ hH dX5_count_139
  by_cases c17 : wh = 7
  · refine lv_tableIn (off := 139) (tgt := 140) hx hb dX5_count_1 (by rw [c17]; decide) (by rw [c17]; decide) (by rw [c17]; rfl) (by decide) ?_
    refine lv_aload_n hx hb dX5_count_140 rfl (lv_at hl 0 rfl) ?_
    refine gf_X5_now X hH q_213 dX5_count_141 ?_
    refine gn_X3_spentLooking X hH q_133 dX5_count_144 ?_
    exact hret _ _ _ _ _ _ rfl ⟨by simp only [kCount, c1, c5, c9, c13, c14, c15, c16, if_pos c17, okS, okT, okW, okN, hasP, zAct, if_true, if_false, not_true_eq_false, not_false_eq_true, and_self, or_true, true_or, or_false, false_or, and_true, true_and, and_false, false_and, or_self, Bool.false_eq_true, z10], zUp_id _ _⟩ hH dX5_count_147
  by_cases c18 : wh = 8
  · refine lv_tableIn (off := 147) (tgt := 148) hx hb dX5_count_1 (by rw [c18]; decide) (by rw [c18]; decide) (by rw [c18]; rfl) (by decide) ?_
    refine lv_aload_n hx hb dX5_count_148 rfl (lv_at hl 0 rfl) ?_
    refine gf_X5_now X hH q_213 dX5_count_149 ?_
    refine gn_X3_turnedBad X hH q_135 dX5_count_152 ?_
    exact hret _ _ _ _ _ _ rfl ⟨by simp only [kCount, c1, c5, c9, c13, c14, c15, c16, c17, if_pos c18, okS, okT, okW, okN, hasP, zAct, if_true, if_false, not_true_eq_false, not_false_eq_true, and_self, or_true, true_or, or_false, false_or, and_true, true_and, and_false, false_and, or_self, Bool.false_eq_true, z10], zUp_id _ _⟩ hH dX5_count_155
  by_cases c19 : wh = 9
  · refine lv_tableIn (off := 155) (tgt := 156) hx hb dX5_count_1 (by rw [c19]; decide) (by rw [c19]; decide) (by rw [c19]; rfl) (by decide) ?_
    refine lv_aload_n hx hb dX5_count_156 rfl (lv_at hl 0 rfl) ?_
    refine gf_X5_now X hH q_213 dX5_count_157 ?_
    refine gn_X3_crowdedOut X hH q_137 dX5_count_160 ?_
    exact hret _ _ _ _ _ _ rfl ⟨by simp only [kCount, c1, c5, c9, c13, c14, c15, c16, c17, c18, if_pos c19, okS, okT, okW, okN, hasP, zAct, if_true, if_false, not_true_eq_false, not_false_eq_true, and_self, or_true, true_or, or_false, false_or, and_true, true_and, and_false, false_and, or_self, Bool.false_eq_true, z10], zUp_id _ _⟩ hH dX5_count_163
  by_cases c20 : wh = 10
  · refine lv_tableIn (off := 163) (tgt := 164) hx hb dX5_count_1 (by rw [c20]; decide) (by rw [c20]; decide) (by rw [c20]; rfl) (by decide) ?_
    refine lv_aload_n hx hb dX5_count_164 rfl (lv_at hl 0 rfl) ?_
    refine gf_X5_now X hH q_213 dX5_count_165 ?_
    refine gf_X3_settings X hH (by omega) q_123 dX5_count_168 ?_
    refine lv_iconst (v := 0) hx hb dX5_count_171 (by decide) ?_
    refine an_sets X hH (0) (by omega) dX5_count_172 ?_
    exact hret _ _ _ _ _ _ rfl ⟨by simp only [kCount, c1, c5, c9, c13, c14, c15, c16, c17, c18, c19, if_pos c20, okS, okT, okW, okN, hasP, zAct, if_true, if_false, not_true_eq_false, not_false_eq_true, and_self, or_true, true_or, or_false, false_or, and_true, true_and, and_false, false_and, or_self, Bool.false_eq_true, z10], zUp_id _ _⟩ hH dX5_count_173
  by_cases c21 : wh = 11
  · refine lv_tableIn (off := 173) (tgt := 174) hx hb dX5_count_1 (by rw [c21]; decide) (by rw [c21]; decide) (by rw [c21]; rfl) (by decide) ?_
    refine lv_aload_n hx hb dX5_count_174 rfl (lv_at hl 0 rfl) ?_
    refine gf_X5_now X hH q_213 dX5_count_175 ?_
    refine gf_X3_settings X hH (by omega) q_123 dX5_count_178 ?_
    refine lv_iconst (v := 1) hx hb dX5_count_181 (by decide) ?_
    refine an_sets X hH (1) (by omega) dX5_count_182 ?_
    exact hret _ _ _ _ _ _ rfl ⟨by simp only [kCount, c1, c5, c9, c13, c14, c15, c16, c17, c18, c19, c20, if_pos c21, okS, okT, okW, okN, hasP, zAct, if_true, if_false, not_true_eq_false, not_false_eq_true, and_self, or_true, true_or, or_false, false_or, and_true, true_and, and_false, false_and, or_self, Bool.false_eq_true, z10], zUp_id _ _⟩ hH dX5_count_183
  by_cases c22 : wh = 12
  · refine lv_tableIn (off := 183) (tgt := 184) hx hb dX5_count_1 (by rw [c22]; decide) (by rw [c22]; decide) (by rw [c22]; rfl) (by decide) ?_
    refine lv_aload_n hx hb dX5_count_184 rfl (lv_at hl 0 rfl) ?_
    refine gf_X5_now X hH q_213 dX5_count_185 ?_
    refine gf_X3_settings X hH (by omega) q_123 dX5_count_188 ?_
    refine lv_iconst (v := 2) hx hb dX5_count_191 (by decide) ?_
    refine an_sets X hH (2) (by omega) dX5_count_192 ?_
    exact hret _ _ _ _ _ _ rfl ⟨by simp only [kCount, c1, c5, c9, c13, c14, c15, c16, c17, c18, c19, c20, c21, if_pos c22, okS, okT, okW, okN, hasP, zAct, if_true, if_false, not_true_eq_false, not_false_eq_true, and_self, or_true, true_or, or_false, false_or, and_true, true_and, and_false, false_and, or_self, Bool.false_eq_true, z10], zUp_id _ _⟩ hH dX5_count_193
  by_cases c23 : wh = 13
  · refine lv_tableIn (off := 193) (tgt := 194) hx hb dX5_count_1 (by rw [c23]; decide) (by rw [c23]; decide) (by rw [c23]; rfl) (by decide) ?_
    refine lv_aload_n hx hb dX5_count_194 rfl (lv_at hl 0 rfl) ?_
    refine gf_X5_now X hH q_213 dX5_count_195 ?_
    refine gf_X3_settings X hH (by omega) q_123 dX5_count_198 ?_
    refine lv_iconst (v := 3) hx hb dX5_count_201 (by decide) ?_
    refine an_sets X hH (3) (by omega) dX5_count_202 ?_
    exact hret _ _ _ _ _ _ rfl ⟨by simp only [kCount, c1, c5, c9, c13, c14, c15, c16, c17, c18, c19, c20, c21, c22, if_pos c23, okS, okT, okW, okN, hasP, zAct, if_true, if_false, not_true_eq_false, not_false_eq_true, and_self, or_true, true_or, or_false, false_or, and_true, true_and, and_false, false_and, or_self, Bool.false_eq_true, z10], zUp_id _ _⟩ hH dX5_count_203
  by_cases c24 : wh = 14
  · refine lv_tableIn (off := 203) (tgt := 204) hx hb dX5_count_1 (by rw [c24]; decide) (by rw [c24]; decide) (by rw [c24]; rfl) (by decide) ?_
    refine lv_aload_n hx hb dX5_count_204 rfl (lv_at hl 0 rfl) ?_
    refine gf_X5_now X hH q_213 dX5_count_205 ?_
    refine gf_X3_settings X hH (by omega) q_123 dX5_count_208 ?_
    refine lv_iconst (v := 4) hx hb dX5_count_211 (by decide) ?_
    refine an_sets X hH (4) (by omega) dX5_count_212 ?_
    exact hret _ _ _ _ _ _ rfl ⟨by simp only [kCount, c1, c5, c9, c13, c14, c15, c16, c17, c18, c19, c20, c21, c22, c23, if_pos c24, okS, okT, okW, okN, hasP, zAct, if_true, if_false, not_true_eq_false, not_false_eq_true, and_self, or_true, true_or, or_false, false_or, and_true, true_and, and_false, false_and, or_self, Bool.false_eq_true, z10], zUp_id _ _⟩ hH dX5_count_213
  by_cases c25 : wh = 15
  · refine lv_tableIn (off := 213) (tgt := 214) hx hb dX5_count_1 (by rw [c25]; decide) (by rw [c25]; decide) (by rw [c25]; rfl) (by decide) ?_
    refine lv_aload_n hx hb dX5_count_214 rfl (lv_at hl 0 rfl) ?_
    refine gf_X5_history X hH q_215 dX5_count_215 ?_
    refine gf_X0_size X hH q_171 dX5_count_218 ?_
    rw [show (zUp g 0 (g 0)) 6 1 = (g 6) 1 from (congrFun (zUp_n _ _ (by omega)) 1)]
    exact hret _ _ _ _ _ _ rfl ⟨by simp only [kCount, c1, c5, c9, c13, c14, c15, c16, c17, c18, c19, c20, c21, c22, c23, c24, if_pos c25, okS, okT, okW, okN, hasP, zAct, if_true, if_false, not_true_eq_false, not_false_eq_true, and_self, or_true, true_or, or_false, false_or, and_true, true_and, and_false, false_and, or_self, Bool.false_eq_true, z10], zUp_id _ _⟩ hH dX5_count_221
  by_cases c26 : wh = 16
  · refine lv_tableIn (off := 221) (tgt := 222) hx hb dX5_count_1 (by rw [c26]; decide) (by rw [c26]; decide) (by rw [c26]; rfl) (by decide) ?_
    refine lv_aload_n hx hb dX5_count_222 rfl (lv_at hl 0 rfl) ?_
    refine gf_X5_text X hH q_216 dX5_count_223 ?_
    refine gf_X2_length X hH q_187 dX5_count_226 ?_
    rw [show (zUp g 0 (g 0)) 6 2 = (g 6) 2 from (congrFun (zUp_n _ _ (by omega)) 2)]
    exact hret _ _ _ _ _ _ rfl ⟨by simp only [kCount, c1, c5, c9, c13, c14, c15, c16, c17, c18, c19, c20, c21, c22, c23, c24, c25, if_pos c26, okS, okT, okW, okN, hasP, zAct, if_true, if_false, not_true_eq_false, not_false_eq_true, and_self, or_true, true_or, or_false, false_or, and_true, true_and, and_false, false_and, or_self, Bool.false_eq_true, z10], zUp_id _ _⟩ hH dX5_count_229
  refine lv_tableOut (tgt := 230) hx hb dX5_count_1 (by have q0 := lv_neT (a := 0) c1 (by decide); have q1 := lv_neT (a := 1) c5 (by decide); have q2 := lv_neT (a := 2) c9 (by decide); have q3 := lv_neT (a := 3) c13 (by decide); have q4 := lv_neT (a := 4) c14 (by decide); have q5 := lv_neT (a := 5) c15 (by decide); have q6 := lv_neT (a := 6) c16 (by decide); have q7 := lv_neT (a := 7) c17 (by decide); have q8 := lv_neT (a := 8) c18 (by decide); have q9 := lv_neT (a := 9) c19 (by decide); have q10 := lv_neT (a := 10) c20 (by decide); have q11 := lv_neT (a := 11) c21 (by decide); have q12 := lv_neT (a := 12) c22 (by decide); have q13 := lv_neT (a := 13) c23 (by decide); have q14 := lv_neT (a := 14) c24 (by decide); have q15 := lv_neT (a := 15) c25 (by decide); have q16 := lv_neT (a := 16) c26 (by decide); omega) (by decide) ?_
  refine lv_bipush (v := (-2)) hx hb dX5_count_230 (by decide) ?_
  exact hret _ _ _ _ _ _ rfl ⟨by simp only [kCount, c1, c5, c9, c13, c14, c15, c16, c17, c18, c19, c20, c21, c22, c23, c24, c25, c26, okS, okT, okW, okN, hasP, zAct, if_true, if_false, not_true_eq_false, not_false_eq_true, and_self, or_true, true_or, or_false, false_or, and_true, true_and, and_false, false_and, or_self, Bool.false_eq_true, z10], zUp_id _ _⟩ hH dX5_count_232
set_option maxRecDepth 100000 in
set_option maxHeartbeats 4000000 in
theorem c_X5_ifAsked (l : Launch) (D : va_G) (k : Nat → ClassId) (a : Nat → Nat → Nat) (g : Mem) (sh nu wh : Int32) : zI l yX5_ifAsked cX5_ifAsked 9 .int 4 97 D k a [.ref (a 6 0), .int (sh), .int (nu), .int (wh)] (g) (fun r g' => r = (kIf (g 0) sh nu wh) ∧ g' = (g)) := by
  refine zI_of (own := RX5) (by decide +kernel) rfl (Nat.le_of_ble_eq_true rfl) ?_
  intro p e s m args below meth c X Q hret hH ls hl
  obtain ⟨hx, hb, hml, hown, hts⟩ := X.1
  have hl : lv_has ls 9 [(0, .ref (a 6 0)), (1, .int (sh)), (2, .int (nu)), (3, .int (wh))] := hl
  have hH : zH D k a s (g) s.heap [] := hH
  have hH : zH D k a s (zUp g 0 (g 0)) s.heap [] := by rw [zUp_id]; exact hH
  refine lv_iload_n hx hb dX5_ifAsked_0 rfl (lv_at hl 1 rfl) ?_
  refine z_callSi X hH (c_X5_isShape l D k a (zUp g 0 (g 0)) sh) k_X5_62 [] rfl rfl hl.1 (Nat.le_of_ble_eq_true rfl) ⟨Nat.le_of_ble_eq_true rfl, Nat.le_of_ble_eq_true rfl⟩ ⟨Nat.le_refl _, Nat.le_refl _⟩ dX5_ifAsked_1 (fun r1 g2 H locs h3 hH => ?_)
  rw [h3.2] at hH
  rw [h3.1]
  refine b_ifne (P := ¬ sh < 0 ∧ sh < 12) (tgt := 9) hx hb dX5_ifAsked_4 (by decide) (fun c4 => ?_) (fun c4 => ?_)
  · obtain ⟨z, hz, rfl⟩ := zIx (B := 12) (b := 12) rfl (by decide) c4
    have hz1 : iN (nI z) = z := iNn (by omega)
    refine lv_iload_n hx hb dX5_ifAsked_9 rfl (lv_at hl 1 rfl) ?_
    refine lv_iconst (v := 3) hx hb dX5_ifAsked_10 (by decide) ?_
    refine n_irem (A := z) (B := 3) hx hb (z % 3) rfl (by omega) (by omega) (by omega) dX5_ifAsked_11 ?_
    refine lv_iload_n hx hb dX5_ifAsked_12 rfl (lv_at hl 2 rfl) ?_
    refine z_callSi X hH (c_X5_isNumberOf l D k a (zUp g 0 (g 0)) (z % 3) (by omega) nu) k_X5_65 [] rfl rfl hl.1 (Nat.le_of_ble_eq_true rfl) ⟨Nat.le_of_ble_eq_true rfl, Nat.le_of_ble_eq_true rfl⟩ ⟨Nat.le_refl _, Nat.le_refl _⟩ dX5_ifAsked_13 (fun r5 g6 H locs h7 hH => ?_)
    rw [h7.2] at hH
    rw [h7.1]
    refine b_ifeq (P := ¬ nu < (if z % 3 = 0 then 0 else 1) ∧ ¬ 9999 < nu) (tgt := 28) hx hb dX5_ifAsked_16 (by decide) (fun c8 => ?_) (fun c8 => ?_)
    · refine lv_bipush (v := (-2)) hx hb dX5_ifAsked_28 (by decide) ?_
      exact hret _ _ _ _ _ _ rfl ⟨by simp only [kIf, fIf, Int32.add_zero, c4, hz1, c8, okS, okT, okW, okN, hasP, zAct, if_true, if_false, not_true_eq_false, not_false_eq_true, and_self, or_true, true_or, or_false, false_or, and_true, true_and, and_false, false_and, or_self, Bool.false_eq_true, z10], zUp_id _ _⟩ hH dX5_ifAsked_30
    · refine lv_iload_n hx hb dX5_ifAsked_19 rfl (lv_at hl 3 rfl) ?_
      refine i_if_lt (tgt := 28) hx hb dX5_ifAsked_20 (by decide) (fun c9 => ?_) (fun c9 => ?_)
      · refine lv_bipush (v := (-2)) hx hb dX5_ifAsked_28 (by decide) ?_
        exact hret _ _ _ _ _ _ rfl ⟨by simp only [kIf, fIf, Int32.add_zero, c4, hz1, c8, c9, okS, okT, okW, okN, hasP, zAct, if_true, if_false, not_true_eq_false, not_false_eq_true, and_self, or_true, true_or, or_false, false_or, and_true, true_and, and_false, false_and, or_self, Bool.false_eq_true, z10], zUp_id _ _⟩ hH dX5_ifAsked_30
      · refine lv_iload_n hx hb dX5_ifAsked_23 rfl (lv_at hl 3 rfl) ?_
        refine lv_iconst (v := 4) hx hb dX5_ifAsked_24 (by decide) ?_
        refine i_icmp_le (tgt := 31) hx hb dX5_ifAsked_25 (by decide) (fun c10 => ?_) (fun c10 => ?_)
        · refine lv_aload_n hx hb dX5_ifAsked_31 rfl (lv_at hl 0 rfl) ?_
          refine gf_X5_now X hH q_213 dX5_ifAsked_32 ?_
          refine lv_iload_n hx hb dX5_ifAsked_35 rfl (lv_at hl 1 rfl) ?_
          refine lv_iload_n hx hb dX5_ifAsked_36 rfl (lv_at hl 2 rfl) ?_
          refine z_callVi X hH (c_X3_whyNotUsed l D k a g (g 0) (z) (by omega) nu) k_X5_191 (rv_X3 X hH (by omega)) [] rfl rfl hl.1 (Nat.le_of_ble_eq_true rfl) ⟨Nat.le_of_ble_eq_true rfl, Nat.le_of_ble_eq_true rfl⟩ ⟨Nat.le_refl _, Nat.le_refl _⟩ dX5_ifAsked_37 (fun r11 g12 H locs h13 hH => ?_)
          rw [h13.2] at hH
          rw [h13.1]
          refine lv_if_ne (tgt := 47) hx hb dX5_ifAsked_40 (by decide) (fun c14 => ?_) (fun c14 => ?_)
          · refine lv_iconst (v := 0) hx hb dX5_ifAsked_47 (by decide) ?_
            refine lv_istore (lv' := [(4, .int 0), (0, .ref (a 6 0)), (1, .int (nI z)), (2, .int (nu)), (3, .int (wh))]) hx hb dX5_ifAsked_48 hl (by decide) rfl (fun ls hl => ?_)
            refine lv_aload_n hx hb dX5_ifAsked_50 rfl (lv_at hl 1 rfl) ?_
            refine gf_X5_now X hH q_213 dX5_ifAsked_51 ?_
            refine lv_iload_n hx hb dX5_ifAsked_54 rfl (lv_at hl 2 rfl) ?_
            refine lv_iload_n hx hb dX5_ifAsked_55 rfl (lv_at hl 3 rfl) ?_
            refine z_callVi X hH (c_X3_cheapestWay l D k a g (g 0) (z) (by omega) nu) k_X5_157 (rv_X3 X hH (by omega)) [] rfl rfl hl.1 (Nat.le_of_ble_eq_true rfl) ⟨Nat.le_of_ble_eq_true rfl, Nat.le_of_ble_eq_true rfl⟩ ⟨Nat.le_refl _, Nat.le_refl _⟩ dX5_ifAsked_56 (fun r15 g16 H locs h17 hH => ?_)
            rw [h17.2] at hH
            rw [h17.1]
            refine lv_istore (lv' := [(5, .int (fBest (g 0) z nu)), (4, .int 0), (0, .ref (a 6 0)), (1, .int (nI z)), (2, .int (nu)), (3, .int (wh))]) hx hb dX5_ifAsked_59 hl (by decide) rfl (fun ls hl => ?_)
            refine lv_iload hx hb dX5_ifAsked_61 (lv_at hl 1 rfl) ?_
            refine lv_if_eq (tgt := 81) hx hb dX5_ifAsked_63 (by decide) (fun _ => ?_) (fun q => absurd (by decide) q)
            refine lv_iload hx hb dX5_ifAsked_81 (lv_at hl 0 rfl) ?_
            refine lv_istore (lv' := [(6, .int (fBest (g 0) z nu)), (5, .int (fBest (g 0) z nu)), (4, .int 0), (0, .ref (a 6 0)), (1, .int (nI z)), (2, .int (nu)), (3, .int (wh))]) hx hb dX5_ifAsked_83 hl (by decide) rfl (fun ls hl => ?_)
            refine lv_aload_n hx hb dX5_ifAsked_85 rfl (lv_at hl 3 rfl) ?_
            refine gf_X5_now X hH q_213 dX5_ifAsked_86 ?_
            refine lv_iload_n hx hb dX5_ifAsked_89 rfl (lv_at hl 4 rfl) ?_
            refine lv_iload hx hb dX5_ifAsked_90 (lv_at hl 0 rfl) ?_
            refine lv_iload_n hx hb dX5_ifAsked_92 rfl (lv_at hl 5 rfl) ?_
            refine z_callVi X hH (c_X3_priceBy l D k a g (g 0) (z) (by omega) (fBest (g 0) z nu) nu) k_X5_153 (rv_X3 X hH (by omega)) [] rfl rfl hl.1 (Nat.le_of_ble_eq_true rfl) ⟨Nat.le_of_ble_eq_true rfl, Nat.le_of_ble_eq_true rfl⟩ ⟨Nat.le_refl _, Nat.le_refl _⟩ dX5_ifAsked_93 (fun r18 g19 H locs h20 hH => ?_)
            rw [h20.2] at hH
            rw [h20.1]
            refine lv_istore (lv' := [(7, .int (fCost (g 0) z (fBest (g 0) z nu) nu)), (6, .int (fBest (g 0) z nu)), (5, .int (fBest (g 0) z nu)), (4, .int 0), (0, .ref (a 6 0)), (1, .int (nI z)), (2, .int (nu)), (3, .int (wh))]) hx hb dX5_ifAsked_96 hl (by decide) rfl (fun ls hl => ?_)
            refine lv_iload hx hb dX5_ifAsked_98 (lv_at hl 3 rfl) ?_
            refine lv_if_eq (tgt := 107) hx hb dX5_ifAsked_100 (by decide) (fun _ => ?_) (fun q => absurd (by decide) q)
            refine lv_aload_n hx hb dX5_ifAsked_107 rfl (lv_at hl 4 rfl) ?_
            refine gf_X5_now X hH q_213 dX5_ifAsked_108 ?_
            refine gf_X3_settings X hH (by omega) q_123 dX5_ifAsked_111 ?_
            refine lv_iconst (v := 0) hx hb dX5_ifAsked_114 (by decide) ?_
            refine an_sets X hH (0) (by omega) dX5_ifAsked_115 ?_
            refine lv_istore (lv' := [(8, .int ((g 0) 8)), (7, .int (fCost (g 0) z (fBest (g 0) z nu) nu)), (6, .int (fBest (g 0) z nu)), (5, .int (fBest (g 0) z nu)), (4, .int 0), (0, .ref (a 6 0)), (1, .int (nI z)), (2, .int (nu)), (3, .int (wh))]) hx hb dX5_ifAsked_116 hl (by decide) rfl (fun ls hl => ?_)
            refine lv_iload_n hx hb dX5_ifAsked_118 rfl (lv_at hl 8 rfl) ?_
            by_cases c21 : wh = 0
            · refine lv_tableIn (off := 29) (tgt := 148) hx hb dX5_ifAsked_119 (by rw [c21]; decide) (by rw [c21]; decide) (by rw [c21]; rfl) (by decide) ?_
              refine lv_iload hx hb dX5_ifAsked_148 (lv_at hl 1 rfl) ?_
              refine lv_iload hx hb dX5_ifAsked_150 (lv_at hl 0 rfl) ?_
              refine lv_iadd hx hb dX5_ifAsked_152 ?_
              exact hret _ _ _ _ _ _ rfl ⟨by simp only [kIf, fIf, Int32.add_zero, c4, hz1, c8, c9, c10, c14, if_pos c21, okS, okT, okW, okN, hasP, zAct, if_true, if_false, not_true_eq_false, not_false_eq_true, and_self, or_true, true_or, or_false, false_or, and_true, true_and, and_false, false_and, or_self, Bool.false_eq_true, z10], zUp_id _ _⟩ hH dX5_ifAsked_153
            by_cases c22 : wh = 1
            · refine lv_tableIn (off := 35) (tgt := 154) hx hb dX5_ifAsked_119 (by rw [c22]; decide) (by rw [c22]; decide) (by rw [c22]; rfl) (by decide) ?_
              refine lv_iload hx hb dX5_ifAsked_154 (lv_at hl 2 rfl) ?_
              exact hret _ _ _ _ _ _ rfl ⟨by simp only [kIf, fIf, Int32.add_zero, c4, hz1, c8, c9, c10, c14, c21, if_pos c22, okS, okT, okW, okN, hasP, zAct, if_true, if_false, not_true_eq_false, not_false_eq_true, and_self, or_true, true_or, or_false, false_or, and_true, true_and, and_false, false_and, or_self, Bool.false_eq_true, z10], zUp_id _ _⟩ hH dX5_ifAsked_156
            by_cases c23 : wh = 2
            · refine lv_tableIn (off := 38) (tgt := 157) hx hb dX5_ifAsked_119 (by rw [c23]; decide) (by rw [c23]; decide) (by rw [c23]; rfl) (by decide) ?_
              refine lv_iload hx hb dX5_ifAsked_157 (lv_at hl 4 rfl) ?_
              refine lv_if_eq (tgt := 179) hx hb dX5_ifAsked_159 (by decide) (fun _ => ?_) (fun q => absurd (by decide) q)
              refine lv_iconst (v := 0) hx hb dX5_ifAsked_179 (by decide) ?_
              exact hret _ _ _ _ _ _ rfl ⟨by simp only [kIf, fIf, Int32.add_zero, c4, hz1, c8, c9, c10, c14, c21, c22, if_pos c23, okS, okT, okW, okN, hasP, zAct, if_true, if_false, not_true_eq_false, not_false_eq_true, and_self, or_true, true_or, or_false, false_or, and_true, true_and, and_false, false_and, or_self, Bool.false_eq_true, z10], zUp_id _ _⟩ hH dX5_ifAsked_180
            by_cases c24 : wh = 3
            · refine lv_tableIn (off := 62) (tgt := 181) hx hb dX5_ifAsked_119 (by rw [c24]; decide) (by rw [c24]; decide) (by rw [c24]; rfl) (by decide) ?_
              refine lv_iload hx hb dX5_ifAsked_181 (lv_at hl 4 rfl) ?_
              refine lv_if_eq (tgt := 191) hx hb dX5_ifAsked_183 (by decide) (fun _ => ?_) (fun q => absurd (by decide) q)
              refine lv_aload_n hx hb dX5_ifAsked_191 rfl (lv_at hl 5 rfl) ?_
              refine gf_X5_now X hH q_213 dX5_ifAsked_192 ?_
              refine lv_iload_n hx hb dX5_ifAsked_195 rfl (lv_at hl 6 rfl) ?_
              refine z_callVi X hH (c_X3_firstCrowdedOutBy l D k a g (g 0) (z) (by omega)) k_X5_197 (rv_X3 X hH (by omega)) [] rfl rfl hl.1 (Nat.le_of_ble_eq_true rfl) ⟨Nat.le_of_ble_eq_true rfl, Nat.le_of_ble_eq_true rfl⟩ ⟨Nat.le_refl _, Nat.le_refl _⟩ dX5_ifAsked_196 (fun r25 g26 H locs h27 hH => ?_)
              rw [h27.2] at hH
              rw [h27.1]
              exact hret _ _ _ _ _ _ rfl ⟨by simp only [kIf, fIf, Int32.add_zero, c4, hz1, c8, c9, c10, c14, c21, c22, c23, if_pos c24, okS, okT, okW, okN, hasP, zAct, if_true, if_false, not_true_eq_false, not_false_eq_true, and_self, or_true, true_or, or_false, false_or, and_true, true_and, and_false, false_and, or_self, Bool.false_eq_true, z10], zUp_id _ _⟩ hH dX5_ifAsked_199
            refine lv_tableOut (tgt := 200) hx hb dX5_ifAsked_119 (by have q0 := lv_neT (a := 0) c21 (by decide); have q1 := lv_neT (a := 1) c22 (by decide); have q2 := lv_neT (a := 2) c23 (by decide); have q3 := lv_neT (a := 3) c24 (by decide); omega) (by decide) ?_
            refine lv_iload hx hb dX5_ifAsked_200 (lv_at hl 1 rfl) ?_
            refine lv_iload hx hb dX5_ifAsked_202 (lv_at hl 0 rfl) ?_
            refine lv_iadd hx hb dX5_ifAsked_204 ?_
            refine lv_aload_n hx hb dX5_ifAsked_205 rfl (lv_at hl 5 rfl) ?_
            refine gf_X5_now X hH q_213 dX5_ifAsked_206 ?_
            refine lv_iload_n hx hb dX5_ifAsked_209 rfl (lv_at hl 6 rfl) ?_
            refine lv_iload hx hb dX5_ifAsked_210 (lv_at hl 3 rfl) ?_
            refine lv_iload_n hx hb dX5_ifAsked_212 rfl (lv_at hl 7 rfl) ?_
            refine z_callVi X hH (c_X3_priceBy l D k a g (g 0) (z) (by omega) (fBest (g 0) z nu) nu) k_X5_153 (rv_X3 X hH (by omega)) [.int ((fCost (g 0) z (fBest (g 0) z nu) nu) + ((g 0) 8))] rfl rfl hl.1 (Nat.le_of_ble_eq_true rfl) ⟨Nat.le_of_ble_eq_true rfl, Nat.le_of_ble_eq_true rfl⟩ ⟨Nat.le_refl _, Nat.le_refl _⟩ dX5_ifAsked_213 (fun r28 g29 H locs h30 hH => ?_)
            rw [h30.2] at hH
            rw [h30.1]
            refine lv_isub hx hb dX5_ifAsked_216 ?_
            exact hret _ _ _ _ _ _ rfl ⟨by simp only [kIf, fIf, Int32.add_zero, c4, hz1, c8, c9, c10, c14, c21, c22, c23, c24, okS, okT, okW, okN, hasP, zAct, if_true, if_false, not_true_eq_false, not_false_eq_true, and_self, or_true, true_or, or_false, false_or, and_true, true_and, and_false, false_and, or_self, Bool.false_eq_true, z10], zUp_id _ _⟩ hH dX5_ifAsked_217
          · refine lv_iconst (v := 1) hx hb dX5_ifAsked_43 (by decide) ?_
            refine lv_goto (tgt := 48) hx hb dX5_ifAsked_44 (by decide) ?_
            refine lv_istore (lv' := [(4, .int 1), (0, .ref (a 6 0)), (1, .int (nI z)), (2, .int (nu)), (3, .int (wh))]) hx hb dX5_ifAsked_48 hl (by decide) rfl (fun ls hl => ?_)
            refine lv_aload_n hx hb dX5_ifAsked_50 rfl (lv_at hl 1 rfl) ?_
            refine gf_X5_now X hH q_213 dX5_ifAsked_51 ?_
            refine lv_iload_n hx hb dX5_ifAsked_54 rfl (lv_at hl 2 rfl) ?_
            refine lv_iload_n hx hb dX5_ifAsked_55 rfl (lv_at hl 3 rfl) ?_
            refine z_callVi X hH (c_X3_cheapestWay l D k a g (g 0) (z) (by omega) nu) k_X5_157 (rv_X3 X hH (by omega)) [] rfl rfl hl.1 (Nat.le_of_ble_eq_true rfl) ⟨Nat.le_of_ble_eq_true rfl, Nat.le_of_ble_eq_true rfl⟩ ⟨Nat.le_refl _, Nat.le_refl _⟩ dX5_ifAsked_56 (fun r31 g32 H locs h33 hH => ?_)
            rw [h33.2] at hH
            rw [h33.1]
            refine lv_istore (lv' := [(5, .int (fBest (g 0) z nu)), (4, .int 1), (0, .ref (a 6 0)), (1, .int (nI z)), (2, .int (nu)), (3, .int (wh))]) hx hb dX5_ifAsked_59 hl (by decide) rfl (fun ls hl => ?_)
            refine lv_iload hx hb dX5_ifAsked_61 (lv_at hl 1 rfl) ?_
            refine lv_if_eq (tgt := 81) hx hb dX5_ifAsked_63 (by decide) (fun q => absurd q (by decide)) (fun _ => ?_)
            refine lv_aload_n hx hb dX5_ifAsked_66 rfl (lv_at hl 2 rfl) ?_
            refine gf_X5_now X hH q_213 dX5_ifAsked_67 ?_
            refine gf_X3_plans X hH (by omega) q_121 dX5_ifAsked_70 ?_
            refine lv_iload_n hx hb dX5_ifAsked_73 rfl (lv_at hl 3 rfl) ?_
            refine ar_plans X hH (by omega) (z) (by omega) dX5_ifAsked_74 ?_
            refine gn_X1_way X hH (by omega) q_70 dX5_ifAsked_75 ?_
            refine lv_goto (tgt := 83) hx hb dX5_ifAsked_78 (by decide) ?_
            refine lv_istore (lv' := [(6, .int ((g 0) (13 + 11 * z + 1))), (5, .int (fBest (g 0) z nu)), (4, .int 1), (0, .ref (a 6 0)), (1, .int (nI z)), (2, .int (nu)), (3, .int (wh))]) hx hb dX5_ifAsked_83 hl (by decide) rfl (fun ls hl => ?_)
            refine lv_aload_n hx hb dX5_ifAsked_85 rfl (lv_at hl 3 rfl) ?_
            refine gf_X5_now X hH q_213 dX5_ifAsked_86 ?_
            refine lv_iload_n hx hb dX5_ifAsked_89 rfl (lv_at hl 4 rfl) ?_
            refine lv_iload hx hb dX5_ifAsked_90 (lv_at hl 0 rfl) ?_
            refine lv_iload_n hx hb dX5_ifAsked_92 rfl (lv_at hl 5 rfl) ?_
            refine z_callVi X hH (c_X3_priceBy l D k a g (g 0) (z) (by omega) ((g 0) (13 + 11 * z + 1)) nu) k_X5_153 (rv_X3 X hH (by omega)) [] rfl rfl hl.1 (Nat.le_of_ble_eq_true rfl) ⟨Nat.le_of_ble_eq_true rfl, Nat.le_of_ble_eq_true rfl⟩ ⟨Nat.le_refl _, Nat.le_refl _⟩ dX5_ifAsked_93 (fun r34 g35 H locs h36 hH => ?_)
            rw [h36.2] at hH
            rw [h36.1]
            refine lv_istore (lv' := [(7, .int (fCost (g 0) z ((g 0) (13 + 11 * z + 1)) nu)), (6, .int ((g 0) (13 + 11 * z + 1))), (5, .int (fBest (g 0) z nu)), (4, .int 1), (0, .ref (a 6 0)), (1, .int (nI z)), (2, .int (nu)), (3, .int (wh))]) hx hb dX5_ifAsked_96 hl (by decide) rfl (fun ls hl => ?_)
            refine lv_iload hx hb dX5_ifAsked_98 (lv_at hl 3 rfl) ?_
            refine lv_if_eq (tgt := 107) hx hb dX5_ifAsked_100 (by decide) (fun q => absurd q (by decide)) (fun _ => ?_)
            refine lv_iconst (v := 0) hx hb dX5_ifAsked_103 (by decide) ?_
            refine lv_goto (tgt := 116) hx hb dX5_ifAsked_104 (by decide) ?_
            refine lv_istore (lv' := [(8, .int 0), (7, .int (fCost (g 0) z ((g 0) (13 + 11 * z + 1)) nu)), (6, .int ((g 0) (13 + 11 * z + 1))), (5, .int (fBest (g 0) z nu)), (4, .int 1), (0, .ref (a 6 0)), (1, .int (nI z)), (2, .int (nu)), (3, .int (wh))]) hx hb dX5_ifAsked_116 hl (by decide) rfl (fun ls hl => ?_)
            refine lv_iload_n hx hb dX5_ifAsked_118 rfl (lv_at hl 8 rfl) ?_
            by_cases c37 : wh = 0
            · refine lv_tableIn (off := 29) (tgt := 148) hx hb dX5_ifAsked_119 (by rw [c37]; decide) (by rw [c37]; decide) (by rw [c37]; rfl) (by decide) ?_
              refine lv_iload hx hb dX5_ifAsked_148 (lv_at hl 1 rfl) ?_
              refine lv_iload hx hb dX5_ifAsked_150 (lv_at hl 0 rfl) ?_
              refine lv_iadd hx hb dX5_ifAsked_152 ?_
              exact hret _ _ _ _ _ _ rfl ⟨by simp only [kIf, fIf, Int32.add_zero, c4, hz1, c8, c9, c10, c14, if_pos c37, okS, okT, okW, okN, hasP, zAct, if_true, if_false, not_true_eq_false, not_false_eq_true, and_self, or_true, true_or, or_false, false_or, and_true, true_and, and_false, false_and, or_self, Bool.false_eq_true, z10], zUp_id _ _⟩ hH dX5_ifAsked_153
            by_cases c38 : wh = 1
            · refine lv_tableIn (off := 35) (tgt := 154) hx hb dX5_ifAsked_119 (by rw [c38]; decide) (by rw [c38]; decide) (by rw [c38]; rfl) (by decide) ?_
              refine lv_iload hx hb dX5_ifAsked_154 (lv_at hl 2 rfl) ?_
              exact hret _ _ _ _ _ _ rfl ⟨by simp only [kIf, fIf, Int32.add_zero, c4, hz1, c8, c9, c10, c14, c37, if_pos c38, okS, okT, okW, okN, hasP, zAct, if_true, if_false, not_true_eq_false, not_false_eq_true, and_self, or_true, true_or, or_false, false_or, and_true, true_and, and_false, false_and, or_self, Bool.false_eq_true, z10], zUp_id _ _⟩ hH dX5_ifAsked_156
            by_cases c39 : wh = 2
            · refine lv_tableIn (off := 38) (tgt := 157) hx hb dX5_ifAsked_119 (by rw [c39]; decide) (by rw [c39]; decide) (by rw [c39]; rfl) (by decide) ?_
              refine lv_iload hx hb dX5_ifAsked_157 (lv_at hl 4 rfl) ?_
              refine lv_if_eq (tgt := 179) hx hb dX5_ifAsked_159 (by decide) (fun q => absurd q (by decide)) (fun _ => ?_)
              refine lv_aload_n hx hb dX5_ifAsked_162 rfl (lv_at hl 5 rfl) ?_
              refine gf_X5_now X hH q_213 dX5_ifAsked_163 ?_
              refine lv_iload_n hx hb dX5_ifAsked_166 rfl (lv_at hl 6 rfl) ?_
              refine lv_iload hx hb dX5_ifAsked_167 (lv_at hl 1 rfl) ?_
              refine z_callVi X hH (c_X3_isTooDear l D k a g (g 0) (z) (by omega) (fCost (g 0) z ((g 0) (13 + 11 * z + 1)) nu)) k_X5_194 (rv_X3 X hH (by omega)) [] rfl rfl hl.1 (Nat.le_of_ble_eq_true rfl) ⟨Nat.le_of_ble_eq_true rfl, Nat.le_of_ble_eq_true rfl⟩ ⟨Nat.le_refl _, Nat.le_refl _⟩ dX5_ifAsked_169 (fun r40 g41 H locs h42 hH => ?_)
              rw [h42.2] at hH
              rw [h42.1]
              refine b_ifeq (P := fDear (g 0) z (fCost (g 0) z ((g 0) (13 + 11 * z + 1)) nu) = true) (tgt := 179) hx hb dX5_ifAsked_172 (by decide) (fun c43 => ?_) (fun c43 => ?_)
              · refine lv_iconst (v := 0) hx hb dX5_ifAsked_179 (by decide) ?_
                exact hret _ _ _ _ _ _ rfl ⟨by simp only [kIf, fIf, Int32.add_zero, c4, hz1, c8, c9, c10, c14, c37, c38, if_pos c39, c43, okS, okT, okW, okN, hasP, zAct, if_true, if_false, not_true_eq_false, not_false_eq_true, and_self, or_true, true_or, or_false, false_or, and_true, true_and, and_false, false_and, or_self, Bool.false_eq_true, z10], zUp_id _ _⟩ hH dX5_ifAsked_180
              · refine lv_iconst (v := 1) hx hb dX5_ifAsked_175 (by decide) ?_
                refine lv_goto (tgt := 180) hx hb dX5_ifAsked_176 (by decide) ?_
                exact hret _ _ _ _ _ _ rfl ⟨by simp only [kIf, fIf, Int32.add_zero, c4, hz1, c8, c9, c10, c14, c37, c38, if_pos c39, c43, okS, okT, okW, okN, hasP, zAct, if_true, if_false, not_true_eq_false, not_false_eq_true, and_self, or_true, true_or, or_false, false_or, and_true, true_and, and_false, false_and, or_self, Bool.false_eq_true, z10], zUp_id _ _⟩ hH dX5_ifAsked_180
            by_cases c44 : wh = 3
            · refine lv_tableIn (off := 62) (tgt := 181) hx hb dX5_ifAsked_119 (by rw [c44]; decide) (by rw [c44]; decide) (by rw [c44]; rfl) (by decide) ?_
              refine lv_iload hx hb dX5_ifAsked_181 (lv_at hl 4 rfl) ?_
              refine lv_if_eq (tgt := 191) hx hb dX5_ifAsked_183 (by decide) (fun q => absurd q (by decide)) (fun _ => ?_)
              refine lv_bipush (v := (-4)) hx hb dX5_ifAsked_186 (by decide) ?_
              refine lv_goto (tgt := 199) hx hb dX5_ifAsked_188 (by decide) ?_
              exact hret _ _ _ _ _ _ rfl ⟨by simp only [kIf, fIf, Int32.add_zero, c4, hz1, c8, c9, c10, c14, c37, c38, c39, if_pos c44, okS, okT, okW, okN, hasP, zAct, if_true, if_false, not_true_eq_false, not_false_eq_true, and_self, or_true, true_or, or_false, false_or, and_true, true_and, and_false, false_and, or_self, Bool.false_eq_true, z10], zUp_id _ _⟩ hH dX5_ifAsked_199
            refine lv_tableOut (tgt := 200) hx hb dX5_ifAsked_119 (by have q0 := lv_neT (a := 0) c37 (by decide); have q1 := lv_neT (a := 1) c38 (by decide); have q2 := lv_neT (a := 2) c39 (by decide); have q3 := lv_neT (a := 3) c44 (by decide); omega) (by decide) ?_
            refine lv_iload hx hb dX5_ifAsked_200 (lv_at hl 1 rfl) ?_
            refine lv_iload hx hb dX5_ifAsked_202 (lv_at hl 0 rfl) ?_
            refine lv_iadd hx hb dX5_ifAsked_204 ?_
            refine lv_aload_n hx hb dX5_ifAsked_205 rfl (lv_at hl 5 rfl) ?_
            refine gf_X5_now X hH q_213 dX5_ifAsked_206 ?_
            refine lv_iload_n hx hb dX5_ifAsked_209 rfl (lv_at hl 6 rfl) ?_
            refine lv_iload hx hb dX5_ifAsked_210 (lv_at hl 3 rfl) ?_
            refine lv_iload_n hx hb dX5_ifAsked_212 rfl (lv_at hl 7 rfl) ?_
            refine z_callVi X hH (c_X3_priceBy l D k a g (g 0) (z) (by omega) (fBest (g 0) z nu) nu) k_X5_153 (rv_X3 X hH (by omega)) [.int ((fCost (g 0) z ((g 0) (13 + 11 * z + 1)) nu) + 0)] rfl rfl hl.1 (Nat.le_of_ble_eq_true rfl) ⟨Nat.le_of_ble_eq_true rfl, Nat.le_of_ble_eq_true rfl⟩ ⟨Nat.le_refl _, Nat.le_refl _⟩ dX5_ifAsked_213 (fun r45 g46 H locs h47 hH => ?_)
            rw [h47.2] at hH
            rw [h47.1]
            refine lv_isub hx hb dX5_ifAsked_216 ?_
            exact hret _ _ _ _ _ _ rfl ⟨by simp only [kIf, fIf, Int32.add_zero, c4, hz1, c8, c9, c10, c14, c37, c38, c39, c44, okS, okT, okW, okN, hasP, zAct, if_true, if_false, not_true_eq_false, not_false_eq_true, and_self, or_true, true_or, or_false, false_or, and_true, true_and, and_false, false_and, or_self, Bool.false_eq_true, z10], zUp_id _ _⟩ hH dX5_ifAsked_217
        · refine lv_bipush (v := (-2)) hx hb dX5_ifAsked_28 (by decide) ?_
          exact hret _ _ _ _ _ _ rfl ⟨by simp only [kIf, fIf, Int32.add_zero, c4, hz1, c8, c9, c10, okS, okT, okW, okN, hasP, zAct, if_true, if_false, not_true_eq_false, not_false_eq_true, and_self, or_true, true_or, or_false, false_or, and_true, true_and, and_false, false_and, or_self, Bool.false_eq_true, z10], zUp_id _ _⟩ hH dX5_ifAsked_30
  · refine lv_iconst (v := (-1)) hx hb dX5_ifAsked_7 (by decide) ?_
    exact hret _ _ _ _ _ _ rfl ⟨by simp only [kIf, fIf, Int32.add_zero, c4, okS, okT, okW, okN, hasP, zAct, if_true, if_false, not_true_eq_false, not_false_eq_true, and_self, or_true, true_or, or_false, false_or, and_true, true_and, and_false, false_and, or_self, Bool.false_eq_true, z10], zUp_id _ _⟩ hH dX5_ifAsked_8
