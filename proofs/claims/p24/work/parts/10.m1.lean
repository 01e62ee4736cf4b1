set_option maxRecDepth 100000 in
set_option maxHeartbeats 4000000 in
theorem c_X5_isTable (l : Launch) (D : va_G) (k : Nat → ClassId) (a : Nat → Nat → Nat) (g : Mem) (x : Int32) : zI l yX5_isTable cX5_isTable 1 .boolean 0 0 D k a [.int (x)] (g) (fun r g' => r = (if ¬ x < 0 ∧ x < 4 then 1 else 0) ∧ g' = (g)) := by
  refine zI_of (own := RX5) (by decide +kernel) rfl (Nat.le_of_ble_eq_true rfl) ?_
  intro p e s m args below meth c X Q hret hH ls hl
  obtain ⟨hx, hb, hml, hown, hts⟩ := X.1
  have hl : lv_has ls 1 [(0, .int (x))] := hl
  have hH : zH D k a s (g) s.heap [] := hH
  refine lv_iload_n hx hb dX5_isTable_0 rfl (lv_at hl 0 rfl) ?_
  refine i_if_lt (tgt := 13) hx hb dX5_isTable_1 (by decide) (fun c1 => ?_) (fun c1 => ?_)
  · refine lv_iconst (v := 0) hx hb dX5_isTable_13 (by decide) ?_
    exact hret _ _ _ _ _ _ rfl ⟨by simp only [c1, if_true, if_false, not_true_eq_false, not_false_eq_true, and_self, or_true, true_or, or_false, false_or, and_true, true_and, and_false, false_and, or_self, decide_eq_true_eq, Bool.false_eq_true, z10], rfl⟩ hH dX5_isTable_14
  · refine lv_iload_n hx hb dX5_isTable_4 rfl (lv_at hl 0 rfl) ?_
    refine lv_iconst (v := 4) hx hb dX5_isTable_5 (by decide) ?_
    refine i_icmp_ge (tgt := 13) hx hb dX5_isTable_6 (by decide) (fun c2 => ?_) (fun c2 => ?_)
    · refine lv_iconst (v := 0) hx hb dX5_isTable_13 (by decide) ?_
      exact hret _ _ _ _ _ _ rfl ⟨by simp only [c1, c2, if_true, if_false, not_true_eq_false, not_false_eq_true, and_self, or_true, true_or, or_false, false_or, and_true, true_and, and_false, false_and, or_self, decide_eq_true_eq, Bool.false_eq_true, z10], rfl⟩ hH dX5_isTable_14
    · refine lv_iconst (v := 1) hx hb dX5_isTable_9 (by decide) ?_
      refine lv_goto (tgt := 14) hx hb dX5_isTable_10 (by decide) ?_
      exact hret _ _ _ _ _ _ rfl ⟨by simp only [c1, c2, if_true, if_false, not_true_eq_false, not_false_eq_true, and_self, or_true, true_or, or_false, false_or, and_true, true_and, and_false, false_and, or_self, decide_eq_true_eq, Bool.false_eq_true, z10], rfl⟩ hH dX5_isTable_14
set_option maxRecDepth 100000 in
set_option maxHeartbeats 4000000 in
theorem c_X5_isShape (l : Launch) (D : va_G) (k : Nat → ClassId) (a : Nat → Nat → Nat) (g : Mem) (x : Int32) : zI l yX5_isShape cX5_isShape 1 .boolean 0 0 D k a [.int (x)] (g) (fun r g' => r = (if ¬ x < 0 ∧ x < 12 then 1 else 0) ∧ g' = (g)) := by
  refine zI_of (own := RX5) (by decide +kernel) rfl (Nat.le_of_ble_eq_true rfl) ?_
  intro p e s m args below meth c X Q hret hH ls hl
  obtain ⟨hx, hb, hml, hown, hts⟩ := X.1
  have hl : lv_has ls 1 [(0, .int (x))] := hl
  have hH : zH D k a s (g) s.heap [] := hH
  refine lv_iload_n hx hb dX5_isShape_0 rfl (lv_at hl 0 rfl) ?_
  refine i_if_lt (tgt := 14) hx hb dX5_isShape_1 (by decide) (fun c1 => ?_) (fun c1 => ?_)
  · refine lv_iconst (v := 0) hx hb dX5_isShape_14 (by decide) ?_
    exact hret _ _ _ _ _ _ rfl ⟨by simp only [c1, if_true, if_false, not_true_eq_false, not_false_eq_true, and_self, or_true, true_or, or_false, false_or, and_true, true_and, and_false, false_and, or_self, decide_eq_true_eq, Bool.false_eq_true, z10], rfl⟩ hH dX5_isShape_15
  · refine lv_iload_n hx hb dX5_isShape_4 rfl (lv_at hl 0 rfl) ?_
    refine lv_bipush (v := 12) hx hb dX5_isShape_5 (by decide) ?_
    refine i_icmp_ge (tgt := 14) hx hb dX5_isShape_7 (by decide) (fun c2 => ?_) (fun c2 => ?_)
    · refine lv_iconst (v := 0) hx hb dX5_isShape_14 (by decide) ?_
      exact hret _ _ _ _ _ _ rfl ⟨by simp only [c1, c2, if_true, if_false, not_true_eq_false, not_false_eq_true, and_self, or_true, true_or, or_false, false_or, and_true, true_and, and_false, false_and, or_self, decide_eq_true_eq, Bool.false_eq_true, z10], rfl⟩ hH dX5_isShape_15
    · refine lv_iconst (v := 1) hx hb dX5_isShape_10 (by decide) ?_
      refine lv_goto (tgt := 15) hx hb dX5_isShape_11 (by decide) ?_
      exact hret _ _ _ _ _ _ rfl ⟨by simp only [c1, c2, if_true, if_false, not_true_eq_false, not_false_eq_true, and_self, or_true, true_or, or_false, false_or, and_true, true_and, and_false, false_and, or_self, decide_eq_true_eq, Bool.false_eq_true, z10], rfl⟩ hH dX5_isShape_15
set_option maxRecDepth 100000 in
set_option maxHeartbeats 4000000 in
theorem c_X5_isWay (l : Launch) (D : va_G) (k : Nat → ClassId) (a : Nat → Nat → Nat) (g : Mem) (x : Int32) : zI l yX5_isWay cX5_isWay 1 .boolean 0 0 D k a [.int (x)] (g) (fun r g' => r = (if ¬ x < 0 ∧ x < 3 then 1 else 0) ∧ g' = (g)) := by
  refine zI_of (own := RX5) (by decide +kernel) rfl (Nat.le_of_ble_eq_true rfl) ?_
  intro p e s m args below meth c X Q hret hH ls hl
  obtain ⟨hx, hb, hml, hown, hts⟩ := X.1
  have hl : lv_has ls 1 [(0, .int (x))] := hl
  have hH : zH D k a s (g) s.heap [] := hH
  refine lv_iload_n hx hb dX5_isWay_0 rfl (lv_at hl 0 rfl) ?_
  refine i_if_lt (tgt := 13) hx hb dX5_isWay_1 (by decide) (fun c1 => ?_) (fun c1 => ?_)
  · refine lv_iconst (v := 0) hx hb dX5_isWay_13 (by decide) ?_
    exact hret _ _ _ _ _ _ rfl ⟨by simp only [c1, if_true, if_false, not_true_eq_false, not_false_eq_true, and_self, or_true, true_or, or_false, false_or, and_true, true_and, and_false, false_and, or_self, decide_eq_true_eq, Bool.false_eq_true, z10], rfl⟩ hH dX5_isWay_14
  · refine lv_iload_n hx hb dX5_isWay_4 rfl (lv_at hl 0 rfl) ?_
    refine lv_iconst (v := 3) hx hb dX5_isWay_5 (by decide) ?_
    refine i_icmp_ge (tgt := 13) hx hb dX5_isWay_6 (by decide) (fun c2 => ?_) (fun c2 => ?_)
    · refine lv_iconst (v := 0) hx hb dX5_isWay_13 (by decide) ?_
      exact hret _ _ _ _ _ _ rfl ⟨by simp only [c1, c2, if_true, if_false, not_true_eq_false, not_false_eq_true, and_self, or_true, true_or, or_false, false_or, and_true, true_and, and_false, false_and, or_self, decide_eq_true_eq, Bool.false_eq_true, z10], rfl⟩ hH dX5_isWay_14
    · refine lv_iconst (v := 1) hx hb dX5_isWay_9 (by decide) ?_
      refine lv_goto (tgt := 14) hx hb dX5_isWay_10 (by decide) ?_
      exact hret _ _ _ _ _ _ rfl ⟨by simp only [c1, c2, if_true, if_false, not_true_eq_false, not_false_eq_true, and_self, or_true, true_or, or_false, false_or, and_true, true_and, and_false, false_and, or_self, decide_eq_true_eq, Bool.false_eq_true, z10], rfl⟩ hH dX5_isWay_14
set_option maxRecDepth 100000 in
set_option maxHeartbeats 4000000 in
theorem c_X5_leastNumberOf (l : Launch) (D : va_G) (k : Nat → ClassId) (a : Nat → Nat → Nat) (g : Mem) (z : Nat) (hz : z < 3) : zI l yX5_leastNumberOf cX5_leastNumberOf 1 .int 0 0 D k a [.int (nI z)] (g) (fun r g' => r = (if z = 0 then 0 else 1) ∧ g' = (g)) := by
  refine zI_of (own := RX5) (by decide +kernel) rfl (Nat.le_of_ble_eq_true rfl) ?_
  intro p e s m args below meth c X Q hret hH ls hl
  obtain ⟨hx, hb, hml, hown, hts⟩ := X.1
  have hl : lv_has ls 1 [(0, .int (nI z))] := hl
  have hH : zH D k a s (g) s.heap [] := hH
  refine lv_iload_n hx hb dX5_leastNumberOf_0 rfl (lv_at hl 0 rfl) ?_
  refine n_if_ne (A := z) (tgt := 8) hx hb (by omega) dX5_leastNumberOf_1 (by decide) (fun c1 => ?_) (fun c1 => ?_)
  · refine lv_iconst (v := 1) hx hb dX5_leastNumberOf_8 (by decide) ?_
    exact hret _ _ _ _ _ _ rfl ⟨by simp only [c1, if_true, if_false, not_true_eq_false, not_false_eq_true, and_self, or_true, true_or, or_false, false_or, and_true, true_and, and_false, false_and, or_self, decide_eq_true_eq, Bool.false_eq_true, z10], rfl⟩ hH dX5_leastNumberOf_9
  · refine lv_iconst (v := 0) hx hb dX5_leastNumberOf_4 (by decide) ?_
    refine lv_goto (tgt := 9) hx hb dX5_leastNumberOf_5 (by decide) ?_
    exact hret _ _ _ _ _ _ rfl ⟨by simp only [c1, if_true, if_false, not_true_eq_false, not_false_eq_true, and_self, or_true, true_or, or_false, false_or, and_true, true_and, and_false, false_and, or_self, decide_eq_true_eq, Bool.false_eq_true, z10], rfl⟩ hH dX5_leastNumberOf_9
set_option maxRecDepth 100000 in
set_option maxHeartbeats 4000000 in
theorem c_X5_isNumberOf (l : Launch) (D : va_G) (k : Nat → ClassId) (a : Nat → Nat → Nat) (g : Mem) (z : Nat) (hz : z < 3) (x : Int32) : zI l yX5_isNumberOf cX5_isNumberOf 2 .boolean 1 20 D k a [.int (nI z), .int (x)] (g) (fun r g' => r = (if ¬ x < (if z = 0 then 0 else 1) ∧ ¬ 9999 < x then 1 else 0) ∧ g' = (g)) := by
  refine zI_of (own := RX5) (by decide +kernel) rfl (Nat.le_of_ble_eq_true rfl) ?_
  intro p e s m args below meth c X Q hret hH ls hl
  obtain ⟨hx, hb, hml, hown, hts⟩ := X.1
  have hl : lv_has ls 2 [(0, .int (nI z)), (1, .int (x))] := hl
  have hH : zH D k a s (g) s.heap [] := hH
  refine lv_iload_n hx hb dX5_isNumberOf_0 rfl (lv_at hl 1 rfl) ?_
  refine lv_iload_n hx hb dX5_isNumberOf_1 rfl (lv_at hl 0 rfl) ?_
  refine z_callSi X hH (c_X5_leastNumberOf l D k a g (z) (by omega)) k_X5_201 [.int (x)] rfl rfl hl.1 (Nat.le_of_ble_eq_true rfl) ⟨Nat.le_of_ble_eq_true rfl, Nat.le_of_ble_eq_true rfl⟩ ⟨Nat.le_refl _, Nat.le_refl _⟩ dX5_isNumberOf_2 (fun r1 g2 H locs h3 hH => ?_)
  rw [h3.2] at hH
  rw [h3.1]
  refine i_icmp_lt (tgt := 19) hx hb dX5_isNumberOf_5 (by decide) (fun c4 => ?_) (fun c4 => ?_)
  · refine lv_iconst (v := 0) hx hb dX5_isNumberOf_19 (by decide) ?_
    exact hret _ _ _ _ _ _ rfl ⟨by simp only [c4, if_true, if_false, not_true_eq_false, not_false_eq_true, and_self, or_true, true_or, or_false, false_or, and_true, true_and, and_false, false_and, or_self, decide_eq_true_eq, Bool.false_eq_true, z10], rfl⟩ hH dX5_isNumberOf_20
  · refine lv_iload_n hx hb dX5_isNumberOf_8 rfl (lv_at hl 1 rfl) ?_
    refine lv_sipush (v := 9999) hx hb dX5_isNumberOf_9 (by decide) ?_
    refine i_icmp_gt (tgt := 19) hx hb dX5_isNumberOf_12 (by decide) (fun c5 => ?_) (fun c5 => ?_)
    · refine lv_iconst (v := 0) hx hb dX5_isNumberOf_19 (by decide) ?_
      exact hret _ _ _ _ _ _ rfl ⟨by simp only [c4, c5, if_true, if_false, not_true_eq_false, not_false_eq_true, and_self, or_true, true_or, or_false, false_or, and_true, true_and, and_false, false_and, or_self, decide_eq_true_eq, Bool.false_eq_true, z10], rfl⟩ hH dX5_isNumberOf_20
    · refine lv_iconst (v := 1) hx hb dX5_isNumberOf_15 (by decide) ?_
      refine lv_goto (tgt := 20) hx hb dX5_isNumberOf_16 (by decide) ?_
      exact hret _ _ _ _ _ _ rfl ⟨by simp only [c4, c5, if_true, if_false, not_true_eq_false, not_false_eq_true, and_self, or_true, true_or, or_false, false_or, and_true, true_and, and_false, false_and, or_self, decide_eq_true_eq, Bool.false_eq_true, z10], rfl⟩ hH dX5_isNumberOf_20
set_option maxRecDepth 100000 in
set_option maxHeartbeats 4000000 in
theorem c_X5_quotient (l : Launch) (D : va_G) (k : Nat → ClassId) (a : Nat → Nat → Nat) (g : Mem) (x y : Int32) : zI l yX5_quotient cX5_quotient 2 .int 0 0 D k a [.int (x), .int (y)] (g) (fun r g' => r = (fQuo x y) ∧ g' = (g)) := by
  refine zI_of (own := RX5) (by decide +kernel) rfl (Nat.le_of_ble_eq_true rfl) ?_
  intro p e s m args below meth c X Q hret hH ls hl
  obtain ⟨hx, hb, hml, hown, hts⟩ := X.1
  have hl : lv_has ls 2 [(0, .int (x)), (1, .int (y))] := hl
  have hH : zH D k a s (g) s.heap [] := hH
  refine lv_iload_n hx hb dX5_quotient_0 rfl (lv_at hl 1 rfl) ?_
  refine lv_iconst (v := 1) hx hb dX5_quotient_1 (by decide) ?_
  refine i_icmp_ge (tgt := 9) hx hb dX5_quotient_2 (by decide) (fun c1 => ?_) (fun c1 => ?_)
  · refine lv_iload_n hx hb dX5_quotient_9 rfl (lv_at hl 0 rfl) ?_
    refine lv_iload_n hx hb dX5_quotient_10 rfl (lv_at hl 1 rfl) ?_
    refine lv_idiv hx hb dX5_quotient_11 (by intro q; rw [q] at c1; exact absurd (by decide) c1) ?_
    exact hret _ _ _ _ _ _ rfl ⟨by simp only [fQuo, c1, if_true, if_false, not_true_eq_false, not_false_eq_true, and_self, or_true, true_or, or_false, false_or, and_true, true_and, and_false, false_and, or_self, decide_eq_true_eq, Bool.false_eq_true, z10], rfl⟩ hH dX5_quotient_12
  · refine lv_iconst (v := 0) hx hb dX5_quotient_5 (by decide) ?_
    refine lv_goto (tgt := 12) hx hb dX5_quotient_6 (by decide) ?_
    exact hret _ _ _ _ _ _ rfl ⟨by simp only [fQuo, c1, if_true, if_false, not_true_eq_false, not_false_eq_true, and_self, or_true, true_or, or_false, false_or, and_true, true_and, and_false, false_and, or_self, decide_eq_true_eq, Bool.false_eq_true, z10], rfl⟩ hH dX5_quotient_12
set_option maxRecDepth 100000 in
set_option maxHeartbeats 4000000 in
theorem c_X3_tableUnder (l : Launch) (D : va_G) (k : Nat → ClassId) (a : Nat → Nat → Nat) (g : Mem) (z : Nat) (hz : z < 12) : zR l yX3_tableUnder cX3_tableUnder 2 (.object "KeptPlans$Table") 0 0 D k a [.ref (a 0 0), .int (nI z)] (g) (a 0 (4 + z / 3)) := by
  refine zR_of (own := RX3) ⟨_, rfl⟩ (by decide +kernel) rfl (Nat.le_of_ble_eq_true rfl) ?_
  intro p e s m args below meth c X Q hret hH ls hl
  obtain ⟨hx, hb, hml, hown, hts⟩ := X.1
  have hl : lv_has ls 2 [(0, .ref (a 0 0)), (1, .int (nI z))] := hl
  have hH : zH D k a s (g) s.heap [] := hH
  refine lv_aload_n hx hb dX3_tableUnder_0 rfl (lv_at hl 0 rfl) ?_
  refine gf_X3_tables X hH (by omega) q_118 dX3_tableUnder_1 ?_
  refine lv_iload_n hx hb dX3_tableUnder_4 rfl (lv_at hl 1 rfl) ?_
  refine lv_iconst (v := 3) hx hb dX3_tableUnder_5 (by decide) ?_
  refine n_idiv (A := z) (B := 3) hx hb (z / 3) rfl (by omega) (by omega) (by omega) dX3_tableUnder_6 ?_
  refine ar_tabs X hH (by omega) (z / 3) (by omega) dX3_tableUnder_7 ?_
  exact hret _ _ _ _ hH dX3_tableUnder_8
set_option maxRecDepth 100000 in
set_option maxHeartbeats 4000000 in
theorem c_X5_bitsOf (l : Launch) (D : va_G) (k : Nat → ClassId) (a : Nat → Nat → Nat) (g : Mem) (x : Int32) : zI l yX5_bitsOf cX5_bitsOf 2 .int 0 0 D k a [.int (x)] (g) (fun r g' => r = (fBits x) ∧ g' = (g)) := by
  refine zI_of (own := RX5) (by decide +kernel) rfl (Nat.le_of_ble_eq_true rfl) ?_
  intro p e s m args below meth c X Q hret hH ls hl
  obtain ⟨hx, hb, hml, hown, hts⟩ := X.1
  have hl : lv_has ls 2 [(0, .int (x))] := hl
  have hH : zH D k a s (g) s.heap [] := hH
  refine lv_iconst (v := 0) hx hb dX5_bitsOf_0 (by decide) ?_
  refine lv_istore_n (lv' := [(1, .int 0), (0, .int (x))]) hx hb dX5_bitsOf_1 rfl hl (by decide) rfl (fun ls hl => ?_)
  by_cases h0 : 0 < x
  · obtain ⟨N, hN, rfl⟩ := zPos h0
    have hB := zBl_31 hN
    have hR : fBits (nI N) = nI (zBl N) := by rw [fBits, if_pos h0, nI_clamp hN]
    have hlt : ∀ i, i < zBl N → 0 < N / 2 ^ i := fun i h => (zBl_lt N i).mp h
    have hge : ∀ i, zBl N ≤ i → N / 2 ^ i = 0 := fun i h => zBl_ge h
    have Lp : ∀ (j i : Nat), i + j = zBl N → ∀ (H : Heap) (locs : List Loc) (ls : Array Slot), zH D k a s (g) H locs → lv_has ls 2 [(1, .int (nI i)), (0, .int (nI N))] → W p l e (zRoom 0 0) s m args below meth c H locs 0 0 Q (F0 m 2 ls []) := by
      intro j
      induction j with
      | zero =>
        intro i hij H locs ls hH hl
        obtain rfl : i = zBl N := by omega
        refine lv_iload_n hx hb dX5_bitsOf_2 rfl (lv_at hl 0 rfl) ?_
        refine lv_bipush (v := 31) hx hb dX5_bitsOf_3 (by decide) ?_
        refine n_icmp_ge (A := zBl N) (B := 31) (tgt := 20) hx hb (by omega) (by omega) dX5_bitsOf_5 (by decide) (fun c1 => ?_) (fun c1 => ?_)
        · refine lv_iload_n hx hb dX5_bitsOf_20 rfl (lv_at hl 0 rfl) ?_
          exact hret _ _ _ _ _ _ rfl ⟨by rw [hR], rfl⟩ hH dX5_bitsOf_21
        · refine lv_iload_n hx hb dX5_bitsOf_8 rfl (lv_at hl 1 rfl) ?_
          refine lv_iload_n hx hb dX5_bitsOf_9 rfl (lv_at hl 0 rfl) ?_
          refine n_ishr (A := N) (B := zBl N) hx hb (by omega) (by omega) dX5_bitsOf_10 ?_
          refine n_if_le (A := N / 2 ^ (zBl N)) (tgt := 20) hx hb (Nat.lt_of_le_of_lt (Nat.div_le_self _ _) hN) dX5_bitsOf_11 (by decide) (fun c2 => ?_) (fun q => absurd (hge _ (Nat.le_refl _)) (Nat.ne_of_gt q))
          refine lv_iload_n hx hb dX5_bitsOf_20 rfl (lv_at hl 0 rfl) ?_
          exact hret _ _ _ _ _ _ rfl ⟨by rw [hR], rfl⟩ hH dX5_bitsOf_21
      | succ j ih =>
        intro i hij H locs ls hH hl
        have hi2 : i < zBl N := by omega
        refine lv_iload_n hx hb dX5_bitsOf_2 rfl (lv_at hl 0 rfl) ?_
        refine lv_bipush (v := 31) hx hb dX5_bitsOf_3 (by decide) ?_
        refine n_icmp_ge (A := i) (B := 31) (tgt := 20) hx hb (by omega) (by omega) dX5_bitsOf_5 (by decide) (fun q => absurd q (by omega)) (fun c3 => ?_)
        refine lv_iload_n hx hb dX5_bitsOf_8 rfl (lv_at hl 1 rfl) ?_
        refine lv_iload_n hx hb dX5_bitsOf_9 rfl (lv_at hl 0 rfl) ?_
        refine n_ishr (A := N) (B := i) hx hb (by omega) (by omega) dX5_bitsOf_10 ?_
        refine n_if_le (A := N / 2 ^ i) (tgt := 20) hx hb (Nat.lt_of_le_of_lt (Nat.div_le_self _ _) hN) dX5_bitsOf_11 (by decide) (fun q => absurd q (Nat.ne_of_gt (hlt _ hi2))) (fun c4 => ?_)
        refine lv_iinc (v := nI (i + 1)) (lv' := [(1, .int (nI (i + 1))), (0, .int (nI N))]) hx hb dX5_bitsOf_14 hl (k := 0) rfl (z_inc1 _) (by decide) rfl (fun ls hl => ?_)
        refine lv_goto (tgt := 2) hx hb dX5_bitsOf_17 (by decide) ?_
        exact ih (i + 1) (by omega) _ _ _ hH (lv_sub hl [0, 1] rfl)
    exact Lp (zBl N) 0 (by omega) _ _ _ hH hl
  · have hR : fBits x = 0 := by rw [fBits, if_neg h0]
    refine lv_iload_n hx hb dX5_bitsOf_2 rfl (lv_at hl 0 rfl) ?_
    refine lv_bipush (v := 31) hx hb dX5_bitsOf_3 (by decide) ?_
    refine lv_icmp_ge (tgt := 20) hx hb dX5_bitsOf_5 (by decide) (fun q => absurd q (by decide)) (fun _ => ?_)
    refine lv_iload_n hx hb dX5_bitsOf_8 rfl (lv_at hl 1 rfl) ?_
    refine lv_iload_n hx hb dX5_bitsOf_9 rfl (lv_at hl 0 rfl) ?_
    refine lv_ishr hx hb dX5_bitsOf_10 ?_
    refine i_if_le (tgt := 20) hx hb dX5_bitsOf_11 (by decide) (fun c5 => ?_) (fun q => absurd (z_shr0p q) h0)
    refine lv_iload_n hx hb dX5_bitsOf_20 rfl (lv_at hl 0 rfl) ?_
    exact hret _ _ _ _ _ _ rfl ⟨by rw [hR], rfl⟩ hH dX5_bitsOf_21
set_option maxRecDepth 100000 in
set_option maxHeartbeats 4000000 in
theorem c_X3_rowsMet (l : Launch) (D : va_G) (k : Nat → ClassId) (a : Nat → Nat → Nat) (g : Mem) (v : V) (z : Nat) (hz : z < 12) (n : Int32) : zI l yX3_rowsMet cX3_rowsMet 5 .int 1 21 D k a [.ref (a 0 0), .int (nI z), .int (n)] (zUp g 0 v) (fun r g' => r = (fMet v z n) ∧ g' = (zUp g 0 v)) := by
  refine zI_of (own := RX3) (by decide +kernel) rfl (Nat.le_of_ble_eq_true rfl) ?_
  intro p e s m args below meth c X Q hret hH ls hl
  obtain ⟨hx, hb, hml, hown, hts⟩ := X.1
  have hl : lv_has ls 5 [(0, .ref (a 0 0)), (1, .int (nI z)), (2, .int (n))] := hl
  have hH : zH D k a s (zUp g 0 v) s.heap [] := hH
  refine lv_iload_n hx hb dX3_rowsMet_0 rfl (lv_at hl 1 rfl) ?_
  refine lv_iconst (v := 3) hx hb dX3_rowsMet_1 (by decide) ?_
  refine n_irem (A := z) (B := 3) hx hb (z % 3) rfl (by omega) (by omega) (by omega) dX3_rowsMet_2 ?_
  refine lv_iconst (v := 1) hx hb dX3_rowsMet_3 (by decide) ?_
  refine n_icmp_eq (A := z % 3) (B := 1) (tgt := 9) hx hb (by omega) (by omega) dX3_rowsMet_4 (by decide) (fun c1 => ?_) (fun c1 => ?_)
  · refine lv_aload_n hx hb dX3_rowsMet_9 rfl (lv_at hl 0 rfl) ?_
    refine lv_iload_n hx hb dX3_rowsMet_10 rfl (lv_at hl 1 rfl) ?_
    refine z_callVr X hH (c_X3_tableUnder l D k a (zUp g 0 v) (z) (by omega)) k_X3_64 (rv_X3 X hH (by omega)) [] rfl rfl hl.1 (Nat.le_of_ble_eq_true rfl) ⟨Nat.le_of_ble_eq_true rfl, Nat.le_of_ble_eq_true rfl⟩ ⟨Nat.le_refl _, Nat.le_refl _⟩ dX3_rowsMet_11 (fun H locs hH => ?_)
    refine lv_astore_n (lv' := [(3, .ref (a 0 (4 + z / 3))), (0, .ref (a 0 0)), (1, .int (nI z)), (2, .int (n))]) hx hb dX3_rowsMet_14 rfl hl (by decide) rfl (fun ls hl => ?_)
    refine lv_aload_n hx hb dX3_rowsMet_15 rfl (lv_at hl 0 rfl) ?_
    refine gn_X4_rows X hH (by omega) q_37 dX3_rowsMet_16 ?_
    refine lv_iload_n hx hb dX3_rowsMet_19 rfl (lv_at hl 3 rfl) ?_
    refine lv_imul hx hb dX3_rowsMet_20 ?_
    refine lv_aload_n hx hb dX3_rowsMet_21 rfl (lv_at hl 0 rfl) ?_
    refine gn_X4_keys X hH (by omega) q_40 dX3_rowsMet_22 ?_
    refine lv_iadd hx hb dX3_rowsMet_25 ?_
    refine lv_iconst (v := 1) hx hb dX3_rowsMet_26 (by decide) ?_
    refine lv_isub hx hb dX3_rowsMet_27 ?_
    refine lv_aload_n hx hb dX3_rowsMet_28 rfl (lv_at hl 0 rfl) ?_
    refine gn_X4_keys X hH (by omega) q_40 dX3_rowsMet_29 ?_
    refine z_callNi X hH (c_X5_quotient l D k a (zUp g 0 v) ((((v (z / 3)) * n) + (v (4 + (z / 3)))) - 1) (v (4 + (z / 3)))) k_X3_82 (X.2.2.2.2.2.2.2.2.2.2.2.1) [] rfl rfl hl.1 (Nat.le_of_ble_eq_true rfl) ⟨Nat.le_of_ble_eq_true rfl, Nat.le_of_ble_eq_true rfl⟩ ⟨Nat.le_refl _, Nat.le_refl _⟩ dX3_rowsMet_32 (fun r2 g3 H locs h4 hH => ?_)
    rw [h4.2] at hH
    rw [h4.1]
    refine lv_istore (lv' := [(4, .int (fQuo ((((v (z / 3)) * n) + (v (4 + (z / 3)))) - 1) (v (4 + (z / 3))))), (3, .ref (a 0 (4 + z / 3))), (0, .ref (a 0 0)), (1, .int (nI z)), (2, .int (n))]) hx hb dX3_rowsMet_35 hl (by decide) rfl (fun ls hl => ?_)
    refine lv_iload hx hb dX3_rowsMet_37 (lv_at hl 0 rfl) ?_
    refine lv_aload_n hx hb dX3_rowsMet_39 rfl (lv_at hl 1 rfl) ?_
    refine gn_X4_rows X hH (by omega) q_37 dX3_rowsMet_40 ?_
    refine z_min X q_313 hl.1 (Nat.le_of_ble_eq_true rfl) (Nat.le_of_ble_eq_true rfl) ⟨Nat.le_refl _, Nat.le_refl _⟩ dX3_rowsMet_43 ?_
    exact hret _ _ _ _ _ _ rfl ⟨by simp only [fMet, c1, if_true, if_false, not_true_eq_false, not_false_eq_true, and_self, or_true, true_or, or_false, false_or, and_true, true_and, and_false, false_and, or_self, decide_eq_true_eq, Bool.false_eq_true, z10], rfl⟩ hH dX3_rowsMet_46
  · refine lv_iload_n hx hb dX3_rowsMet_7 rfl (lv_at hl 2 rfl) ?_
    exact hret _ _ _ _ _ _ rfl ⟨by simp only [fMet, c1, if_true, if_false, not_true_eq_false, not_false_eq_true, and_self, or_true, true_or, or_false, false_or, and_true, true_and, and_false, false_and, or_self, decide_eq_true_eq, Bool.false_eq_true, z10], rfl⟩ hH dX3_rowsMet_8
set_option maxRecDepth 100000 in
set_option maxHeartbeats 4000000 in
theorem c_X3_priceBy (l : Launch) (D : va_G) (k : Nat → ClassId) (a : Nat → Nat → Nat) (g : Mem) (v : V) (z : Nat) (hz : z < 12) (w n : Int32) : zI l yX3_priceBy cX3_priceBy 7 .int 2 45 D k a [.ref (a 0 0), .int (nI z), .int (w), .int (n)] (zUp g 0 v) (fun r g' => r = (fCost v z w n) ∧ g' = (zUp g 0 v)) := by
  refine zI_of (own := RX3) (by decide +kernel) rfl (Nat.le_of_ble_eq_true rfl) ?_
  intro p e s m args below meth c X Q hret hH ls hl
  obtain ⟨hx, hb, hml, hown, hts⟩ := X.1
  have hl : lv_has ls 7 [(0, .ref (a 0 0)), (1, .int (nI z)), (2, .int (w)), (3, .int (n))] := hl
  have hH : zH D k a s (zUp g 0 v) s.heap [] := hH
  refine lv_iload_n hx hb dX3_priceBy_0 rfl (lv_at hl 1 rfl) ?_
  refine lv_iconst (v := 3) hx hb dX3_priceBy_1 (by decide) ?_
  refine n_irem (A := z) (B := 3) hx hb (z % 3) rfl (by omega) (by omega) (by omega) dX3_priceBy_2 ?_
  refine lv_istore (lv' := [(4, .int (nI (z % 3))), (0, .ref (a 0 0)), (1, .int (nI z)), (2, .int (w)), (3, .int (n))]) hx hb dX3_priceBy_3 hl (by decide) rfl (fun ls hl => ?_)
  refine lv_aload_n hx hb dX3_priceBy_5 rfl (lv_at hl 1 rfl) ?_
  refine lv_iload_n hx hb dX3_priceBy_6 rfl (lv_at hl 2 rfl) ?_
  refine z_callVr X hH (c_X3_tableUnder l D k a (zUp g 0 v) (z) (by omega)) k_X3_64 (rv_X3 X hH (by omega)) [] rfl rfl hl.1 (Nat.le_of_ble_eq_true rfl) ⟨Nat.le_of_ble_eq_true rfl, Nat.le_of_ble_eq_true rfl⟩ ⟨Nat.le_refl _, Nat.le_refl _⟩ dX3_priceBy_7 (fun H locs hH => ?_)
  refine gn_X4_rows X hH (by omega) q_37 dX3_priceBy_10 ?_
  refine lv_istore (lv' := [(5, .int (v (z / 3))), (4, .int (nI (z % 3))), (0, .ref (a 0 0)), (1, .int (nI z)), (2, .int (w)), (3, .int (n))]) hx hb dX3_priceBy_13 hl (by decide) rfl (fun ls hl => ?_)
  refine lv_iload_n hx hb dX3_priceBy_15 rfl (lv_at hl 4 rfl) ?_
  refine lv_if_ne (tgt := 44) hx hb dX3_priceBy_16 (by decide) (fun c1 => ?_) (fun c1 => ?_)
  · refine lv_iload_n hx hb dX3_priceBy_44 rfl (lv_at hl 4 rfl) ?_
    refine lv_iconst (v := 1) hx hb dX3_priceBy_45 (by decide) ?_
    refine lv_icmp_ne (tgt := 78) hx hb dX3_priceBy_46 (by decide) (fun c2 => ?_) (fun c2 => ?_)
    · refine lv_iload hx hb dX3_priceBy_78 (lv_at hl 1 rfl) ?_
      refine lv_iconst (v := 2) hx hb dX3_priceBy_80 (by decide) ?_
      refine n_icmp_ne (A := z % 3) (B := 2) (tgt := 97) hx hb (by omega) (by omega) dX3_priceBy_81 (by decide) (fun c3 => ?_) (fun c3 => ?_)
      · refine lv_iconst (v := 2) hx hb dX3_priceBy_97 (by decide) ?_
        refine lv_iload hx hb dX3_priceBy_98 (lv_at hl 0 rfl) ?_
        refine lv_imul hx hb dX3_priceBy_100 ?_
        refine lv_istore (lv' := [(6, .int (2 * (v (z / 3)))), (5, .int (v (z / 3))), (4, .int (nI (z % 3))), (0, .ref (a 0 0)), (1, .int (nI z)), (2, .int (w)), (3, .int (n))]) hx hb dX3_priceBy_101 hl (by decide) rfl (fun ls hl => ?_)
        refine lv_iload hx hb dX3_priceBy_103 (lv_at hl 0 rfl) ?_
        refine lv_ldc hx hb hown (hts _ q_314) dX3_priceBy_105 ?_
        refine z_min X q_313 hl.1 (Nat.le_of_ble_eq_true rfl) (Nat.le_of_ble_eq_true rfl) ⟨Nat.le_refl _, Nat.le_refl _⟩ dX3_priceBy_107 ?_
        exact hret _ _ _ _ _ _ rfl ⟨by simp only [fCost, fRaw, c1, c2, c3, if_true, if_false, not_true_eq_false, not_false_eq_true, and_self, or_true, true_or, or_false, false_or, and_true, true_and, and_false, false_and, or_self, decide_eq_true_eq, Bool.false_eq_true, z10], rfl⟩ hH dX3_priceBy_110
      · refine lv_iload hx hb dX3_priceBy_84 (lv_at hl 0 rfl) ?_
        refine lv_iload_n hx hb dX3_priceBy_86 rfl (lv_at hl 5 rfl) ?_
        refine lv_iload hx hb dX3_priceBy_87 (lv_at hl 0 rfl) ?_
        refine z_callNi X hH (c_X5_bitsOf l D k a (zUp g 0 v) (v (z / 3))) k_X3_68 X.2.2.2.2.2.2.2.2.2.2.1 [.int (n), .int (v (z / 3))] rfl rfl hl.1 (Nat.le_of_ble_eq_true rfl) ⟨Nat.le_of_ble_eq_true rfl, Nat.le_of_ble_eq_true rfl⟩ ⟨Nat.le_refl _, Nat.le_refl _⟩ dX3_priceBy_89 (fun r4 g5 H locs h6 hH => ?_)
        rw [h6.2] at hH
        rw [h6.1]
        refine lv_imul hx hb dX3_priceBy_92 ?_
        refine lv_iadd hx hb dX3_priceBy_93 ?_
        refine lv_goto (tgt := 101) hx hb dX3_priceBy_94 (by decide) ?_
        refine lv_istore (lv' := [(6, .int ((v (z / 3)) + (n * (fBits (v (z / 3)))))), (5, .int (v (z / 3))), (4, .int (nI (z % 3))), (0, .ref (a 0 0)), (1, .int (nI z)), (2, .int (w)), (3, .int (n))]) hx hb dX3_priceBy_101 hl (by decide) rfl (fun ls hl => ?_)
        refine lv_iload hx hb dX3_priceBy_103 (lv_at hl 0 rfl) ?_
        refine lv_ldc hx hb hown (hts _ q_314) dX3_priceBy_105 ?_
        refine z_min X q_313 hl.1 (Nat.le_of_ble_eq_true rfl) (Nat.le_of_ble_eq_true rfl) ⟨Nat.le_refl _, Nat.le_refl _⟩ dX3_priceBy_107 ?_
        exact hret _ _ _ _ _ _ rfl ⟨by simp only [fCost, fRaw, c1, c2, c3, if_true, if_false, not_true_eq_false, not_false_eq_true, and_self, or_true, true_or, or_false, false_or, and_true, true_and, and_false, false_and, or_self, decide_eq_true_eq, Bool.false_eq_true, z10], rfl⟩ hH dX3_priceBy_110
    · refine lv_iload hx hb dX3_priceBy_49 (lv_at hl 0 rfl) ?_
      refine z_callNi X hH (c_X5_bitsOf l D k a (zUp g 0 v) (v (z / 3))) k_X3_68 X.2.2.2.2.2.2.2.2.2.2.1 [] rfl rfl hl.1 (Nat.le_of_ble_eq_true rfl) ⟨Nat.le_of_ble_eq_true rfl, Nat.le_of_ble_eq_true rfl⟩ ⟨Nat.le_refl _, Nat.le_refl _⟩ dX3_priceBy_51 (fun r7 g8 H locs h9 hH => ?_)
      rw [h9.2] at hH
      rw [h9.1]
      refine lv_aload_n hx hb dX3_priceBy_54 rfl (lv_at hl 2 rfl) ?_
      refine lv_iload_n hx hb dX3_priceBy_55 rfl (lv_at hl 3 rfl) ?_
      refine lv_iload_n hx hb dX3_priceBy_56 rfl (lv_at hl 5 rfl) ?_
      refine z_callVi X hH (c_X3_rowsMet l D k a g v (z) (by omega) n) k_X3_72 (rv_X3 X hH (by omega)) [.int (fBits (v (z / 3)))] rfl rfl hl.1 (Nat.le_of_ble_eq_true rfl) ⟨Nat.le_of_ble_eq_true rfl, Nat.le_of_ble_eq_true rfl⟩ ⟨Nat.le_refl _, Nat.le_refl _⟩ dX3_priceBy_57 (fun r10 g11 H locs h12 hH => ?_)
      rw [h12.2] at hH
      rw [h12.1]
      refine lv_iload hx hb dX3_priceBy_60 (lv_at hl 1 rfl) ?_
      refine lv_iconst (v := 2) hx hb dX3_priceBy_62 (by decide) ?_
      refine n_icmp_ne (A := z % 3) (B := 2) (tgt := 70) hx hb (by omega) (by omega) dX3_priceBy_63 (by decide) (fun c13 => ?_) (fun c13 => ?_)
      · refine lv_iconst (v := 3) hx hb dX3_priceBy_70 (by decide) ?_
        refine lv_imul hx hb dX3_priceBy_71 ?_
        refine lv_iadd hx hb dX3_priceBy_72 ?_
        refine lv_istore (lv' := [(6, .int ((fBits (v (z / 3))) + ((fMet v z n) * 3))), (5, .int (v (z / 3))), (4, .int (nI (z % 3))), (0, .ref (a 0 0)), (1, .int (nI z)), (2, .int (w)), (3, .int (n))]) hx hb dX3_priceBy_73 hl (by decide) rfl (fun ls hl => ?_)
        refine lv_goto (tgt := 103) hx hb dX3_priceBy_75 (by decide) ?_
        refine lv_iload hx hb dX3_priceBy_103 (lv_at hl 0 rfl) ?_
        refine lv_ldc hx hb hown (hts _ q_314) dX3_priceBy_105 ?_
        refine z_min X q_313 hl.1 (Nat.le_of_ble_eq_true rfl) (Nat.le_of_ble_eq_true rfl) ⟨Nat.le_refl _, Nat.le_refl _⟩ dX3_priceBy_107 ?_
        exact hret _ _ _ _ _ _ rfl ⟨by simp only [fCost, fRaw, c1, c2, c13, if_true, if_false, not_true_eq_false, not_false_eq_true, and_self, or_true, true_or, or_false, false_or, and_true, true_and, and_false, false_and, or_self, decide_eq_true_eq, Bool.false_eq_true, z10], rfl⟩ hH dX3_priceBy_110
      · refine lv_iconst (v := 1) hx hb dX3_priceBy_66 (by decide) ?_
        refine lv_goto (tgt := 71) hx hb dX3_priceBy_67 (by decide) ?_
        refine lv_imul hx hb dX3_priceBy_71 ?_
        refine lv_iadd hx hb dX3_priceBy_72 ?_
        refine lv_istore (lv' := [(6, .int ((fBits (v (z / 3))) + ((fMet v z n) * 1))), (5, .int (v (z / 3))), (4, .int (nI (z % 3))), (0, .ref (a 0 0)), (1, .int (nI z)), (2, .int (w)), (3, .int (n))]) hx hb dX3_priceBy_73 hl (by decide) rfl (fun ls hl => ?_)
        refine lv_goto (tgt := 103) hx hb dX3_priceBy_75 (by decide) ?_
        refine lv_iload hx hb dX3_priceBy_103 (lv_at hl 0 rfl) ?_
        refine lv_ldc hx hb hown (hts _ q_314) dX3_priceBy_105 ?_
        refine z_min X q_313 hl.1 (Nat.le_of_ble_eq_true rfl) (Nat.le_of_ble_eq_true rfl) ⟨Nat.le_refl _, Nat.le_refl _⟩ dX3_priceBy_107 ?_
        exact hret _ _ _ _ _ _ rfl ⟨by simp only [fCost, fRaw, c1, c2, c13, if_true, if_false, not_true_eq_false, not_false_eq_true, and_self, or_true, true_or, or_false, false_or, and_true, true_and, and_false, false_and, or_self, decide_eq_true_eq, Bool.false_eq_true, z10], rfl⟩ hH dX3_priceBy_110
  · refine lv_iload hx hb dX3_priceBy_19 (lv_at hl 1 rfl) ?_
    refine lv_iconst (v := 2) hx hb dX3_priceBy_21 (by decide) ?_
    refine n_icmp_ne (A := z % 3) (B := 2) (tgt := 37) hx hb (by omega) (by omega) dX3_priceBy_22 (by decide) (fun c14 => ?_) (fun c14 => ?_)
    · refine lv_iload hx hb dX3_priceBy_37 (lv_at hl 0 rfl) ?_
      refine lv_istore (lv' := [(6, .int (v (z / 3))), (5, .int (v (z / 3))), (4, .int (nI (z % 3))), (0, .ref (a 0 0)), (1, .int (nI z)), (2, .int (w)), (3, .int (n))]) hx hb dX3_priceBy_39 hl (by decide) rfl (fun ls hl => ?_)
      refine lv_goto (tgt := 103) hx hb dX3_priceBy_41 (by decide) ?_
      refine lv_iload hx hb dX3_priceBy_103 (lv_at hl 0 rfl) ?_
      refine lv_ldc hx hb hown (hts _ q_314) dX3_priceBy_105 ?_
      refine z_min X q_313 hl.1 (Nat.le_of_ble_eq_true rfl) (Nat.le_of_ble_eq_true rfl) ⟨Nat.le_refl _, Nat.le_refl _⟩ dX3_priceBy_107 ?_
      exact hret _ _ _ _ _ _ rfl ⟨by simp only [fCost, fRaw, c1, c14, if_true, if_false, not_true_eq_false, not_false_eq_true, and_self, or_true, true_or, or_false, false_or, and_true, true_and, and_false, false_and, or_self, decide_eq_true_eq, Bool.false_eq_true, z10], rfl⟩ hH dX3_priceBy_110
    · refine lv_iload hx hb dX3_priceBy_25 (lv_at hl 0 rfl) ?_
      refine lv_iload_n hx hb dX3_priceBy_27 rfl (lv_at hl 5 rfl) ?_
      refine lv_iload_n hx hb dX3_priceBy_28 rfl (lv_at hl 5 rfl) ?_
      refine z_callNi X hH (c_X5_bitsOf l D k a (zUp g 0 v) n) k_X3_68 X.2.2.2.2.2.2.2.2.2.2.1 [.int (n), .int (v (z / 3))] rfl rfl hl.1 (Nat.le_of_ble_eq_true rfl) ⟨Nat.le_of_ble_eq_true rfl, Nat.le_of_ble_eq_true rfl⟩ ⟨Nat.le_refl _, Nat.le_refl _⟩ dX3_priceBy_29 (fun r15 g16 H locs h17 hH => ?_)
      rw [h17.2] at hH
      rw [h17.1]
      refine lv_imul hx hb dX3_priceBy_32 ?_
      refine lv_iadd hx hb dX3_priceBy_33 ?_
      refine lv_goto (tgt := 39) hx hb dX3_priceBy_34 (by decide) ?_
      refine lv_istore (lv' := [(6, .int ((v (z / 3)) + (n * (fBits n)))), (5, .int (v (z / 3))), (4, .int (nI (z % 3))), (0, .ref (a 0 0)), (1, .int (nI z)), (2, .int (w)), (3, .int (n))]) hx hb dX3_priceBy_39 hl (by decide) rfl (fun ls hl => ?_)
      refine lv_goto (tgt := 103) hx hb dX3_priceBy_41 (by decide) ?_
      refine lv_iload hx hb dX3_priceBy_103 (lv_at hl 0 rfl) ?_
      refine lv_ldc hx hb hown (hts _ q_314) dX3_priceBy_105 ?_
      refine z_min X q_313 hl.1 (Nat.le_of_ble_eq_true rfl) (Nat.le_of_ble_eq_true rfl) ⟨Nat.le_refl _, Nat.le_refl _⟩ dX3_priceBy_107 ?_
      exact hret _ _ _ _ _ _ rfl ⟨by simp only [fCost, fRaw, c1, c14, if_true, if_false, not_true_eq_false, not_false_eq_true, and_self, or_true, true_or, or_false, false_or, and_true, true_and, and_false, false_and, or_self, decide_eq_true_eq, Bool.false_eq_true, z10], rfl⟩ hH dX3_priceBy_110
set_option maxRecDepth 100000 in
set_option maxHeartbeats 4000000 in
theorem c_X3_cheapestWay (l : Launch) (D : va_G) (k : Nat → ClassId) (a : Nat → Nat → Nat) (g : Mem) (v : V) (z : Nat) (hz : z < 12) (n : Int32) : zI l yX3_cheapestWay cX3_cheapestWay 7 .int 3 71 D k a [.ref (a 0 0), .int (nI z), .int (n)] (zUp g 0 v) (fun r g' => r = (fBest v z n) ∧ g' = (zUp g 0 v)) := by
  refine zI_of (own := RX3) (by decide +kernel) rfl (Nat.le_of_ble_eq_true rfl) ?_
  intro p e s m args below meth c X Q hret hH ls hl
  obtain ⟨hx, hb, hml, hown, hts⟩ := X.1
  have hl : lv_has ls 7 [(0, .ref (a 0 0)), (1, .int (nI z)), (2, .int (n))] := hl
  have hH : zH D k a s (zUp g 0 v) s.heap [] := hH
  refine lv_iconst (v := 0) hx hb dX3_cheapestWay_0 (by decide) ?_
  refine lv_istore_n (lv' := [(3, .int 0), (0, .ref (a 0 0)), (1, .int (nI z)), (2, .int (n))]) hx hb dX3_cheapestWay_1 rfl hl (by decide) rfl (fun ls hl => ?_)
  refine lv_aload_n hx hb dX3_cheapestWay_2 rfl (lv_at hl 1 rfl) ?_
  refine lv_iload_n hx hb dX3_cheapestWay_3 rfl (lv_at hl 2 rfl) ?_
  refine lv_iconst (v := 0) hx hb dX3_cheapestWay_4 (by decide) ?_
  refine lv_iload_n hx hb dX3_cheapestWay_5 rfl (lv_at hl 3 rfl) ?_
  refine z_callVi X hH (c_X3_priceBy l D k a g v (z) (by omega) 0 n) k_X3_85 (rv_X3 X hH (by omega)) [] rfl rfl hl.1 (Nat.le_of_ble_eq_true rfl) ⟨Nat.le_of_ble_eq_true rfl, Nat.le_of_ble_eq_true rfl⟩ ⟨Nat.le_refl _, Nat.le_refl _⟩ dX3_cheapestWay_6 (fun r1 g2 H locs h3 hH => ?_)
  rw [h3.2] at hH
  rw [h3.1]
  refine lv_istore (lv' := [(4, .int (fCost v z 0 n)), (3, .int 0), (0, .ref (a 0 0)), (1, .int (nI z)), (2, .int (n))]) hx hb dX3_cheapestWay_9 hl (by decide) rfl (fun ls hl => ?_)
  refine lv_iconst (v := 1) hx hb dX3_cheapestWay_11 (by decide) ?_
  refine lv_istore (lv' := [(5, .int 1), (4, .int (fCost v z 0 n)), (3, .int 0), (0, .ref (a 0 0)), (1, .int (nI z)), (2, .int (n))]) hx hb dX3_cheapestWay_12 hl (by decide) rfl (fun ls hl => ?_)
  refine lv_iload hx hb dX3_cheapestWay_14 (lv_at hl 0 rfl) ?_
  refine lv_iconst (v := 3) hx hb dX3_cheapestWay_16 (by decide) ?_
  refine lv_icmp_ge (tgt := 50) hx hb dX3_cheapestWay_17 (by decide) (fun q => absurd q (by decide)) (fun _ => ?_)
  refine lv_aload_n hx hb dX3_cheapestWay_20 rfl (lv_at hl 3 rfl) ?_
  refine lv_iload_n hx hb dX3_cheapestWay_21 rfl (lv_at hl 4 rfl) ?_
  refine lv_iload hx hb dX3_cheapestWay_22 (lv_at hl 0 rfl) ?_
  refine lv_iload_n hx hb dX3_cheapestWay_24 rfl (lv_at hl 5 rfl) ?_
  refine z_callVi X hH (c_X3_priceBy l D k a g v (z) (by omega) 1 n) k_X3_85 (rv_X3 X hH (by omega)) [] rfl rfl hl.1 (Nat.le_of_ble_eq_true rfl) ⟨Nat.le_of_ble_eq_true rfl, Nat.le_of_ble_eq_true rfl⟩ ⟨Nat.le_refl _, Nat.le_refl _⟩ dX3_cheapestWay_25 (fun r4 g5 H locs h6 hH => ?_)
  rw [h6.2] at hH
  rw [h6.1]
  refine lv_istore (lv' := [(6, .int (fCost v z 1 n)), (5, .int 1), (4, .int (fCost v z 0 n)), (3, .int 0), (0, .ref (a 0 0)), (1, .int (nI z)), (2, .int (n))]) hx hb dX3_cheapestWay_28 hl (by decide) rfl (fun ls hl => ?_)
  refine lv_iload hx hb dX3_cheapestWay_30 (lv_at hl 0 rfl) ?_
  refine lv_iload hx hb dX3_cheapestWay_32 (lv_at hl 2 rfl) ?_
  refine i_icmp_ge (tgt := 44) hx hb dX3_cheapestWay_34 (by decide) (fun c7 => ?_) (fun c7 => ?_)
  · refine lv_iinc (v := 2) (lv' := [(5, .int 2), (6, .int (fCost v z 1 n)), (4, .int (fCost v z 0 n)), (3, .int 0), (0, .ref (a 0 0)), (1, .int (nI z)), (2, .int (n))]) hx hb dX3_cheapestWay_44 hl (k := 1) rfl (by decide) (by decide) rfl (fun ls hl => ?_)
    refine lv_goto (tgt := 14) hx hb dX3_cheapestWay_47 (by decide) ?_
    refine lv_iload hx hb dX3_cheapestWay_14 (lv_at hl 0 rfl) ?_
    refine lv_iconst (v := 3) hx hb dX3_cheapestWay_16 (by decide) ?_
    refine lv_icmp_ge (tgt := 50) hx hb dX3_cheapestWay_17 (by decide) (fun q => absurd q (by decide)) (fun _ => ?_)
    refine lv_aload_n hx hb dX3_cheapestWay_20 rfl (lv_at hl 4 rfl) ?_
    refine lv_iload_n hx hb dX3_cheapestWay_21 rfl (lv_at hl 5 rfl) ?_
    refine lv_iload hx hb dX3_cheapestWay_22 (lv_at hl 0 rfl) ?_
    refine lv_iload_n hx hb dX3_cheapestWay_24 rfl (lv_at hl 6 rfl) ?_
    refine z_callVi X hH (c_X3_priceBy l D k a g v (z) (by omega) 2 n) k_X3_85 (rv_X3 X hH (by omega)) [] rfl rfl hl.1 (Nat.le_of_ble_eq_true rfl) ⟨Nat.le_of_ble_eq_true rfl, Nat.le_of_ble_eq_true rfl⟩ ⟨Nat.le_refl _, Nat.le_refl _⟩ dX3_cheapestWay_25 (fun r8 g9 H locs h10 hH => ?_)
    rw [h10.2] at hH
    rw [h10.1]
    refine lv_istore (lv' := [(6, .int (fCost v z 2 n)), (5, .int 2), (4, .int (fCost v z 0 n)), (3, .int 0), (0, .ref (a 0 0)), (1, .int (nI z)), (2, .int (n))]) hx hb dX3_cheapestWay_28 hl (by decide) rfl (fun ls hl => ?_)
    refine lv_iload hx hb dX3_cheapestWay_30 (lv_at hl 0 rfl) ?_
    refine lv_iload hx hb dX3_cheapestWay_32 (lv_at hl 2 rfl) ?_
    refine i_icmp_ge (tgt := 44) hx hb dX3_cheapestWay_34 (by decide) (fun c11 => ?_) (fun c11 => ?_)
    · refine lv_iinc (v := 3) (lv' := [(5, .int 3), (6, .int (fCost v z 2 n)), (4, .int (fCost v z 0 n)), (3, .int 0), (0, .ref (a 0 0)), (1, .int (nI z)), (2, .int (n))]) hx hb dX3_cheapestWay_44 hl (k := 1) rfl (by decide) (by decide) rfl (fun ls hl => ?_)
      refine lv_goto (tgt := 14) hx hb dX3_cheapestWay_47 (by decide) ?_
      refine lv_iload hx hb dX3_cheapestWay_14 (lv_at hl 0 rfl) ?_
      refine lv_iconst (v := 3) hx hb dX3_cheapestWay_16 (by decide) ?_
      refine lv_icmp_ge (tgt := 50) hx hb dX3_cheapestWay_17 (by decide) (fun _ => ?_) (fun q => absurd (by decide) q)
      refine lv_iload_n hx hb dX3_cheapestWay_50 rfl (lv_at hl 3 rfl) ?_
      exact hret _ _ _ _ _ _ rfl ⟨by simp only [fBest, fB1, c7, c11, if_true, if_false, not_true_eq_false, not_false_eq_true, and_self, or_true, true_or, or_false, false_or, and_true, true_and, and_false, false_and, or_self, decide_eq_true_eq, Bool.false_eq_true, z10], rfl⟩ hH dX3_cheapestWay_51
    · refine lv_iload hx hb dX3_cheapestWay_37 (lv_at hl 1 rfl) ?_
      refine lv_istore_n (lv' := [(3, .int 2), (6, .int (fCost v z 2 n)), (5, .int 2), (4, .int (fCost v z 0 n)), (0, .ref (a 0 0)), (1, .int (nI z)), (2, .int (n))]) hx hb dX3_cheapestWay_39 rfl hl (by decide) rfl (fun ls hl => ?_)
      refine lv_iload hx hb dX3_cheapestWay_40 (lv_at hl 1 rfl) ?_
      refine lv_istore (lv' := [(4, .int (fCost v z 2 n)), (3, .int 2), (6, .int (fCost v z 2 n)), (5, .int 2), (0, .ref (a 0 0)), (1, .int (nI z)), (2, .int (n))]) hx hb dX3_cheapestWay_42 hl (by decide) rfl (fun ls hl => ?_)
      refine lv_iinc (v := 3) (lv' := [(5, .int 3), (4, .int (fCost v z 2 n)), (3, .int 2), (6, .int (fCost v z 2 n)), (0, .ref (a 0 0)), (1, .int (nI z)), (2, .int (n))]) hx hb dX3_cheapestWay_44 hl (k := 3) rfl (by decide) (by decide) rfl (fun ls hl => ?_)
      refine lv_goto (tgt := 14) hx hb dX3_cheapestWay_47 (by decide) ?_
      refine lv_iload hx hb dX3_cheapestWay_14 (lv_at hl 0 rfl) ?_
      refine lv_iconst (v := 3) hx hb dX3_cheapestWay_16 (by decide) ?_
      refine lv_icmp_ge (tgt := 50) hx hb dX3_cheapestWay_17 (by decide) (fun _ => ?_) (fun q => absurd (by decide) q)
      refine lv_iload_n hx hb dX3_cheapestWay_50 rfl (lv_at hl 2 rfl) ?_
      exact hret _ _ _ _ _ _ rfl ⟨by simp only [fBest, fB1, c7, c11, if_true, if_false, not_true_eq_false, not_false_eq_true, and_self, or_true, true_or, or_false, false_or, and_true, true_and, and_false, false_and, or_self, decide_eq_true_eq, Bool.false_eq_true, z10], rfl⟩ hH dX3_cheapestWay_51
  · refine lv_iload hx hb dX3_cheapestWay_37 (lv_at hl 1 rfl) ?_
    refine lv_istore_n (lv' := [(3, .int 1), (6, .int (fCost v z 1 n)), (5, .int 1), (4, .int (fCost v z 0 n)), (0, .ref (a 0 0)), (1, .int (nI z)), (2, .int (n))]) hx hb dX3_cheapestWay_39 rfl hl (by decide) rfl (fun ls hl => ?_)
    refine lv_iload hx hb dX3_cheapestWay_40 (lv_at hl 1 rfl) ?_
    refine lv_istore (lv' := [(4, .int (fCost v z 1 n)), (3, .int 1), (6, .int (fCost v z 1 n)), (5, .int 1), (0, .ref (a 0 0)), (1, .int (nI z)), (2, .int (n))]) hx hb dX3_cheapestWay_42 hl (by decide) rfl (fun ls hl => ?_)
    refine lv_iinc (v := 2) (lv' := [(5, .int 2), (4, .int (fCost v z 1 n)), (3, .int 1), (6, .int (fCost v z 1 n)), (0, .ref (a 0 0)), (1, .int (nI z)), (2, .int (n))]) hx hb dX3_cheapestWay_44 hl (k := 3) rfl (by decide) (by decide) rfl (fun ls hl => ?_)
    refine lv_goto (tgt := 14) hx hb dX3_cheapestWay_47 (by decide) ?_
    refine lv_iload hx hb dX3_cheapestWay_14 (lv_at hl 0 rfl) ?_
    refine lv_iconst (v := 3) hx hb dX3_cheapestWay_16 (by decide) ?_
    refine lv_icmp_ge (tgt := 50) hx hb dX3_cheapestWay_17 (by decide) (fun q => absurd q (by decide)) (fun _ => ?_)
    refine lv_aload_n hx hb dX3_cheapestWay_20 rfl (lv_at hl 4 rfl) ?_
    refine lv_iload_n hx hb dX3_cheapestWay_21 rfl (lv_at hl 5 rfl) ?_
    refine lv_iload hx hb dX3_cheapestWay_22 (lv_at hl 0 rfl) ?_
    refine lv_iload_n hx hb dX3_cheapestWay_24 rfl (lv_at hl 6 rfl) ?_
    refine z_callVi X hH (c_X3_priceBy l D k a g v (z) (by omega) 2 n) k_X3_85 (rv_X3 X hH (by omega)) [] rfl rfl hl.1 (Nat.le_of_ble_eq_true rfl) ⟨Nat.le_of_ble_eq_true rfl, Nat.le_of_ble_eq_true rfl⟩ ⟨Nat.le_refl _, Nat.le_refl _⟩ dX3_cheapestWay_25 (fun r12 g13 H locs h14 hH => ?_)
    rw [h14.2] at hH
    rw [h14.1]
    refine lv_istore (lv' := [(6, .int (fCost v z 2 n)), (5, .int 2), (4, .int (fCost v z 1 n)), (3, .int 1), (0, .ref (a 0 0)), (1, .int (nI z)), (2, .int (n))]) hx hb dX3_cheapestWay_28 hl (by decide) rfl (fun ls hl => ?_)
    refine lv_iload hx hb dX3_cheapestWay_30 (lv_at hl 0 rfl) ?_
    refine lv_iload hx hb dX3_cheapestWay_32 (lv_at hl 2 rfl) ?_
    refine i_icmp_ge (tgt := 44) hx hb dX3_cheapestWay_34 (by decide) (fun c15 => ?_) (fun c15 => ?_)
    · refine lv_iinc (v := 3) (lv' := [(5, .int 3), (6, .int (fCost v z 2 n)), (4, .int (fCost v z 1 n)), (3, .int 1), (0, .ref (a 0 0)), (1, .int (nI z)), (2, .int (n))]) hx hb dX3_cheapestWay_44 hl (k := 1) rfl (by decide) (by decide) rfl (fun ls hl => ?_)
      refine lv_goto (tgt := 14) hx hb dX3_cheapestWay_47 (by decide) ?_
      refine lv_iload hx hb dX3_cheapestWay_14 (lv_at hl 0 rfl) ?_
      refine lv_iconst (v := 3) hx hb dX3_cheapestWay_16 (by decide) ?_
      refine lv_icmp_ge (tgt := 50) hx hb dX3_cheapestWay_17 (by decide) (fun _ => ?_) (fun q => absurd (by decide) q)
      refine lv_iload_n hx hb dX3_cheapestWay_50 rfl (lv_at hl 3 rfl) ?_
      exact hret _ _ _ _ _ _ rfl ⟨by simp only [fBest, fB1, c7, c15, if_true, if_false, not_true_eq_false, not_false_eq_true, and_self, or_true, true_or, or_false, false_or, and_true, true_and, and_false, false_and, or_self, decide_eq_true_eq, Bool.false_eq_true, z10], rfl⟩ hH dX3_cheapestWay_51
    · refine lv_iload hx hb dX3_cheapestWay_37 (lv_at hl 1 rfl) ?_
      refine lv_istore_n (lv' := [(3, .int 2), (6, .int (fCost v z 2 n)), (5, .int 2), (4, .int (fCost v z 1 n)), (0, .ref (a 0 0)), (1, .int (nI z)), (2, .int (n))]) hx hb dX3_cheapestWay_39 rfl hl (by decide) rfl (fun ls hl => ?_)
      refine lv_iload hx hb dX3_cheapestWay_40 (lv_at hl 1 rfl) ?_
      refine lv_istore (lv' := [(4, .int (fCost v z 2 n)), (3, .int 2), (6, .int (fCost v z 2 n)), (5, .int 2), (0, .ref (a 0 0)), (1, .int (nI z)), (2, .int (n))]) hx hb dX3_cheapestWay_42 hl (by decide) rfl (fun ls hl => ?_)
      refine lv_iinc (v := 3) (lv' := [(5, .int 3), (4, .int (fCost v z 2 n)), (3, .int 2), (6, .int (fCost v z 2 n)), (0, .ref (a 0 0)), (1, .int (nI z)), (2, .int (n))]) hx hb dX3_cheapestWay_44 hl (k := 3) rfl (by decide) (by decide) rfl (fun ls hl => ?_)
      refine lv_goto (tgt := 14) hx hb dX3_cheapestWay_47 (by decide) ?_
      refine lv_iload hx hb dX3_cheapestWay_14 (lv_at hl 0 rfl) ?_
      refine lv_iconst (v := 3) hx hb dX3_cheapestWay_16 (by decide) ?_
      refine lv_icmp_ge (tgt := 50) hx hb dX3_cheapestWay_17 (by decide) (fun _ => ?_) (fun q => absurd (by decide) q)
      refine lv_iload_n hx hb dX3_cheapestWay_50 rfl (lv_at hl 2 rfl) ?_
      exact hret _ _ _ _ _ _ rfl ⟨by simp only [fBest, fB1, c7, c15, if_true, if_false, not_true_eq_false, not_false_eq_true, and_self, or_true, true_or, or_false, false_or, and_true, true_and, and_false, false_and, or_self, decide_eq_true_eq, Bool.false_eq_true, z10], rfl⟩ hH dX3_cheapestWay_51
set_option maxRecDepth 100000 in
set_option maxHeartbeats 4000000 in
theorem c_X3_rowsChangedTooMuch (l : Launch) (D : va_G) (k : Nat → ClassId) (a : Nat → Nat → Nat) (g : Mem) (v : V) (z : Nat) (hz : z < 12) : zI l yX3_rowsChangedTooMuch cX3_rowsChangedTooMuch 3 .boolean 1 21 D k a [.ref (a 0 0), .int (nI z)] (zUp g 0 v) (fun r g' => r = (if fChanged v z = true then 1 else 0) ∧ g' = (zUp g 0 v)) := by
  refine zI_of (own := RX3) (by decide +kernel) rfl (Nat.le_of_ble_eq_true rfl) ?_
  intro p e s m args below meth c X Q hret hH ls hl
  obtain ⟨hx, hb, hml, hown, hts⟩ := X.1
  have hl : lv_has ls 3 [(0, .ref (a 0 0)), (1, .int (nI z))] := hl
  have hH : zH D k a s (zUp g 0 v) s.heap [] := hH
  refine lv_aload_n hx hb dX3_rowsChangedTooMuch_0 rfl (lv_at hl 0 rfl) ?_
  refine gf_X3_plans X hH (by omega) q_120 dX3_rowsChangedTooMuch_1 ?_
  refine lv_iload_n hx hb dX3_rowsChangedTooMuch_4 rfl (lv_at hl 1 rfl) ?_
  refine ar_plans X hH (by omega) (z) (by omega) dX3_rowsChangedTooMuch_5 ?_
  refine gn_X1_rows X hH (by omega) q_84 dX3_rowsChangedTooMuch_6 ?_
  refine lv_istore_n (lv' := [(2, .int (v (13 + 11 * z + 10))), (0, .ref (a 0 0)), (1, .int (nI z))]) hx hb dX3_rowsChangedTooMuch_9 rfl hl (by decide) rfl (fun ls hl => ?_)
  refine lv_aload_n hx hb dX3_rowsChangedTooMuch_10 rfl (lv_at hl 1 rfl) ?_
  refine lv_iload_n hx hb dX3_rowsChangedTooMuch_11 rfl (lv_at hl 2 rfl) ?_
  refine z_callVr X hH (c_X3_tableUnder l D k a (zUp g 0 v) (z) (by omega)) k_X3_64 (rv_X3 X hH (by omega)) [] rfl rfl hl.1 (Nat.le_of_ble_eq_true rfl) ⟨Nat.le_of_ble_eq_true rfl, Nat.le_of_ble_eq_true rfl⟩ ⟨Nat.le_refl _, Nat.le_refl _⟩ dX3_rowsChangedTooMuch_12 (fun H locs hH => ?_)
  refine gn_X4_rows X hH (by omega) q_37 dX3_rowsChangedTooMuch_15 ?_
  refine lv_iload_n hx hb dX3_rowsChangedTooMuch_18 rfl (lv_at hl 0 rfl) ?_
  refine lv_isub hx hb dX3_rowsChangedTooMuch_19 ?_
  refine z_abs X q_288 hl.1 (Nat.le_of_ble_eq_true rfl) (Nat.le_of_ble_eq_true rfl) ⟨Nat.le_refl _, Nat.le_refl _⟩ dX3_rowsChangedTooMuch_20 ?_
  refine lv_iload_n hx hb dX3_rowsChangedTooMuch_23 rfl (lv_at hl 0 rfl) ?_
  refine lv_iconst (v := 2) hx hb dX3_rowsChangedTooMuch_24 (by decide) ?_
  refine lv_idiv hx hb dX3_rowsChangedTooMuch_25 (by decide) ?_
  refine i_icmp_le (tgt := 33) hx hb dX3_rowsChangedTooMuch_26 (by decide) (fun c1 => ?_) (fun c1 => ?_)
  · refine lv_iconst (v := 0) hx hb dX3_rowsChangedTooMuch_33 (by decide) ?_
    exact hret _ _ _ _ _ _ rfl ⟨by simp only [fChanged, fAbs, c1, if_true, if_false, not_true_eq_false, not_false_eq_true, and_self, or_true, true_or, or_false, false_or, and_true, true_and, and_false, false_and, or_self, decide_eq_true_eq, Bool.false_eq_true, z10], rfl⟩ hH dX3_rowsChangedTooMuch_34
  · refine lv_iconst (v := 1) hx hb dX3_rowsChangedTooMuch_29 (by decide) ?_
    refine lv_goto (tgt := 34) hx hb dX3_rowsChangedTooMuch_30 (by decide) ?_
    exact hret _ _ _ _ _ _ rfl ⟨by simp only [fChanged, fAbs, c1, if_true, if_false, not_true_eq_false, not_false_eq_true, and_self, or_true, true_or, or_false, false_or, and_true, true_and, and_false, false_and, or_self, decide_eq_true_eq, Bool.false_eq_true, z10], rfl⟩ hH dX3_rowsChangedTooMuch_34
set_option maxRecDepth 100000 in
set_option maxHeartbeats 4000000 in
theorem c_X3_isTooOld (l : Launch) (D : va_G) (k : Nat → ClassId) (a : Nat → Nat → Nat) (g : Mem) (v : V) (z : Nat) (hz : z < 12) : zI l yX3_isTooOld cX3_isTooOld 2 .boolean 0 0 D k a [.ref (a 0 0), .int (nI z)] (zUp g 0 v) (fun r g' => r = (if fOld v z = true then 1 else 0) ∧ g' = (zUp g 0 v)) := by
  refine zI_of (own := RX3) (by decide +kernel) rfl (Nat.le_of_ble_eq_true rfl) ?_
  intro p e s m args below meth c X Q hret hH ls hl
  obtain ⟨hx, hb, hml, hown, hts⟩ := X.1
  have hl : lv_has ls 2 [(0, .ref (a 0 0)), (1, .int (nI z))] := hl
  have hH : zH D k a s (zUp g 0 v) s.heap [] := hH
  refine lv_aload_n hx hb dX3_isTooOld_0 rfl (lv_at hl 0 rfl) ?_
  refine gn_X3_questions X hH q_124 dX3_isTooOld_1 ?_
  refine lv_aload_n hx hb dX3_isTooOld_4 rfl (lv_at hl 0 rfl) ?_
  refine gf_X3_plans X hH (by omega) q_120 dX3_isTooOld_5 ?_
  refine lv_iload_n hx hb dX3_isTooOld_8 rfl (lv_at hl 1 rfl) ?_
  refine ar_plans X hH (by omega) (z) (by omega) dX3_isTooOld_9 ?_
  refine gn_X1_madeAt X hH (by omega) q_90 dX3_isTooOld_10 ?_
  refine lv_isub hx hb dX3_isTooOld_13 ?_
  refine lv_aload_n hx hb dX3_isTooOld_14 rfl (lv_at hl 0 rfl) ?_
  refine gf_X3_settings X hH (by omega) q_122 dX3_isTooOld_15 ?_
  refine lv_iconst (v := 2) hx hb dX3_isTooOld_18 (by decide) ?_
  refine an_sets X hH (2) (by omega) dX3_isTooOld_19 ?_
  refine i_icmp_le (tgt := 27) hx hb dX3_isTooOld_20 (by decide) (fun c1 => ?_) (fun c1 => ?_)
  · refine lv_iconst (v := 0) hx hb dX3_isTooOld_27 (by decide) ?_
    exact hret _ _ _ _ _ _ rfl ⟨by simp only [fOld, c1, if_true, if_false, not_true_eq_false, not_false_eq_true, and_self, or_true, true_or, or_false, false_or, and_true, true_and, and_false, false_and, or_self, decide_eq_true_eq, Bool.false_eq_true, z10], rfl⟩ hH dX3_isTooOld_28
  · refine lv_iconst (v := 1) hx hb dX3_isTooOld_23 (by decide) ?_
    refine lv_goto (tgt := 28) hx hb dX3_isTooOld_24 (by decide) ?_
    exact hret _ _ _ _ _ _ rfl ⟨by simp only [fOld, c1, if_true, if_false, not_true_eq_false, not_false_eq_true, and_self, or_true, true_or, or_false, false_or, and_true, true_and, and_false, false_and, or_self, decide_eq_true_eq, Bool.false_eq_true, z10], rfl⟩ hH dX3_isTooOld_28
set_option maxRecDepth 100000 in
set_option maxHeartbeats 4000000 in
theorem c_X3_isStale (l : Launch) (D : va_G) (k : Nat → ClassId) (a : Nat → Nat → Nat) (g : Mem) (v : V) (z : Nat) (hz : z < 12) : zI l yX3_isStale cX3_isStale 2 .boolean 2 43 D k a [.ref (a 0 0), .int (nI z)] (zUp g 0 v) (fun r g' => r = (if fChanged v z = true ∨ fOld v z = true then 1 else 0) ∧ g' = (zUp g 0 v)) := by
  refine zI_of (own := RX3) (by decide +kernel) rfl (Nat.le_of_ble_eq_true rfl) ?_
  intro p e s m args below meth c X Q hret hH ls hl
  obtain ⟨hx, hb, hml, hown, hts⟩ := X.1
  have hl : lv_has ls 2 [(0, .ref (a 0 0)), (1, .int (nI z))] := hl
  have hH : zH D k a s (zUp g 0 v) s.heap [] := hH
  refine lv_aload_n hx hb dX3_isStale_0 rfl (lv_at hl 0 rfl) ?_
  refine lv_iload_n hx hb dX3_isStale_1 rfl (lv_at hl 1 rfl) ?_
  refine z_callVi X hH (c_X3_rowsChangedTooMuch l D k a g v (z) (by omega)) k_X3_96 (rv_X3 X hH (by omega)) [] rfl rfl hl.1 (Nat.le_of_ble_eq_true rfl) ⟨Nat.le_of_ble_eq_true rfl, Nat.le_of_ble_eq_true rfl⟩ ⟨Nat.le_refl _, Nat.le_refl _⟩ dX3_isStale_2 (fun r1 g2 H locs h3 hH => ?_)
  rw [h3.2] at hH
  rw [h3.1]
  refine b_ifne (P := fChanged v z = true) (tgt := 16) hx hb dX3_isStale_5 (by decide) (fun c4 => ?_) (fun c4 => ?_)
  · refine lv_iconst (v := 1) hx hb dX3_isStale_16 (by decide) ?_
    refine lv_goto (tgt := 21) hx hb dX3_isStale_17 (by decide) ?_
    exact hret _ _ _ _ _ _ rfl ⟨by simp only [c4, if_true, if_false, not_true_eq_false, not_false_eq_true, and_self, or_true, true_or, or_false, false_or, and_true, true_and, and_false, false_and, or_self, decide_eq_true_eq, Bool.false_eq_true, z10], rfl⟩ hH dX3_isStale_21
  · refine lv_aload_n hx hb dX3_isStale_8 rfl (lv_at hl 0 rfl) ?_
    refine lv_iload_n hx hb dX3_isStale_9 rfl (lv_at hl 1 rfl) ?_
    refine z_callVi X hH (c_X3_isTooOld l D k a g v (z) (by omega)) k_X3_100 (rv_X3 X hH (by omega)) [] rfl rfl hl.1 (Nat.le_of_ble_eq_true rfl) ⟨Nat.le_of_ble_eq_true rfl, Nat.le_of_ble_eq_true rfl⟩ ⟨Nat.le_refl _, Nat.le_refl _⟩ dX3_isStale_10 (fun r5 g6 H locs h7 hH => ?_)
    rw [h7.2] at hH
    rw [h7.1]
    refine b_ifeq (P := fOld v z = true) (tgt := 20) hx hb dX3_isStale_13 (by decide) (fun c8 => ?_) (fun c8 => ?_)
    · refine lv_iconst (v := 0) hx hb dX3_isStale_20 (by decide) ?_
      exact hret _ _ _ _ _ _ rfl ⟨by simp only [c4, c8, if_true, if_false, not_true_eq_false, not_false_eq_true, and_self, or_true, true_or, or_false, false_or, and_true, true_and, and_false, false_and, or_self, decide_eq_true_eq, Bool.false_eq_true, z10], rfl⟩ hH dX3_isStale_21
    · refine lv_iconst (v := 1) hx hb dX3_isStale_16 (by decide) ?_
      refine lv_goto (tgt := 21) hx hb dX3_isStale_17 (by decide) ?_
      exact hret _ _ _ _ _ _ rfl ⟨by simp only [c4, c8, if_true, if_false, not_true_eq_false, not_false_eq_true, and_self, or_true, true_or, or_false, false_or, and_true, true_and, and_false, false_and, or_self, decide_eq_true_eq, Bool.false_eq_true, z10], rfl⟩ hH dX3_isStale_21
set_option maxRecDepth 100000 in
set_option maxHeartbeats 4000000 in
theorem c_X3_isTooDear (l : Launch) (D : va_G) (k : Nat → ClassId) (a : Nat → Nat → Nat) (g : Mem) (v : V) (z : Nat) (hz : z < 12) (x : Int32) : zI l yX3_isTooDear cX3_isTooDear 3 .boolean 0 0 D k a [.ref (a 0 0), .int (nI z), .int (x)] (zUp g 0 v) (fun r g' => r = (if fDear v z x = true then 1 else 0) ∧ g' = (zUp g 0 v)) := by
  refine zI_of (own := RX3) (by decide +kernel) rfl (Nat.le_of_ble_eq_true rfl) ?_
  intro p e s m args below meth c X Q hret hH ls hl
  obtain ⟨hx, hb, hml, hown, hts⟩ := X.1
  have hl : lv_has ls 3 [(0, .ref (a 0 0)), (1, .int (nI z)), (2, .int (x))] := hl
  have hH : zH D k a s (zUp g 0 v) s.heap [] := hH
  refine lv_iload_n hx hb dX3_isTooDear_0 rfl (lv_at hl 2 rfl) ?_
  refine lv_aload_n hx hb dX3_isTooDear_1 rfl (lv_at hl 0 rfl) ?_
  refine gf_X3_settings X hH (by omega) q_122 dX3_isTooDear_2 ?_
  refine lv_iconst (v := 4) hx hb dX3_isTooDear_5 (by decide) ?_
  refine an_sets X hH (4) (by omega) dX3_isTooDear_6 ?_
  refine lv_aload_n hx hb dX3_isTooDear_7 rfl (lv_at hl 0 rfl) ?_
  refine gf_X3_plans X hH (by omega) q_120 dX3_isTooDear_8 ?_
  refine lv_iload_n hx hb dX3_isTooDear_11 rfl (lv_at hl 1 rfl) ?_
  refine ar_plans X hH (by omega) (z) (by omega) dX3_isTooDear_12 ?_
  refine gn_X1_guess X hH (by omega) q_81 dX3_isTooDear_13 ?_
  refine lv_imul hx hb dX3_isTooDear_16 ?_
  refine i_icmp_le (tgt := 24) hx hb dX3_isTooDear_17 (by decide) (fun c1 => ?_) (fun c1 => ?_)
  · refine lv_iconst (v := 0) hx hb dX3_isTooDear_24 (by decide) ?_
    exact hret _ _ _ _ _ _ rfl ⟨by simp only [fDear, c1, if_true, if_false, not_true_eq_false, not_false_eq_true, and_self, or_true, true_or, or_false, false_or, and_true, true_and, and_false, false_and, or_self, decide_eq_true_eq, Bool.false_eq_true, z10], rfl⟩ hH dX3_isTooDear_25
  · refine lv_iconst (v := 1) hx hb dX3_isTooDear_20 (by decide) ?_
    refine lv_goto (tgt := 25) hx hb dX3_isTooDear_21 (by decide) ?_
    exact hret _ _ _ _ _ _ rfl ⟨by simp only [fDear, c1, if_true, if_false, not_true_eq_false, not_false_eq_true, and_self, or_true, true_or, or_false, false_or, and_true, true_and, and_false, false_and, or_self, decide_eq_true_eq, Bool.false_eq_true, z10], rfl⟩ hH dX3_isTooDear_25
set_option maxRecDepth 100000 in
set_option maxHeartbeats 4000000 in
theorem c_X3_whyNotUsed (l : Launch) (D : va_G) (k : Nat → ClassId) (a : Nat → Nat → Nat) (g : Mem) (v : V) (z : Nat) (hz : z < 12) (n : Int32) : zI l yX3_whyNotUsed cX3_whyNotUsed 4 .int 2 43 D k a [.ref (a 0 0), .int (nI z), .int (n)] (zUp g 0 v) (fun r g' => r = (fWhy v z n) ∧ g' = (zUp g 0 v)) := by
  refine zI_of (own := RX3) (by decide +kernel) rfl (Nat.le_of_ble_eq_true rfl) ?_
  intro p e s m args below meth c X Q hret hH ls hl
  obtain ⟨hx, hb, hml, hown, hts⟩ := X.1
  have hl : lv_has ls 4 [(0, .ref (a 0 0)), (1, .int (nI z)), (2, .int (n))] := hl
  have hH : zH D k a s (zUp g 0 v) s.heap [] := hH
  refine lv_aload_n hx hb dX3_whyNotUsed_0 rfl (lv_at hl 0 rfl) ?_
  refine gf_X3_plans X hH (by omega) q_120 dX3_whyNotUsed_1 ?_
  refine lv_iload_n hx hb dX3_whyNotUsed_4 rfl (lv_at hl 1 rfl) ?_
  refine ar_plans X hH (by omega) (z) (by omega) dX3_whyNotUsed_5 ?_
  refine lv_astore_n (lv' := [(3, .ref (a 0 (8 + z))), (0, .ref (a 0 0)), (1, .int (nI z)), (2, .int (n))]) hx hb dX3_whyNotUsed_6 rfl hl (by decide) rfl (fun ls hl => ?_)
  refine lv_aload_n hx hb dX3_whyNotUsed_7 rfl (lv_at hl 0 rfl) ?_
  refine gn_X1_kept X hH (by omega) q_64 dX3_whyNotUsed_8 ?_
  refine lv_if_ne (tgt := 16) hx hb dX3_whyNotUsed_11 (by decide) (fun c1 => ?_) (fun c1 => ?_)
  · refine lv_iload_n hx hb dX3_whyNotUsed_16 rfl (lv_at hl 3 rfl) ?_
    refine lv_aload_n hx hb dX3_whyNotUsed_17 rfl (lv_at hl 0 rfl) ?_
    refine gn_X1_least X hH (by omega) q_72 dX3_whyNotUsed_18 ?_
    refine i_icmp_ge (tgt := 26) hx hb dX3_whyNotUsed_21 (by decide) (fun c2 => ?_) (fun c2 => ?_)
    · refine lv_iload_n hx hb dX3_whyNotUsed_26 rfl (lv_at hl 3 rfl) ?_
      refine lv_aload_n hx hb dX3_whyNotUsed_27 rfl (lv_at hl 0 rfl) ?_
      refine gn_X1_most X hH (by omega) q_75 dX3_whyNotUsed_28 ?_
      refine i_icmp_le (tgt := 36) hx hb dX3_whyNotUsed_31 (by decide) (fun c3 => ?_) (fun c3 => ?_)
      · refine lv_aload_n hx hb dX3_whyNotUsed_36 rfl (lv_at hl 1 rfl) ?_
        refine lv_iload_n hx hb dX3_whyNotUsed_37 rfl (lv_at hl 2 rfl) ?_
        refine z_callVi X hH (c_X3_rowsChangedTooMuch l D k a g v (z) (by omega)) k_X3_96 (rv_X3 X hH (by omega)) [] rfl rfl hl.1 (Nat.le_of_ble_eq_true rfl) ⟨Nat.le_of_ble_eq_true rfl, Nat.le_of_ble_eq_true rfl⟩ ⟨Nat.le_refl _, Nat.le_refl _⟩ dX3_whyNotUsed_38 (fun r4 g5 H locs h6 hH => ?_)
        rw [h6.2] at hH
        rw [h6.1]
        refine b_ifeq (P := fChanged v z = true) (tgt := 46) hx hb dX3_whyNotUsed_41 (by decide) (fun c7 => ?_) (fun c7 => ?_)
        · refine lv_aload_n hx hb dX3_whyNotUsed_46 rfl (lv_at hl 1 rfl) ?_
          refine lv_iload_n hx hb dX3_whyNotUsed_47 rfl (lv_at hl 2 rfl) ?_
          refine z_callVi X hH (c_X3_isTooOld l D k a g v (z) (by omega)) k_X3_100 (rv_X3 X hH (by omega)) [] rfl rfl hl.1 (Nat.le_of_ble_eq_true rfl) ⟨Nat.le_of_ble_eq_true rfl, Nat.le_of_ble_eq_true rfl⟩ ⟨Nat.le_refl _, Nat.le_refl _⟩ dX3_whyNotUsed_48 (fun r8 g9 H locs h10 hH => ?_)
          rw [h10.2] at hH
          rw [h10.1]
          refine b_ifeq (P := fOld v z = true) (tgt := 58) hx hb dX3_whyNotUsed_51 (by decide) (fun c11 => ?_) (fun c11 => ?_)
          · refine lv_iconst (v := 0) hx hb dX3_whyNotUsed_58 (by decide) ?_
            exact hret _ _ _ _ _ _ rfl ⟨by simp only [fWhy, c1, c2, c3, c7, c11, if_true, if_false, not_true_eq_false, not_false_eq_true, and_self, or_true, true_or, or_false, false_or, and_true, true_and, and_false, false_and, or_self, decide_eq_true_eq, Bool.false_eq_true, z10], rfl⟩ hH dX3_whyNotUsed_59
          · refine lv_iconst (v := 5) hx hb dX3_whyNotUsed_54 (by decide) ?_
            refine lv_goto (tgt := 59) hx hb dX3_whyNotUsed_55 (by decide) ?_
            exact hret _ _ _ _ _ _ rfl ⟨by simp only [fWhy, c1, c2, c3, c7, c11, if_true, if_false, not_true_eq_false, not_false_eq_true, and_self, or_true, true_or, or_false, false_or, and_true, true_and, and_false, false_and, or_self, decide_eq_true_eq, Bool.false_eq_true, z10], rfl⟩ hH dX3_whyNotUsed_59
        · refine lv_iconst (v := 4) hx hb dX3_whyNotUsed_44 (by decide) ?_
          exact hret _ _ _ _ _ _ rfl ⟨by simp only [fWhy, c1, c2, c3, c7, if_true, if_false, not_true_eq_false, not_false_eq_true, and_self, or_true, true_or, or_false, false_or, and_true, true_and, and_false, false_and, or_self, decide_eq_true_eq, Bool.false_eq_true, z10], rfl⟩ hH dX3_whyNotUsed_45
      · refine lv_iconst (v := 3) hx hb dX3_whyNotUsed_34 (by decide) ?_
        exact hret _ _ _ _ _ _ rfl ⟨by simp only [fWhy, c1, c2, c3, if_true, if_false, not_true_eq_false, not_false_eq_true, and_self, or_true, true_or, or_false, false_or, and_true, true_and, and_false, false_and, or_self, decide_eq_true_eq, Bool.false_eq_true, z10], rfl⟩ hH dX3_whyNotUsed_35
    · refine lv_iconst (v := 2) hx hb dX3_whyNotUsed_24 (by decide) ?_
      exact hret _ _ _ _ _ _ rfl ⟨by simp only [fWhy, c1, c2, if_true, if_false, not_true_eq_false, not_false_eq_true, and_self, or_true, true_or, or_false, false_or, and_true, true_and, and_false, false_and, or_self, decide_eq_true_eq, Bool.false_eq_true, z10], rfl⟩ hH dX3_whyNotUsed_25
  · refine lv_iconst (v := 1) hx hb dX3_whyNotUsed_14 (by decide) ?_
    exact hret _ _ _ _ _ _ rfl ⟨by simp only [fWhy, c1, if_true, if_false, not_true_eq_false, not_false_eq_true, and_self, or_true, true_or, or_false, false_or, and_true, true_and, and_false, false_and, or_self, decide_eq_true_eq, Bool.false_eq_true, z10], rfl⟩ hH dX3_whyNotUsed_15
