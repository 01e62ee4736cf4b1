set_option maxRecDepth 100000 in
set_option maxHeartbeats 4000000 in
theorem c_X6_in (l : Launch) (D : va_G) (k : Nat → ClassId) (a : Nat → Nat → Nat) (g : Mem) (x lo hi : Int32) : zI l yX6_in cX6_in 3 .boolean 0 0 D k a [.int (x), .int (lo), .int (hi)] (g) (fun r g' => r = (if ¬ x < lo ∧ ¬ hi < x then 1 else 0) ∧ g' = (g)) := by
  refine zI_of (own := RX6) (by decide +kernel) rfl (Nat.le_of_ble_eq_true rfl) ?_
  intro p e s m args below meth c X Q hret hH ls hl
  obtain ⟨hx, hb, hml, hown, hts⟩ := X.1
  have hl : lv_has ls 3 [(0, .int (x)), (1, .int (lo)), (2, .int (hi))] := hl
  have hH : zH D k a s (g) s.heap [] := hH
  refine lv_iload_n hx hb dX6_in_0 rfl (lv_at hl 0 rfl) ?_
  refine lv_iload_n hx hb dX6_in_1 rfl (lv_at hl 1 rfl) ?_
  refine i_icmp_lt (tgt := 14) hx hb dX6_in_2 (by decide) (fun c1 => ?_) (fun c1 => ?_)
  · refine lv_iconst (v := 0) hx hb dX6_in_14 (by decide) ?_
    exact hret _ _ _ _ _ _ rfl ⟨by simp only [c1, if_true, if_false, not_true_eq_false, not_false_eq_true, and_self, or_true, true_or, or_false, false_or, and_true, true_and, and_false, false_and, or_self, decide_eq_true_eq, Bool.false_eq_true, z10], rfl⟩ hH dX6_in_15
  · refine lv_iload_n hx hb dX6_in_5 rfl (lv_at hl 0 rfl) ?_
    refine lv_iload_n hx hb dX6_in_6 rfl (lv_at hl 2 rfl) ?_
    refine i_icmp_gt (tgt := 14) hx hb dX6_in_7 (by decide) (fun c2 => ?_) (fun c2 => ?_)
    · refine lv_iconst (v := 0) hx hb dX6_in_14 (by decide) ?_
      exact hret _ _ _ _ _ _ rfl ⟨by simp only [c1, c2, if_true, if_false, not_true_eq_false, not_false_eq_true, and_self, or_true, true_or, or_false, false_or, and_true, true_and, and_false, false_and, or_self, decide_eq_true_eq, Bool.false_eq_true, z10], rfl⟩ hH dX6_in_15
    · refine lv_iconst (v := 1) hx hb dX6_in_10 (by decide) ?_
      refine lv_goto (tgt := 15) hx hb dX6_in_11 (by decide) ?_
      exact hret _ _ _ _ _ _ rfl ⟨by simp only [c1, c2, if_true, if_false, not_true_eq_false, not_false_eq_true, and_self, or_true, true_or, or_false, false_or, and_true, true_and, and_false, false_and, or_self, decide_eq_true_eq, Bool.false_eq_true, z10], rfl⟩ hH dX6_in_15
set_option maxRecDepth 100000 in
set_option maxHeartbeats 4000000 in
theorem c_X6_isShape (l : Launch) (D : va_G) (k : Nat → ClassId) (a : Nat → Nat → Nat) (g : Mem) (x : Int32) : zI l yX6_isShape cX6_isShape 1 .boolean 1 22 D k a [.int (x)] (g) (fun r g' => r = (if okS x then 1 else 0) ∧ g' = (g)) := by
  refine zI_of (own := RX6) (by decide +kernel) rfl (Nat.le_of_ble_eq_true rfl) ?_
  intro p e s m args below meth c X Q hret hH ls hl
  obtain ⟨hx, hb, hml, hown, hts⟩ := X.1
  have hl : lv_has ls 1 [(0, .int (x))] := hl
  have hH : zH D k a s (g) s.heap [] := hH
  refine lv_iload_n hx hb dX6_isShape_0 rfl (lv_at hl 0 rfl) ?_
  refine lv_iconst (v := 0) hx hb dX6_isShape_1 (by decide) ?_
  refine lv_bipush (v := 11) hx hb dX6_isShape_2 (by decide) ?_
  refine z_callSi X hH (c_X6_in l D k a g x 0 11) k_X6_17 [] rfl rfl hl.1 (Nat.le_of_ble_eq_true rfl) ⟨Nat.le_of_ble_eq_true rfl, Nat.le_of_ble_eq_true rfl⟩ ⟨Nat.le_refl _, Nat.le_refl _⟩ dX6_isShape_4 (fun r1 g2 H locs h3 hH => ?_)
  rw [h3.2] at hH
  rw [h3.1]
  exact hret _ _ _ _ _ _ (z_nb _) ⟨by simp only [okS, z_12], rfl⟩ hH dX6_isShape_7
set_option maxRecDepth 100000 in
set_option maxHeartbeats 4000000 in
theorem c_X6_isNumber (l : Launch) (D : va_G) (k : Nat → ClassId) (a : Nat → Nat → Nat) (g : Mem) (z : Nat) (hz : z < 12) (x : Int32) : zI l yX6_isNumber cX6_isNumber 2 .boolean 1 22 D k a [.int (nI z), .int (x)] (g) (fun r g' => r = (if okN z x then 1 else 0) ∧ g' = (g)) := by
  refine zI_of (own := RX6) (by decide +kernel) rfl (Nat.le_of_ble_eq_true rfl) ?_
  intro p e s m args below meth c X Q hret hH ls hl
  obtain ⟨hx, hb, hml, hown, hts⟩ := X.1
  have hl : lv_has ls 2 [(0, .int (nI z)), (1, .int (x))] := hl
  have hH : zH D k a s (g) s.heap [] := hH
  refine lv_iload_n hx hb dX6_isNumber_0 rfl (lv_at hl 1 rfl) ?_
  refine lv_iload_n hx hb dX6_isNumber_1 rfl (lv_at hl 0 rfl) ?_
  refine lv_iconst (v := 3) hx hb dX6_isNumber_2 (by decide) ?_
  refine n_irem (A := z) (B := 3) hx hb (z % 3) rfl (by omega) (by omega) (by omega) dX6_isNumber_3 ?_
  refine n_if_ne (A := z % 3) (tgt := 11) hx hb (by omega) dX6_isNumber_4 (by decide) (fun c1 => ?_) (fun c1 => ?_)
  · refine lv_iconst (v := 1) hx hb dX6_isNumber_11 (by decide) ?_
    refine lv_sipush (v := 9999) hx hb dX6_isNumber_12 (by decide) ?_
    refine z_callSi X hH (c_X6_in l D k a g x 1 9999) k_X6_17 [] rfl rfl hl.1 (Nat.le_of_ble_eq_true rfl) ⟨Nat.le_of_ble_eq_true rfl, Nat.le_of_ble_eq_true rfl⟩ ⟨Nat.le_refl _, Nat.le_refl _⟩ dX6_isNumber_15 (fun r2 g3 H locs h4 hH => ?_)
    rw [h4.2] at hH
    rw [h4.1]
    exact hret _ _ _ _ _ _ (z_nb _) ⟨by simp only [okN, c1, if_true, if_false], rfl⟩ hH dX6_isNumber_18
  · refine lv_iconst (v := 0) hx hb dX6_isNumber_7 (by decide) ?_
    refine lv_goto (tgt := 12) hx hb dX6_isNumber_8 (by decide) ?_
    refine lv_sipush (v := 9999) hx hb dX6_isNumber_12 (by decide) ?_
    refine z_callSi X hH (c_X6_in l D k a g x 0 9999) k_X6_17 [] rfl rfl hl.1 (Nat.le_of_ble_eq_true rfl) ⟨Nat.le_of_ble_eq_true rfl, Nat.le_of_ble_eq_true rfl⟩ ⟨Nat.le_refl _, Nat.le_refl _⟩ dX6_isNumber_15 (fun r5 g6 H locs h7 hH => ?_)
    rw [h7.2] at hH
    rw [h7.1]
    exact hret _ _ _ _ _ _ (z_nb _) ⟨by simp only [okN, c1, if_true, if_false], rfl⟩ hH dX6_isNumber_18
set_option maxRecDepth 100000 in
set_option maxHeartbeats 4000000 in
theorem c_X6_planAt (l : Launch) (D : va_G) (k : Nat → ClassId) (a : Nat → Nat → Nat) (g : Mem) (B z : Nat) : zI l yX6_planAt cX6_planAt 2 .int 0 0 D k a [.int (nI (160 * B)), .int (nI z)] (g) (fun r g' => r = (nI (160 * B + 13 + 11 * z)) ∧ g' = (g)) := by
  refine zI_of (own := RX6) (by decide +kernel) rfl (Nat.le_of_ble_eq_true rfl) ?_
  intro p e s m args below meth c X Q hret hH ls hl
  obtain ⟨hx, hb, hml, hown, hts⟩ := X.1
  have hl : lv_has ls 2 [(0, .int (nI (160 * B))), (1, .int (nI z))] := hl
  have hH : zH D k a s (g) s.heap [] := hH
  refine lv_iload_n hx hb dX6_planAt_0 rfl (lv_at hl 0 rfl) ?_
  refine lv_bipush (v := 13) hx hb dX6_planAt_1 (by decide) ?_
  refine n_iadd (A := 160 * B) (B := 13) hx hb (160 * B + 13) (by omega) dX6_planAt_3 ?_
  refine lv_bipush (v := 11) hx hb dX6_planAt_4 (by decide) ?_
  refine lv_iload_n hx hb dX6_planAt_6 rfl (lv_at hl 1 rfl) ?_
  refine n_imul (A := 11) (B := z) hx hb (11 * z) (by omega) dX6_planAt_7 ?_
  refine n_iadd (A := 160 * B + 13) (B := 11 * z) hx hb (160 * B + 13 + (11 * z)) (by omega) dX6_planAt_8 ?_
  exact hret _ _ _ _ _ _ rfl ⟨rfl, rfl⟩ hH dX6_planAt_9
set_option maxRecDepth 100000 in
set_option maxHeartbeats 4000000 in
theorem c_X6_bits (l : Launch) (D : va_G) (k : Nat → ClassId) (a : Nat → Nat → Nat) (g : Mem) (x : Int32) : zI l yX6_bits cX6_bits 3 .int 0 0 D k a [.int (x)] (g) (fun r g' => r = (fBits x) ∧ g' = (g)) := by
  refine zI_of (own := RX6) (by decide +kernel) rfl (Nat.le_of_ble_eq_true rfl) ?_
  intro p e s m args below meth c X Q hret hH ls hl
  obtain ⟨hx, hb, hml, hown, hts⟩ := X.1
  have hl : lv_has ls 3 [(0, .int (x))] := hl
  have hH : zH D k a s (g) s.heap [] := hH
  refine lv_iconst (v := 0) hx hb dX6_bits_0 (by decide) ?_
  refine lv_istore_n (lv' := [(1, .int 0), (0, .int (x))]) hx hb dX6_bits_1 rfl hl (by decide) rfl (fun ls hl => ?_)
  refine lv_iload_n hx hb dX6_bits_2 rfl (lv_at hl 1 rfl) ?_
  refine lv_istore_n (lv' := [(2, .int (x)), (1, .int 0), (0, .int (x))]) hx hb dX6_bits_3 rfl hl (by decide) rfl (fun ls hl => ?_)
  by_cases h0 : 0 < x
  · obtain ⟨N, hN, rfl⟩ := zPos h0
    have hR : fBits (nI N) = nI (zBl N) := by rw [fBits, if_pos h0, nI_clamp hN]
    have hb31 : ∀ i, N / 2 ^ i < 2 ^ 31 := fun i => Nat.lt_of_le_of_lt (Nat.div_le_self _ _) hN
    have Lp : ∀ (jx i : Nat), i + jx = zBl N → ∀ (H : Heap) (locs : List Loc) (ls : Array Slot), zH D k a s (g) H locs → lv_has ls 3 [(2, .int (nI (N / 2 ^ i))), (1, .int (nI i)), (0, .int (nI N))] → W p l e (zRoom 0 0) s m args below meth c H locs 0 0 Q (F0 m 4 ls []) := by
      intro jx
      induction jx with
      | zero =>
        intro i hix H locs ls hH hl
        have hi : i = zBl N := by omega
        refine lv_iload_n hx hb dX6_bits_4 rfl (lv_at hl 0 rfl) ?_
        refine n_if_le (A := N / 2 ^ i) (tgt := 18) hx hb (hb31 i) dX6_bits_5 (by decide) (fun c1 => ?_) (fun q => absurd (zBl_ge (Nat.le_of_eq hi.symm)) (Nat.ne_of_gt q))
        refine lv_iload_n hx hb dX6_bits_18 rfl (lv_at hl 1 rfl) ?_
        exact hret _ _ _ _ _ _ rfl ⟨by rw [hR, hi], rfl⟩ hH dX6_bits_19
      | succ jx ih =>
        intro i hix H locs ls hH hl
        have hi : i < zBl N := by omega
        refine lv_iload_n hx hb dX6_bits_4 rfl (lv_at hl 0 rfl) ?_
        refine n_if_le (A := N / 2 ^ i) (tgt := 18) hx hb (hb31 i) dX6_bits_5 (by decide) (fun q => absurd q (Nat.ne_of_gt ((zBl_lt N i).mp hi))) (fun c2 => ?_)
        refine lv_iinc (v := nI (i + 1)) (lv' := [(1, .int (nI (i + 1))), (2, .int (nI (N / 2 ^ i))), (0, .int (nI N))]) hx hb dX6_bits_8 hl (k := 1) rfl (z_inc1 _) (by decide) rfl (fun ls hl => ?_)
        refine lv_iload_n hx hb dX6_bits_11 rfl (lv_at hl 1 rfl) ?_
        refine lv_iconst (v := 2) hx hb dX6_bits_12 (by decide) ?_
        refine n_idiv (A := N / 2 ^ i) (B := 2) hx hb ((N / 2 ^ i) / 2) rfl (hb31 i) (by omega) (by omega) dX6_bits_13 ?_
        refine lv_istore_n (lv' := [(2, .int (nI ((N / 2 ^ i) / 2))), (1, .int (nI (i + 1))), (0, .int (nI N))]) hx hb dX6_bits_14 rfl hl (by decide) rfl (fun ls hl => ?_)
        refine lv_goto (tgt := 4) hx hb dX6_bits_15 (by decide) ?_
        rw [show N / 2 ^ i / 2 = N / 2 ^ (i + 1) by rw [Nat.div_div_eq_div_mul, Nat.pow_succ]] at hl
        exact ih (i + 1) (by omega) _ _ _ hH (lv_sub hl [0, 1, 2] rfl)
    exact Lp (zBl N) 0 (by omega) _ _ _ hH (by rw [show N / 2 ^ 0 = N by rw [Nat.pow_zero, Nat.div_one]]; exact lv_sub hl [0, 1, 2] rfl)
  · have hR : fBits x = 0 := by rw [fBits, if_neg h0]
    refine lv_iload_n hx hb dX6_bits_4 rfl (lv_at hl 0 rfl) ?_
    refine i_if_le (tgt := 18) hx hb dX6_bits_5 (by decide) (fun c3 => ?_) (fun q => absurd q h0)
    refine lv_iload_n hx hb dX6_bits_18 rfl (lv_at hl 1 rfl) ?_
    exact hret _ _ _ _ _ _ rfl ⟨by rw [hR], rfl⟩ hH dX6_bits_19
set_option maxRecDepth 100000 in
set_option maxHeartbeats 4000000 in
theorem c_X6_costs (l : Launch) (D : va_G) (k : Nat → ClassId) (a : Nat → Nat → Nat) (g : Mem) (B : Nat) (hB : B < 7) (v u : V) (hk : zKy v) (z : Nat) (hz : z < 12) (w n : Int32) : zI l yX6_costs cX6_costs 10 .int 1 22 D k a [.ref (a 6 8), .int (nI (160 * B)), .int (nI z), .int (w), .int (n)] (zM g B v u) (fun r g' => r = (fCost v z w n) ∧ g' = (zM g B v u)) := by
  refine zI_of (own := RX6) (by decide +kernel) rfl (Nat.le_of_ble_eq_true rfl) ?_
  intro p e s m args below meth c X Q hret hH ls hl
  obtain ⟨hx, hb, hml, hown, hts⟩ := X.1
  have hl : lv_has ls 10 [(0, .ref (a 6 8)), (1, .int (nI (160 * B))), (2, .int (nI z)), (3, .int (w)), (4, .int (n))] := hl
  have hH : zH D k a s (zM g B v u) s.heap [] := hH
  refine lv_aload_n hx hb dX6_costs_0 rfl (lv_at hl 0 rfl) ?_
  refine gf_X6_s X hH q_576 dX6_costs_1 ?_
  refine lv_iload_n hx hb dX6_costs_4 rfl (lv_at hl 1 rfl) ?_
  refine lv_iload_n hx hb dX6_costs_5 rfl (lv_at hl 2 rfl) ?_
  refine lv_iconst (v := 3) hx hb dX6_costs_6 (by decide) ?_
  refine n_idiv (A := z) (B := 3) hx hb (z / 3) rfl (by omega) (by omega) (by omega) dX6_costs_7 ?_
  refine n_iadd (A := 160 * B) (B := z / 3) hx hb (160 * B + (z / 3)) (by omega) dX6_costs_8 ?_
  refine am_s X (by omega) hH ((z / 3)) (by omega) (by omega) dX6_costs_9 ?_
  refine lv_istore (lv' := [(5, .int (v ((z / 3)))), (0, .ref (a 6 8)), (1, .int (nI (160 * B))), (2, .int (nI z)), (3, .int (w)), (4, .int (n))]) hx hb dX6_costs_10 hl (by decide) rfl (fun ls hl => ?_)
  refine lv_aload_n hx hb dX6_costs_12 rfl (lv_at hl 1 rfl) ?_
  refine gf_X6_s X hH q_576 dX6_costs_13 ?_
  refine lv_iload_n hx hb dX6_costs_16 rfl (lv_at hl 2 rfl) ?_
  refine lv_iconst (v := 4) hx hb dX6_costs_17 (by decide) ?_
  refine n_iadd (A := 160 * B) (B := 4) hx hb (160 * B + 4) (by omega) dX6_costs_18 ?_
  refine lv_iload_n hx hb dX6_costs_19 rfl (lv_at hl 3 rfl) ?_
  refine lv_iconst (v := 3) hx hb dX6_costs_20 (by decide) ?_
  refine n_idiv (A := z) (B := 3) hx hb (z / 3) rfl (by omega) (by omega) (by omega) dX6_costs_21 ?_
  refine n_iadd (A := 160 * B + 4) (B := z / 3) hx hb (160 * B + 4 + (z / 3)) (by omega) dX6_costs_22 ?_
  refine am_s X (by omega) hH (4 + (z / 3)) (by omega) (by omega) dX6_costs_23 ?_
  refine lv_istore (lv' := [(6, .int (v (4 + (z / 3)))), (5, .int (v ((z / 3)))), (0, .ref (a 6 8)), (1, .int (nI (160 * B))), (2, .int (nI z)), (3, .int (w)), (4, .int (n))]) hx hb dX6_costs_24 hl (by decide) rfl (fun ls hl => ?_)
  refine lv_iload_n hx hb dX6_costs_26 rfl (lv_at hl 4 rfl) ?_
  refine lv_iconst (v := 3) hx hb dX6_costs_27 (by decide) ?_
  refine n_irem (A := z) (B := 3) hx hb (z % 3) rfl (by omega) (by omega) (by omega) dX6_costs_28 ?_
  refine lv_istore (lv' := [(7, .int (nI (z % 3))), (6, .int (v (4 + (z / 3)))), (5, .int (v ((z / 3)))), (0, .ref (a 6 8)), (1, .int (nI (160 * B))), (2, .int (nI z)), (3, .int (w)), (4, .int (n))]) hx hb dX6_costs_29 hl (by decide) rfl (fun ls hl => ?_)
  have J80 : ∀ (H : Heap) (locs : List Loc) (ls : Array Slot), zH D k a s (zM g B v u) H locs → lv_has ls 10 [(8, .int (fMet v z n)), (7, .int (nI (z % 3))), (6, .int (v (4 + (z / 3)))), (5, .int (v ((z / 3)))), (0, .ref (a 6 8)), (1, .int (nI (160 * B))), (2, .int (nI z)), (3, .int (w)), (4, .int (n))] → W p l e (zRoom 1 22) s m args below meth c H locs 0 0 Q (F0 m 80 ls []) := by
    intro H locs ls hH hl
    have J163 : ∀ (H : Heap) (locs : List Loc) (ls : Array Slot), zH D k a s (zM g B v u) H locs → lv_has ls 10 [(9, .int (fRaw v z w n)), (8, .int (fMet v z n)), (7, .int (nI (z % 3))), (6, .int (v (4 + (z / 3)))), (5, .int (v ((z / 3)))), (0, .ref (a 6 8)), (1, .int (nI (160 * B))), (2, .int (nI z)), (3, .int (w)), (4, .int (n))] → W p l e (zRoom 1 22) s m args below meth c H locs 0 0 Q (F0 m 163 ls []) := by
      intro H locs ls hH hl
      refine lv_iload hx hb dX6_costs_163 (lv_at hl 0 rfl) ?_
      refine lv_ldc hx hb hown (hts _ q_672) dX6_costs_165 ?_
      refine i_icmp_ge (tgt := 175) hx hb dX6_costs_167 (by decide) (fun c1 => ?_) (fun c1 => ?_)
      · refine lv_ldc hx hb hown (hts _ q_672) dX6_costs_175 ?_
        exact hret _ _ _ _ _ _ rfl ⟨by rw [fCost, ← z_minc, if_neg c1], rfl⟩ hH dX6_costs_177
      · refine lv_iload hx hb dX6_costs_170 (lv_at hl 0 rfl) ?_
        refine lv_goto (tgt := 177) hx hb dX6_costs_172 (by decide) ?_
        exact hret _ _ _ _ _ _ rfl ⟨by rw [fCost, ← z_minc, if_pos c1], rfl⟩ hH dX6_costs_177
    refine lv_iload_n hx hb dX6_costs_80 rfl (lv_at hl 7 rfl) ?_
    refine lv_if_ne (tgt := 108) hx hb dX6_costs_81 (by decide) (fun c2 => ?_) (fun c2 => ?_)
    · refine lv_iload_n hx hb dX6_costs_108 rfl (lv_at hl 7 rfl) ?_
      refine lv_iconst (v := 1) hx hb dX6_costs_109 (by decide) ?_
      refine lv_icmp_ne (tgt := 137) hx hb dX6_costs_110 (by decide) (fun c3 => ?_) (fun c3 => ?_)
      · refine lv_iload hx hb dX6_costs_137 (lv_at hl 1 rfl) ?_
        refine lv_iconst (v := 2) hx hb dX6_costs_139 (by decide) ?_
        refine n_icmp_ne (A := z % 3) (B := 2) (tgt := 157) hx hb (by omega) (by omega) dX6_costs_140 (by decide) (fun c4 => ?_) (fun c4 => ?_)
        · refine lv_iconst (v := 2) hx hb dX6_costs_157 (by decide) ?_
          refine lv_iload hx hb dX6_costs_158 (lv_at hl 3 rfl) ?_
          refine lv_imul hx hb dX6_costs_160 ?_
          refine lv_istore (lv' := [(9, .int (2 * (v ((z / 3))))), (8, .int (fMet v z n)), (7, .int (nI (z % 3))), (6, .int (v (4 + (z / 3)))), (5, .int (v ((z / 3)))), (0, .ref (a 6 8)), (1, .int (nI (160 * B))), (2, .int (nI z)), (3, .int (w)), (4, .int (n))]) hx hb dX6_costs_161 hl (by decide) rfl (fun ls hl => ?_)
          refine J163 _ _ _ ?_ ?_
          · exact hH
          · rw [show (fRaw v z w n : Int32) = 2 * (v ((z / 3))) from by simp only [fRaw, c2, c3, c4, if_true, if_false, z10, Int32.add_zero, Int32.mul_one, Int32.one_mul, Int32.mul_comm]]; exact lv_sub hl [0, 1, 2, 3, 4, 5, 6, 7, 8, 9] rfl
        · refine lv_iload hx hb dX6_costs_143 (lv_at hl 3 rfl) ?_
          refine lv_iload hx hb dX6_costs_145 (lv_at hl 8 rfl) ?_
          refine lv_iload hx hb dX6_costs_147 (lv_at hl 3 rfl) ?_
          refine z_callSi X hH (c_X6_bits l D k a (zM g B v u) (v ((z / 3)))) k_X6_29 [.int (n), .int (v ((z / 3)))] rfl rfl hl.1 (Nat.le_of_ble_eq_true rfl) ⟨Nat.le_of_ble_eq_true rfl, Nat.le_of_ble_eq_true rfl⟩ ⟨Nat.le_refl _, Nat.le_refl _⟩ dX6_costs_149 (fun r5 g6 H locs h7 hH => ?_)
          rw [h7.2] at hH
          rw [h7.1]
          refine lv_imul hx hb dX6_costs_152 ?_
          refine lv_iadd hx hb dX6_costs_153 ?_
          refine lv_goto (tgt := 161) hx hb dX6_costs_154 (by decide) ?_
          refine lv_istore (lv' := [(9, .int ((v ((z / 3))) + (n * (fBits (v ((z / 3))))))), (8, .int (fMet v z n)), (7, .int (nI (z % 3))), (6, .int (v (4 + (z / 3)))), (5, .int (v ((z / 3)))), (0, .ref (a 6 8)), (1, .int (nI (160 * B))), (2, .int (nI z)), (3, .int (w)), (4, .int (n))]) hx hb dX6_costs_161 hl (by decide) rfl (fun ls hl => ?_)
          refine J163 _ _ _ ?_ ?_
          · exact hH
          · rw [show (fRaw v z w n : Int32) = (v ((z / 3))) + (n * (fBits (v ((z / 3))))) from by simp only [fRaw, c2, c3, c4, if_true, if_false, z10, Int32.add_zero, Int32.mul_one, Int32.one_mul, Int32.mul_comm]]; exact lv_sub hl [0, 1, 2, 3, 4, 5, 6, 7, 8, 9] rfl
      · refine lv_iload hx hb dX6_costs_113 (lv_at hl 3 rfl) ?_
        refine z_callSi X hH (c_X6_bits l D k a (zM g B v u) (v ((z / 3)))) k_X6_29 [] rfl rfl hl.1 (Nat.le_of_ble_eq_true rfl) ⟨Nat.le_of_ble_eq_true rfl, Nat.le_of_ble_eq_true rfl⟩ ⟨Nat.le_refl _, Nat.le_refl _⟩ dX6_costs_115 (fun r8 g9 H locs h10 hH => ?_)
        rw [h10.2] at hH
        rw [h10.1]
        refine lv_iload hx hb dX6_costs_118 (lv_at hl 1 rfl) ?_
        refine lv_iconst (v := 2) hx hb dX6_costs_120 (by decide) ?_
        refine n_icmp_ne (A := z % 3) (B := 2) (tgt := 129) hx hb (by omega) (by omega) dX6_costs_121 (by decide) (fun c11 => ?_) (fun c11 => ?_)
        · refine lv_iconst (v := 3) hx hb dX6_costs_129 (by decide) ?_
          refine lv_iload hx hb dX6_costs_130 (lv_at hl 0 rfl) ?_
          refine lv_imul hx hb dX6_costs_132 ?_
          refine lv_iadd hx hb dX6_costs_133 ?_
          refine lv_goto (tgt := 161) hx hb dX6_costs_134 (by decide) ?_
          refine lv_istore (lv' := [(9, .int ((fBits (v ((z / 3)))) + (3 * (fMet v z n)))), (8, .int (fMet v z n)), (7, .int (nI (z % 3))), (6, .int (v (4 + (z / 3)))), (5, .int (v ((z / 3)))), (0, .ref (a 6 8)), (1, .int (nI (160 * B))), (2, .int (nI z)), (3, .int (w)), (4, .int (n))]) hx hb dX6_costs_161 hl (by decide) rfl (fun ls hl => ?_)
          refine J163 _ _ _ ?_ ?_
          · exact hH
          · rw [show (fRaw v z w n : Int32) = (fBits (v ((z / 3)))) + (3 * (fMet v z n)) from by simp only [fRaw, c2, c3, c11, if_true, if_false, z10, Int32.add_zero, Int32.mul_one, Int32.one_mul, Int32.mul_comm]]; exact lv_sub hl [0, 1, 2, 3, 4, 5, 6, 7, 8, 9] rfl
        · refine lv_iload hx hb dX6_costs_124 (lv_at hl 0 rfl) ?_
          refine lv_goto (tgt := 133) hx hb dX6_costs_126 (by decide) ?_
          refine lv_iadd hx hb dX6_costs_133 ?_
          refine lv_goto (tgt := 161) hx hb dX6_costs_134 (by decide) ?_
          refine lv_istore (lv' := [(9, .int ((fBits (v ((z / 3)))) + (fMet v z n))), (8, .int (fMet v z n)), (7, .int (nI (z % 3))), (6, .int (v (4 + (z / 3)))), (5, .int (v ((z / 3)))), (0, .ref (a 6 8)), (1, .int (nI (160 * B))), (2, .int (nI z)), (3, .int (w)), (4, .int (n))]) hx hb dX6_costs_161 hl (by decide) rfl (fun ls hl => ?_)
          refine J163 _ _ _ ?_ ?_
          · exact hH
          · rw [show (fRaw v z w n : Int32) = (fBits (v ((z / 3)))) + (fMet v z n) from by simp only [fRaw, c2, c3, c11, if_true, if_false, z10, Int32.add_zero, Int32.mul_one, Int32.one_mul, Int32.mul_comm]]; exact lv_sub hl [0, 1, 2, 3, 4, 5, 6, 7, 8, 9] rfl
    · refine lv_iload hx hb dX6_costs_84 (lv_at hl 3 rfl) ?_
      refine lv_iload hx hb dX6_costs_86 (lv_at hl 1 rfl) ?_
      refine lv_iconst (v := 2) hx hb dX6_costs_88 (by decide) ?_
      refine n_icmp_ne (A := z % 3) (B := 2) (tgt := 103) hx hb (by omega) (by omega) dX6_costs_89 (by decide) (fun c12 => ?_) (fun c12 => ?_)
      · refine lv_iconst (v := 0) hx hb dX6_costs_103 (by decide) ?_
        refine lv_iadd hx hb dX6_costs_104 ?_
        refine lv_goto (tgt := 161) hx hb dX6_costs_105 (by decide) ?_
        refine lv_istore (lv' := [(9, .int ((v ((z / 3))) + 0)), (8, .int (fMet v z n)), (7, .int (nI (z % 3))), (6, .int (v (4 + (z / 3)))), (5, .int (v ((z / 3)))), (0, .ref (a 6 8)), (1, .int (nI (160 * B))), (2, .int (nI z)), (3, .int (w)), (4, .int (n))]) hx hb dX6_costs_161 hl (by decide) rfl (fun ls hl => ?_)
        refine J163 _ _ _ ?_ ?_
        · exact hH
        · rw [show (fRaw v z w n : Int32) = (v ((z / 3))) + 0 from by simp only [fRaw, c2, c12, if_true, if_false, z10, Int32.add_zero, Int32.mul_one, Int32.one_mul, Int32.mul_comm]]; exact lv_sub hl [0, 1, 2, 3, 4, 5, 6, 7, 8, 9] rfl
      · refine lv_iload hx hb dX6_costs_92 (lv_at hl 8 rfl) ?_
        refine lv_iload hx hb dX6_costs_94 (lv_at hl 8 rfl) ?_
        refine z_callSi X hH (c_X6_bits l D k a (zM g B v u) n) k_X6_29 [.int (n), .int (v ((z / 3)))] rfl rfl hl.1 (Nat.le_of_ble_eq_true rfl) ⟨Nat.le_of_ble_eq_true rfl, Nat.le_of_ble_eq_true rfl⟩ ⟨Nat.le_refl _, Nat.le_refl _⟩ dX6_costs_96 (fun r13 g14 H locs h15 hH => ?_)
        rw [h15.2] at hH
        rw [h15.1]
        refine lv_imul hx hb dX6_costs_99 ?_
        refine lv_goto (tgt := 104) hx hb dX6_costs_100 (by decide) ?_
        refine lv_iadd hx hb dX6_costs_104 ?_
        refine lv_goto (tgt := 161) hx hb dX6_costs_105 (by decide) ?_
        refine lv_istore (lv' := [(9, .int ((v ((z / 3))) + (n * (fBits n)))), (8, .int (fMet v z n)), (7, .int (nI (z % 3))), (6, .int (v (4 + (z / 3)))), (5, .int (v ((z / 3)))), (0, .ref (a 6 8)), (1, .int (nI (160 * B))), (2, .int (nI z)), (3, .int (w)), (4, .int (n))]) hx hb dX6_costs_161 hl (by decide) rfl (fun ls hl => ?_)
        refine J163 _ _ _ ?_ ?_
        · exact hH
        · rw [show (fRaw v z w n : Int32) = (v ((z / 3))) + (n * (fBits n)) from by simp only [fRaw, c2, c12, if_true, if_false, z10, Int32.add_zero, Int32.mul_one, Int32.one_mul, Int32.mul_comm]]; exact lv_sub hl [0, 1, 2, 3, 4, 5, 6, 7, 8, 9] rfl
  refine lv_iload hx hb dX6_costs_31 (lv_at hl 0 rfl) ?_
  refine lv_iconst (v := 1) hx hb dX6_costs_33 (by decide) ?_
  refine n_icmp_eq (A := z % 3) (B := 1) (tgt := 42) hx hb (by omega) (by omega) dX6_costs_34 (by decide) (fun c16 => ?_) (fun c16 => ?_)
  · refine lv_iload hx hb dX6_costs_42 (lv_at hl 2 rfl) ?_
    refine lv_iload hx hb dX6_costs_44 (lv_at hl 7 rfl) ?_
    refine lv_imul hx hb dX6_costs_46 ?_
    refine lv_iload hx hb dX6_costs_47 (lv_at hl 1 rfl) ?_
    refine lv_iadd hx hb dX6_costs_49 ?_
    refine lv_iconst (v := 1) hx hb dX6_costs_50 (by decide) ?_
    refine lv_isub hx hb dX6_costs_51 ?_
    refine lv_iload hx hb dX6_costs_52 (lv_at hl 1 rfl) ?_
    refine lv_idiv hx hb dX6_costs_54 (zn0 (hk (z / 3) (by omega))) ?_
    refine lv_iload hx hb dX6_costs_55 (lv_at hl 2 rfl) ?_
    refine i_icmp_ge (tgt := 76) hx hb dX6_costs_57 (by decide) (fun c17 => ?_) (fun c17 => ?_)
    · refine lv_iload hx hb dX6_costs_76 (lv_at hl 2 rfl) ?_
      refine lv_istore (lv' := [(8, .int (v ((z / 3)))), (7, .int (nI (z % 3))), (6, .int (v (4 + (z / 3)))), (5, .int (v ((z / 3)))), (0, .ref (a 6 8)), (1, .int (nI (160 * B))), (2, .int (nI z)), (3, .int (w)), (4, .int (n))]) hx hb dX6_costs_78 hl (by decide) rfl (fun ls hl => ?_)
      refine J80 _ _ _ ?_ ?_
      · exact hH
      · rw [show (fMet v z n : Int32) = v ((z / 3)) from by rw [fMet, if_pos c16, ← z_minc, fQuo, if_neg (hk (z / 3) (by omega)), if_neg c17]]; exact lv_sub hl [0, 1, 2, 3, 4, 5, 6, 7, 8] rfl
    · refine lv_iload hx hb dX6_costs_60 (lv_at hl 2 rfl) ?_
      refine lv_iload hx hb dX6_costs_62 (lv_at hl 7 rfl) ?_
      refine lv_imul hx hb dX6_costs_64 ?_
      refine lv_iload hx hb dX6_costs_65 (lv_at hl 1 rfl) ?_
      refine lv_iadd hx hb dX6_costs_67 ?_
      refine lv_iconst (v := 1) hx hb dX6_costs_68 (by decide) ?_
      refine lv_isub hx hb dX6_costs_69 ?_
      refine lv_iload hx hb dX6_costs_70 (lv_at hl 1 rfl) ?_
      refine lv_idiv hx hb dX6_costs_72 (zn0 (hk (z / 3) (by omega))) ?_
      refine lv_goto (tgt := 78) hx hb dX6_costs_73 (by decide) ?_
      refine lv_istore (lv' := [(8, .int (((((v ((z / 3))) * n) + (v (4 + (z / 3)))) - 1) / (v (4 + (z / 3))))), (7, .int (nI (z % 3))), (6, .int (v (4 + (z / 3)))), (5, .int (v ((z / 3)))), (0, .ref (a 6 8)), (1, .int (nI (160 * B))), (2, .int (nI z)), (3, .int (w)), (4, .int (n))]) hx hb dX6_costs_78 hl (by decide) rfl (fun ls hl => ?_)
      refine J80 _ _ _ ?_ ?_
      · exact hH
      · rw [show (fMet v z n : Int32) = ((((v ((z / 3))) * n) + (v (4 + (z / 3)))) - 1) / (v (4 + (z / 3))) from by rw [fMet, if_pos c16, ← z_minc, fQuo, if_neg (hk (z / 3) (by omega)), if_pos c17]]; exact lv_sub hl [0, 1, 2, 3, 4, 5, 6, 7, 8] rfl
  · refine lv_iload hx hb dX6_costs_37 (lv_at hl 7 rfl) ?_
    refine lv_goto (tgt := 78) hx hb dX6_costs_39 (by decide) ?_
    refine lv_istore (lv' := [(8, .int (n)), (7, .int (nI (z % 3))), (6, .int (v (4 + (z / 3)))), (5, .int (v ((z / 3)))), (0, .ref (a 6 8)), (1, .int (nI (160 * B))), (2, .int (nI z)), (3, .int (w)), (4, .int (n))]) hx hb dX6_costs_78 hl (by decide) rfl (fun ls hl => ?_)
    refine J80 _ _ _ ?_ ?_
    · exact hH
    · rw [show (fMet v z n : Int32) = n from by rw [fMet, if_neg c16]]; exact lv_sub hl [0, 1, 2, 3, 4, 5, 6, 7, 8] rfl
set_option maxRecDepth 100000 in
set_option maxHeartbeats 4000000 in
theorem c_X6_cheapestOf (l : Launch) (D : va_G) (k : Nat → ClassId) (a : Nat → Nat → Nat) (g : Mem) (B : Nat) (hB : B < 7) (v u : V) (hk : zKy v) (z : Nat) (hz : z < 12) (n : Int32) : zI l yX6_cheapestOf cX6_cheapestOf 6 .int 2 51 D k a [.ref (a 6 8), .int (nI (160 * B)), .int (nI z), .int (n)] (zM g B v u) (fun r g' => r = (fBest v z n) ∧ g' = (zM g B v u)) := by
  refine zI_of (own := RX6) (by decide +kernel) rfl (Nat.le_of_ble_eq_true rfl) ?_
  intro p e s m args below meth c X Q hret hH ls hl
  obtain ⟨hx, hb, hml, hown, hts⟩ := X.1
  have hl : lv_has ls 6 [(0, .ref (a 6 8)), (1, .int (nI (160 * B))), (2, .int (nI z)), (3, .int (n))] := hl
  have hH : zH D k a s (zM g B v u) s.heap [] := hH
  refine lv_iconst (v := 0) hx hb dX6_cheapestOf_0 (by decide) ?_
  refine lv_istore (lv' := [(4, .int 0), (0, .ref (a 6 8)), (1, .int (nI (160 * B))), (2, .int (nI z)), (3, .int (n))]) hx hb dX6_cheapestOf_1 hl (by decide) rfl (fun ls hl => ?_)
  refine lv_iconst (v := 1) hx hb dX6_cheapestOf_3 (by decide) ?_
  refine lv_istore (lv' := [(5, .int 1), (4, .int 0), (0, .ref (a 6 8)), (1, .int (nI (160 * B))), (2, .int (nI z)), (3, .int (n))]) hx hb dX6_cheapestOf_4 hl (by decide) rfl (fun ls hl => ?_)
  refine lv_iload hx hb dX6_cheapestOf_6 (lv_at hl 0 rfl) ?_
  refine lv_iconst (v := 3) hx hb dX6_cheapestOf_8 (by decide) ?_
  refine lv_icmp_ge (tgt := 48) hx hb dX6_cheapestOf_9 (by decide) (fun q => absurd q (by decide)) (fun _ => ?_)
  refine lv_aload_n hx hb dX6_cheapestOf_12 rfl (lv_at hl 2 rfl) ?_
  refine lv_iload_n hx hb dX6_cheapestOf_13 rfl (lv_at hl 3 rfl) ?_
  refine lv_iload_n hx hb dX6_cheapestOf_14 rfl (lv_at hl 4 rfl) ?_
  refine lv_iload hx hb dX6_cheapestOf_15 (lv_at hl 0 rfl) ?_
  refine lv_iload_n hx hb dX6_cheapestOf_17 rfl (lv_at hl 5 rfl) ?_
  refine z_callVi X hH (c_X6_costs l D k a g B (by omega) v u hk (z) (by omega) 1 n) k_X6_34 (rv_X6 X hH) [] rfl rfl hl.1 (Nat.le_of_ble_eq_true rfl) ⟨Nat.le_of_ble_eq_true rfl, Nat.le_of_ble_eq_true rfl⟩ ⟨Nat.le_refl _, Nat.le_refl _⟩ dX6_cheapestOf_18 (fun r1 g2 H locs h3 hH => ?_)
  rw [h3.2] at hH
  rw [h3.1]
  refine lv_aload_n hx hb dX6_cheapestOf_21 rfl (lv_at hl 2 rfl) ?_
  refine lv_iload_n hx hb dX6_cheapestOf_22 rfl (lv_at hl 3 rfl) ?_
  refine lv_iload_n hx hb dX6_cheapestOf_23 rfl (lv_at hl 4 rfl) ?_
  refine lv_iload hx hb dX6_cheapestOf_24 (lv_at hl 1 rfl) ?_
  refine lv_iload_n hx hb dX6_cheapestOf_26 rfl (lv_at hl 5 rfl) ?_
  refine z_callVi X hH (c_X6_costs l D k a g B (by omega) v u hk (z) (by omega) 0 n) k_X6_34 (rv_X6 X hH) [.int (fCost v z 1 n)] rfl rfl hl.1 (Nat.le_of_ble_eq_true rfl) ⟨Nat.le_of_ble_eq_true rfl, Nat.le_of_ble_eq_true rfl⟩ ⟨Nat.le_refl _, Nat.le_refl _⟩ dX6_cheapestOf_27 (fun r4 g5 H locs h6 hH => ?_)
  rw [h6.2] at hH
  rw [h6.1]
  refine i_icmp_ge (tgt := 38) hx hb dX6_cheapestOf_30 (by decide) (fun c7 => ?_) (fun c7 => ?_)
  · refine lv_iload hx hb dX6_cheapestOf_38 (lv_at hl 1 rfl) ?_
    refine lv_istore (lv' := [(4, .int 0), (5, .int 1), (0, .ref (a 6 8)), (1, .int (nI (160 * B))), (2, .int (nI z)), (3, .int (n))]) hx hb dX6_cheapestOf_40 hl (by decide) rfl (fun ls hl => ?_)
    refine lv_iinc (v := 2) (lv' := [(5, .int 2), (4, .int 0), (0, .ref (a 6 8)), (1, .int (nI (160 * B))), (2, .int (nI z)), (3, .int (n))]) hx hb dX6_cheapestOf_42 hl (k := 1) rfl (by decide) (by decide) rfl (fun ls hl => ?_)
    refine lv_goto (tgt := 6) hx hb dX6_cheapestOf_45 (by decide) ?_
    refine lv_iload hx hb dX6_cheapestOf_6 (lv_at hl 0 rfl) ?_
    refine lv_iconst (v := 3) hx hb dX6_cheapestOf_8 (by decide) ?_
    refine lv_icmp_ge (tgt := 48) hx hb dX6_cheapestOf_9 (by decide) (fun q => absurd q (by decide)) (fun _ => ?_)
    refine lv_aload_n hx hb dX6_cheapestOf_12 rfl (lv_at hl 2 rfl) ?_
    refine lv_iload_n hx hb dX6_cheapestOf_13 rfl (lv_at hl 3 rfl) ?_
    refine lv_iload_n hx hb dX6_cheapestOf_14 rfl (lv_at hl 4 rfl) ?_
    refine lv_iload hx hb dX6_cheapestOf_15 (lv_at hl 0 rfl) ?_
    refine lv_iload_n hx hb dX6_cheapestOf_17 rfl (lv_at hl 5 rfl) ?_
    refine z_callVi X hH (c_X6_costs l D k a g B (by omega) v u hk (z) (by omega) 2 n) k_X6_34 (rv_X6 X hH) [] rfl rfl hl.1 (Nat.le_of_ble_eq_true rfl) ⟨Nat.le_of_ble_eq_true rfl, Nat.le_of_ble_eq_true rfl⟩ ⟨Nat.le_refl _, Nat.le_refl _⟩ dX6_cheapestOf_18 (fun r8 g9 H locs h10 hH => ?_)
    rw [h10.2] at hH
    rw [h10.1]
    refine lv_aload_n hx hb dX6_cheapestOf_21 rfl (lv_at hl 2 rfl) ?_
    refine lv_iload_n hx hb dX6_cheapestOf_22 rfl (lv_at hl 3 rfl) ?_
    refine lv_iload_n hx hb dX6_cheapestOf_23 rfl (lv_at hl 4 rfl) ?_
    refine lv_iload hx hb dX6_cheapestOf_24 (lv_at hl 1 rfl) ?_
    refine lv_iload_n hx hb dX6_cheapestOf_26 rfl (lv_at hl 5 rfl) ?_
    refine z_callVi X hH (c_X6_costs l D k a g B (by omega) v u hk (z) (by omega) 0 n) k_X6_34 (rv_X6 X hH) [.int (fCost v z 2 n)] rfl rfl hl.1 (Nat.le_of_ble_eq_true rfl) ⟨Nat.le_of_ble_eq_true rfl, Nat.le_of_ble_eq_true rfl⟩ ⟨Nat.le_refl _, Nat.le_refl _⟩ dX6_cheapestOf_27 (fun r11 g12 H locs h13 hH => ?_)
    rw [h13.2] at hH
    rw [h13.1]
    refine i_icmp_ge (tgt := 38) hx hb dX6_cheapestOf_30 (by decide) (fun c14 => ?_) (fun c14 => ?_)
    · refine lv_iload hx hb dX6_cheapestOf_38 (lv_at hl 1 rfl) ?_
      refine lv_istore (lv' := [(4, .int 0), (5, .int 2), (0, .ref (a 6 8)), (1, .int (nI (160 * B))), (2, .int (nI z)), (3, .int (n))]) hx hb dX6_cheapestOf_40 hl (by decide) rfl (fun ls hl => ?_)
      refine lv_iinc (v := 3) (lv' := [(5, .int 3), (4, .int 0), (0, .ref (a 6 8)), (1, .int (nI (160 * B))), (2, .int (nI z)), (3, .int (n))]) hx hb dX6_cheapestOf_42 hl (k := 1) rfl (by decide) (by decide) rfl (fun ls hl => ?_)
      refine lv_goto (tgt := 6) hx hb dX6_cheapestOf_45 (by decide) ?_
      refine lv_iload hx hb dX6_cheapestOf_6 (lv_at hl 0 rfl) ?_
      refine lv_iconst (v := 3) hx hb dX6_cheapestOf_8 (by decide) ?_
      refine lv_icmp_ge (tgt := 48) hx hb dX6_cheapestOf_9 (by decide) (fun _ => ?_) (fun q => absurd (by decide) q)
      refine lv_iload hx hb dX6_cheapestOf_48 (lv_at hl 1 rfl) ?_
      exact hret _ _ _ _ _ _ rfl ⟨by simp only [fBest, fB1, c7, c14, if_true, if_false], rfl⟩ hH dX6_cheapestOf_50
    · refine lv_iload hx hb dX6_cheapestOf_33 (lv_at hl 0 rfl) ?_
      refine lv_goto (tgt := 40) hx hb dX6_cheapestOf_35 (by decide) ?_
      refine lv_istore (lv' := [(4, .int 2), (5, .int 2), (0, .ref (a 6 8)), (1, .int (nI (160 * B))), (2, .int (nI z)), (3, .int (n))]) hx hb dX6_cheapestOf_40 hl (by decide) rfl (fun ls hl => ?_)
      refine lv_iinc (v := 3) (lv' := [(5, .int 3), (4, .int 2), (0, .ref (a 6 8)), (1, .int (nI (160 * B))), (2, .int (nI z)), (3, .int (n))]) hx hb dX6_cheapestOf_42 hl (k := 1) rfl (by decide) (by decide) rfl (fun ls hl => ?_)
      refine lv_goto (tgt := 6) hx hb dX6_cheapestOf_45 (by decide) ?_
      refine lv_iload hx hb dX6_cheapestOf_6 (lv_at hl 0 rfl) ?_
      refine lv_iconst (v := 3) hx hb dX6_cheapestOf_8 (by decide) ?_
      refine lv_icmp_ge (tgt := 48) hx hb dX6_cheapestOf_9 (by decide) (fun _ => ?_) (fun q => absurd (by decide) q)
      refine lv_iload hx hb dX6_cheapestOf_48 (lv_at hl 1 rfl) ?_
      exact hret _ _ _ _ _ _ rfl ⟨by simp only [fBest, fB1, c7, c14, if_true, if_false], rfl⟩ hH dX6_cheapestOf_50
  · refine lv_iload hx hb dX6_cheapestOf_33 (lv_at hl 0 rfl) ?_
    refine lv_goto (tgt := 40) hx hb dX6_cheapestOf_35 (by decide) ?_
    refine lv_istore (lv' := [(4, .int 1), (5, .int 1), (0, .ref (a 6 8)), (1, .int (nI (160 * B))), (2, .int (nI z)), (3, .int (n))]) hx hb dX6_cheapestOf_40 hl (by decide) rfl (fun ls hl => ?_)
    refine lv_iinc (v := 2) (lv' := [(5, .int 2), (4, .int 1), (0, .ref (a 6 8)), (1, .int (nI (160 * B))), (2, .int (nI z)), (3, .int (n))]) hx hb dX6_cheapestOf_42 hl (k := 1) rfl (by decide) (by decide) rfl (fun ls hl => ?_)
    refine lv_goto (tgt := 6) hx hb dX6_cheapestOf_45 (by decide) ?_
    refine lv_iload hx hb dX6_cheapestOf_6 (lv_at hl 0 rfl) ?_
    refine lv_iconst (v := 3) hx hb dX6_cheapestOf_8 (by decide) ?_
    refine lv_icmp_ge (tgt := 48) hx hb dX6_cheapestOf_9 (by decide) (fun q => absurd q (by decide)) (fun _ => ?_)
    refine lv_aload_n hx hb dX6_cheapestOf_12 rfl (lv_at hl 2 rfl) ?_
    refine lv_iload_n hx hb dX6_cheapestOf_13 rfl (lv_at hl 3 rfl) ?_
    refine lv_iload_n hx hb dX6_cheapestOf_14 rfl (lv_at hl 4 rfl) ?_
    refine lv_iload hx hb dX6_cheapestOf_15 (lv_at hl 0 rfl) ?_
    refine lv_iload_n hx hb dX6_cheapestOf_17 rfl (lv_at hl 5 rfl) ?_
    refine z_callVi X hH (c_X6_costs l D k a g B (by omega) v u hk (z) (by omega) 2 n) k_X6_34 (rv_X6 X hH) [] rfl rfl hl.1 (Nat.le_of_ble_eq_true rfl) ⟨Nat.le_of_ble_eq_true rfl, Nat.le_of_ble_eq_true rfl⟩ ⟨Nat.le_refl _, Nat.le_refl _⟩ dX6_cheapestOf_18 (fun r15 g16 H locs h17 hH => ?_)
    rw [h17.2] at hH
    rw [h17.1]
    refine lv_aload_n hx hb dX6_cheapestOf_21 rfl (lv_at hl 2 rfl) ?_
    refine lv_iload_n hx hb dX6_cheapestOf_22 rfl (lv_at hl 3 rfl) ?_
    refine lv_iload_n hx hb dX6_cheapestOf_23 rfl (lv_at hl 4 rfl) ?_
    refine lv_iload hx hb dX6_cheapestOf_24 (lv_at hl 1 rfl) ?_
    refine lv_iload_n hx hb dX6_cheapestOf_26 rfl (lv_at hl 5 rfl) ?_
    refine z_callVi X hH (c_X6_costs l D k a g B (by omega) v u hk (z) (by omega) 1 n) k_X6_34 (rv_X6 X hH) [.int (fCost v z 2 n)] rfl rfl hl.1 (Nat.le_of_ble_eq_true rfl) ⟨Nat.le_of_ble_eq_true rfl, Nat.le_of_ble_eq_true rfl⟩ ⟨Nat.le_refl _, Nat.le_refl _⟩ dX6_cheapestOf_27 (fun r18 g19 H locs h20 hH => ?_)
    rw [h20.2] at hH
    rw [h20.1]
    refine i_icmp_ge (tgt := 38) hx hb dX6_cheapestOf_30 (by decide) (fun c21 => ?_) (fun c21 => ?_)
    · refine lv_iload hx hb dX6_cheapestOf_38 (lv_at hl 1 rfl) ?_
      refine lv_istore (lv' := [(4, .int 1), (5, .int 2), (0, .ref (a 6 8)), (1, .int (nI (160 * B))), (2, .int (nI z)), (3, .int (n))]) hx hb dX6_cheapestOf_40 hl (by decide) rfl (fun ls hl => ?_)
      refine lv_iinc (v := 3) (lv' := [(5, .int 3), (4, .int 1), (0, .ref (a 6 8)), (1, .int (nI (160 * B))), (2, .int (nI z)), (3, .int (n))]) hx hb dX6_cheapestOf_42 hl (k := 1) rfl (by decide) (by decide) rfl (fun ls hl => ?_)
      refine lv_goto (tgt := 6) hx hb dX6_cheapestOf_45 (by decide) ?_
      refine lv_iload hx hb dX6_cheapestOf_6 (lv_at hl 0 rfl) ?_
      refine lv_iconst (v := 3) hx hb dX6_cheapestOf_8 (by decide) ?_
      refine lv_icmp_ge (tgt := 48) hx hb dX6_cheapestOf_9 (by decide) (fun _ => ?_) (fun q => absurd (by decide) q)
      refine lv_iload hx hb dX6_cheapestOf_48 (lv_at hl 1 rfl) ?_
      exact hret _ _ _ _ _ _ rfl ⟨by simp only [fBest, fB1, c7, c21, if_true, if_false], rfl⟩ hH dX6_cheapestOf_50
    · refine lv_iload hx hb dX6_cheapestOf_33 (lv_at hl 0 rfl) ?_
      refine lv_goto (tgt := 40) hx hb dX6_cheapestOf_35 (by decide) ?_
      refine lv_istore (lv' := [(4, .int 2), (5, .int 2), (0, .ref (a 6 8)), (1, .int (nI (160 * B))), (2, .int (nI z)), (3, .int (n))]) hx hb dX6_cheapestOf_40 hl (by decide) rfl (fun ls hl => ?_)
      refine lv_iinc (v := 3) (lv' := [(5, .int 3), (4, .int 2), (0, .ref (a 6 8)), (1, .int (nI (160 * B))), (2, .int (nI z)), (3, .int (n))]) hx hb dX6_cheapestOf_42 hl (k := 1) rfl (by decide) (by decide) rfl (fun ls hl => ?_)
      refine lv_goto (tgt := 6) hx hb dX6_cheapestOf_45 (by decide) ?_
      refine lv_iload hx hb dX6_cheapestOf_6 (lv_at hl 0 rfl) ?_
      refine lv_iconst (v := 3) hx hb dX6_cheapestOf_8 (by decide) ?_
      refine lv_icmp_ge (tgt := 48) hx hb dX6_cheapestOf_9 (by decide) (fun _ => ?_) (fun q => absurd (by decide) q)
      refine lv_iload hx hb dX6_cheapestOf_48 (lv_at hl 1 rfl) ?_
      exact hret _ _ _ _ _ _ rfl ⟨by simp only [fBest, fB1, c7, c21, if_true, if_false], rfl⟩ hH dX6_cheapestOf_50
set_option maxRecDepth 100000 in
set_option maxHeartbeats 4000000 in
theorem c_X6_kept (l : Launch) (D : va_G) (k : Nat → ClassId) (a : Nat → Nat → Nat) (g : Mem) (B : Nat) (hB : B < 7) (v u : V) (hf : zFl v) : zI l yX6_kept cX6_kept 4 .int 1 21 D k a [.ref (a 6 8), .int (nI (160 * B))] (zM g B v u) (fun r g' => r = (fK v 12) ∧ g' = (zM g B v u)) := by
  refine zI_of (own := RX6) (by decide +kernel) rfl (Nat.le_of_ble_eq_true rfl) ?_
  intro p e s m args below meth c X Q hret hH ls hl
  obtain ⟨hx, hb, hml, hown, hts⟩ := X.1
  have hl : lv_has ls 4 [(0, .ref (a 6 8)), (1, .int (nI (160 * B)))] := hl
  have hH : zH D k a s (zM g B v u) s.heap [] := hH
  refine lv_iconst (v := 0) hx hb dX6_kept_0 (by decide) ?_
  refine lv_istore_n (lv' := [(2, .int 0), (0, .ref (a 6 8)), (1, .int (nI (160 * B)))]) hx hb dX6_kept_1 rfl hl (by decide) rfl (fun ls hl => ?_)
  refine lv_iconst (v := 0) hx hb dX6_kept_2 (by decide) ?_
  refine lv_istore_n (lv' := [(3, .int 0), (2, .int 0), (0, .ref (a 6 8)), (1, .int (nI (160 * B)))]) hx hb dX6_kept_3 rfl hl (by decide) rfl (fun ls hl => ?_)
  have Lp4 : ∀ (jx i : Nat), i + jx = 12 → ∀ (H : Heap) (locs : List Loc) (ls : Array Slot), zH D k a s (zM g B v u) H locs → lv_has ls 4 [(3, .int (nI i)), (2, .int (fK v i)), (0, .ref (a 6 8)), (1, .int (nI (160 * B)))] → W p l e (zRoom 1 21) s m args below meth c H locs 0 0 Q (F0 m 4 ls []) := by
    intro jx
    induction jx with
    | zero =>
      intro i hix H locs ls hH hl
      obtain rfl : i = 12 := by omega
      refine lv_iload_n hx hb dX6_kept_4 rfl (lv_at hl 0 rfl) ?_
      refine lv_bipush (v := 12) hx hb dX6_kept_5 (by decide) ?_
      refine n_icmp_ge (A := 12) (B := 12) (tgt := 29) hx hb (by omega) (by omega) dX6_kept_7 (by decide) (fun c1 => ?_) (fun q => absurd q (by omega))
      refine lv_iload_n hx hb dX6_kept_29 rfl (lv_at hl 1 rfl) ?_
      exact hret _ _ _ _ _ _ rfl ⟨rfl, rfl⟩ hH dX6_kept_30
    | succ jx ih =>
      intro i hix H locs ls hH hl
      have hi4 : i < 12 := by omega
      refine lv_iload_n hx hb dX6_kept_4 rfl (lv_at hl 0 rfl) ?_
      refine lv_bipush (v := 12) hx hb dX6_kept_5 (by decide) ?_
      refine n_icmp_ge (A := i) (B := 12) (tgt := 29) hx hb (by omega) (by omega) dX6_kept_7 (by decide) (fun q => absurd q (by omega)) (fun c2 => ?_)
      refine lv_iload_n hx hb dX6_kept_10 rfl (lv_at hl 1 rfl) ?_
      refine lv_aload_n hx hb dX6_kept_11 rfl (lv_at hl 2 rfl) ?_
      refine gf_X6_s X hH q_576 dX6_kept_12 ?_
      refine lv_iload_n hx hb dX6_kept_15 rfl (lv_at hl 3 rfl) ?_
      refine lv_iload_n hx hb dX6_kept_16 rfl (lv_at hl 0 rfl) ?_
      refine z_callSi X hH (c_X6_planAt l D k a (zM g B v u) B (i)) k_X6_38 [.ref (a 6 9), .int (fK v i)] rfl rfl hl.1 (Nat.le_of_ble_eq_true rfl) ⟨Nat.le_of_ble_eq_true rfl, Nat.le_of_ble_eq_true rfl⟩ ⟨Nat.le_refl _, Nat.le_refl _⟩ dX6_kept_17 (fun r3 g4 H locs h5 hH => ?_)
      rw [h5.2] at hH
      rw [h5.1]
      refine am_s X (by omega) hH (13 + 11 * i + 0) (by omega) (by omega) dX6_kept_20 ?_
      refine lv_iadd hx hb dX6_kept_21 ?_
      refine lv_istore_n (lv' := [(2, .int ((fK v i) + (v (13 + 11 * i + 0)))), (3, .int (nI i)), (0, .ref (a 6 8)), (1, .int (nI (160 * B)))]) hx hb dX6_kept_22 rfl hl (by decide) rfl (fun ls hl => ?_)
      refine lv_iinc (v := nI (i + 1)) (lv' := [(3, .int (nI (i + 1))), (2, .int ((fK v i) + (v (13 + 11 * i + 0)))), (0, .ref (a 6 8)), (1, .int (nI (160 * B)))]) hx hb dX6_kept_23 hl (k := 1) rfl (z_inc1 _) (by decide) rfl (fun ls hl => ?_)
      refine lv_goto (tgt := 4) hx hb dX6_kept_26 (by decide) ?_
      refine ih (i + 1) (by omega) _ _ _ ?_ ?_
      · exact hH
      · rw [show (fK v (i + 1) : Int32) = (fK v i) + (v (13 + 11 * i + 0)) from by rw [fK_s hf (by omega)]]; exact lv_sub hl [0, 1, 2, 3] rfl
  refine Lp4 (12) 0 (by omega) _ _ _ ?_ ?_
  · exact hH
  · rw [show (nI 0 : Int32) = 0 from by rfl, show (fK v 0 : Int32) = 0 from by rfl]; exact lv_sub hl [0, 1, 2, 3] rfl
set_option maxRecDepth 100000 in
set_option maxHeartbeats 4000000 in
theorem c_X6_isChanged (l : Launch) (D : va_G) (k : Nat → ClassId) (a : Nat → Nat → Nat) (g : Mem) (B : Nat) (hB : B < 7) (v u : V) (z : Nat) (hz : z < 12) : zI l yX6_isChanged cX6_isChanged 5 .boolean 1 21 D k a [.ref (a 6 8), .int (nI (160 * B)), .int (nI z)] (zM g B v u) (fun r g' => r = (if fChanged v z = true then 1 else 0) ∧ g' = (zM g B v u)) := by
  refine zI_of (own := RX6) (by decide +kernel) rfl (Nat.le_of_ble_eq_true rfl) ?_
  intro p e s m args below meth c X Q hret hH ls hl
  obtain ⟨hx, hb, hml, hown, hts⟩ := X.1
  have hl : lv_has ls 5 [(0, .ref (a 6 8)), (1, .int (nI (160 * B))), (2, .int (nI z))] := hl
  have hH : zH D k a s (zM g B v u) s.heap [] := hH
  refine lv_iload_n hx hb dX6_isChanged_0 rfl (lv_at hl 1 rfl) ?_
  refine lv_iload_n hx hb dX6_isChanged_1 rfl (lv_at hl 2 rfl) ?_
  refine z_callSi X hH (c_X6_planAt l D k a (zM g B v u) B (z)) k_X6_38 [] rfl rfl hl.1 (Nat.le_of_ble_eq_true rfl) ⟨Nat.le_of_ble_eq_true rfl, Nat.le_of_ble_eq_true rfl⟩ ⟨Nat.le_refl _, Nat.le_refl _⟩ dX6_isChanged_2 (fun r1 g2 H locs h3 hH => ?_)
  rw [h3.2] at hH
  rw [h3.1]
  refine lv_istore_n (lv' := [(3, .int (nI (160 * B + 13 + 11 * z))), (0, .ref (a 6 8)), (1, .int (nI (160 * B))), (2, .int (nI z))]) hx hb dX6_isChanged_5 rfl hl (by decide) rfl (fun ls hl => ?_)
  refine lv_aload_n hx hb dX6_isChanged_6 rfl (lv_at hl 1 rfl) ?_
  refine gf_X6_s X hH q_576 dX6_isChanged_7 ?_
  refine lv_iload_n hx hb dX6_isChanged_10 rfl (lv_at hl 2 rfl) ?_
  refine lv_iload_n hx hb dX6_isChanged_11 rfl (lv_at hl 3 rfl) ?_
  refine lv_iconst (v := 3) hx hb dX6_isChanged_12 (by decide) ?_
  refine n_idiv (A := z) (B := 3) hx hb (z / 3) rfl (by omega) (by omega) (by omega) dX6_isChanged_13 ?_
  refine n_iadd (A := 160 * B) (B := z / 3) hx hb (160 * B + (z / 3)) (by omega) dX6_isChanged_14 ?_
  refine am_s X (by omega) hH ((z / 3)) (by omega) (by omega) dX6_isChanged_15 ?_
  refine lv_aload_n hx hb dX6_isChanged_16 rfl (lv_at hl 1 rfl) ?_
  refine gf_X6_s X hH q_576 dX6_isChanged_17 ?_
  refine lv_iload_n hx hb dX6_isChanged_20 rfl (lv_at hl 0 rfl) ?_
  refine lv_bipush (v := 10) hx hb dX6_isChanged_21 (by decide) ?_
  refine n_iadd (A := 160 * B + 13 + 11 * z) (B := 10) hx hb (160 * B + 13 + 11 * z + 10) (by omega) dX6_isChanged_23 ?_
  refine am_s X (by omega) hH (13 + 11 * z + 10) (by omega) (by omega) dX6_isChanged_24 ?_
  refine lv_isub hx hb dX6_isChanged_25 ?_
  refine lv_istore (lv' := [(4, .int ((v ((z / 3))) - (v (13 + 11 * z + 10)))), (3, .int (nI (160 * B + 13 + 11 * z))), (0, .ref (a 6 8)), (1, .int (nI (160 * B))), (2, .int (nI z))]) hx hb dX6_isChanged_26 hl (by decide) rfl (fun ls hl => ?_)
  refine lv_iload hx hb dX6_isChanged_28 (lv_at hl 0 rfl) ?_
  refine i_if_ge (tgt := 39) hx hb dX6_isChanged_30 (by decide) (fun c4 => ?_) (fun c4 => ?_)
  · refine lv_iload hx hb dX6_isChanged_39 (lv_at hl 0 rfl) ?_
    refine lv_aload_n hx hb dX6_isChanged_41 rfl (lv_at hl 2 rfl) ?_
    refine gf_X6_s X hH q_576 dX6_isChanged_42 ?_
    refine lv_iload_n hx hb dX6_isChanged_45 rfl (lv_at hl 1 rfl) ?_
    refine lv_bipush (v := 10) hx hb dX6_isChanged_46 (by decide) ?_
    refine n_iadd (A := 160 * B + 13 + 11 * z) (B := 10) hx hb (160 * B + 13 + 11 * z + 10) (by omega) dX6_isChanged_48 ?_
    refine am_s X (by omega) hH (13 + 11 * z + 10) (by omega) (by omega) dX6_isChanged_49 ?_
    refine lv_iconst (v := 2) hx hb dX6_isChanged_50 (by decide) ?_
    refine lv_idiv hx hb dX6_isChanged_51 (by decide) ?_
    refine i_icmp_le (tgt := 59) hx hb dX6_isChanged_52 (by decide) (fun c5 => ?_) (fun c5 => ?_)
    · refine lv_iconst (v := 0) hx hb dX6_isChanged_59 (by decide) ?_
      exact hret _ _ _ _ _ _ rfl ⟨by simp only [fChanged, ← z_abs1, c4, c5, if_true, if_false, decide_eq_true_eq], rfl⟩ hH dX6_isChanged_60
    · refine lv_iconst (v := 1) hx hb dX6_isChanged_55 (by decide) ?_
      refine lv_goto (tgt := 60) hx hb dX6_isChanged_56 (by decide) ?_
      exact hret _ _ _ _ _ _ rfl ⟨by simp only [fChanged, ← z_abs1, c4, c5, if_true, if_false, decide_eq_true_eq], rfl⟩ hH dX6_isChanged_60
  · refine lv_iload hx hb dX6_isChanged_33 (lv_at hl 0 rfl) ?_
    refine lv_ineg hx hb dX6_isChanged_35 ?_
    refine lv_goto (tgt := 41) hx hb dX6_isChanged_36 (by decide) ?_
    refine lv_aload_n hx hb dX6_isChanged_41 rfl (lv_at hl 2 rfl) ?_
    refine gf_X6_s X hH q_576 dX6_isChanged_42 ?_
    refine lv_iload_n hx hb dX6_isChanged_45 rfl (lv_at hl 1 rfl) ?_
    refine lv_bipush (v := 10) hx hb dX6_isChanged_46 (by decide) ?_
    refine n_iadd (A := 160 * B + 13 + 11 * z) (B := 10) hx hb (160 * B + 13 + 11 * z + 10) (by omega) dX6_isChanged_48 ?_
    refine am_s X (by omega) hH (13 + 11 * z + 10) (by omega) (by omega) dX6_isChanged_49 ?_
    refine lv_iconst (v := 2) hx hb dX6_isChanged_50 (by decide) ?_
    refine lv_idiv hx hb dX6_isChanged_51 (by decide) ?_
    refine i_icmp_le (tgt := 59) hx hb dX6_isChanged_52 (by decide) (fun c6 => ?_) (fun c6 => ?_)
    · refine lv_iconst (v := 0) hx hb dX6_isChanged_59 (by decide) ?_
      exact hret _ _ _ _ _ _ rfl ⟨by simp only [fChanged, ← z_abs1, c4, c6, if_true, if_false, decide_eq_true_eq], rfl⟩ hH dX6_isChanged_60
    · refine lv_iconst (v := 1) hx hb dX6_isChanged_55 (by decide) ?_
      refine lv_goto (tgt := 60) hx hb dX6_isChanged_56 (by decide) ?_
      exact hret _ _ _ _ _ _ rfl ⟨by simp only [fChanged, ← z_abs1, c4, c6, if_true, if_false, decide_eq_true_eq], rfl⟩ hH dX6_isChanged_60
set_option maxRecDepth 100000 in
set_option maxHeartbeats 4000000 in
theorem c_X6_age (l : Launch) (D : va_G) (k : Nat → ClassId) (a : Nat → Nat → Nat) (g : Mem) (B : Nat) (hB : B < 7) (v u : V) (z : Nat) (hz : z < 12) : zI l yX6_age cX6_age 3 .int 1 21 D k a [.ref (a 6 8), .int (nI (160 * B)), .int (nI z)] (zM g B v u) (fun r g' => r = (v 145 - v (13 + 11 * z + 6)) ∧ g' = (zM g B v u)) := by
  refine zI_of (own := RX6) (by decide +kernel) rfl (Nat.le_of_ble_eq_true rfl) ?_
  intro p e s m args below meth c X Q hret hH ls hl
  obtain ⟨hx, hb, hml, hown, hts⟩ := X.1
  have hl : lv_has ls 3 [(0, .ref (a 6 8)), (1, .int (nI (160 * B))), (2, .int (nI z))] := hl
  have hH : zH D k a s (zM g B v u) s.heap [] := hH
  refine lv_aload_n hx hb dX6_age_0 rfl (lv_at hl 0 rfl) ?_
  refine gf_X6_s X hH q_576 dX6_age_1 ?_
  refine lv_iload_n hx hb dX6_age_4 rfl (lv_at hl 1 rfl) ?_
  refine lv_sipush (v := 145) hx hb dX6_age_5 (by decide) ?_
  refine n_iadd (A := 160 * B) (B := 145) hx hb (160 * B + 145) (by omega) dX6_age_8 ?_
  refine am_s X (by omega) hH (145) (by omega) (by omega) dX6_age_9 ?_
  refine lv_aload_n hx hb dX6_age_10 rfl (lv_at hl 0 rfl) ?_
  refine gf_X6_s X hH q_576 dX6_age_11 ?_
  refine lv_iload_n hx hb dX6_age_14 rfl (lv_at hl 1 rfl) ?_
  refine lv_iload_n hx hb dX6_age_15 rfl (lv_at hl 2 rfl) ?_
  refine z_callSi X hH (c_X6_planAt l D k a (zM g B v u) B (z)) k_X6_38 [.ref (a 6 9), .int (v 145)] rfl rfl hl.1 (Nat.le_of_ble_eq_true rfl) ⟨Nat.le_of_ble_eq_true rfl, Nat.le_of_ble_eq_true rfl⟩ ⟨Nat.le_refl _, Nat.le_refl _⟩ dX6_age_16 (fun r1 g2 H locs h3 hH => ?_)
  rw [h3.2] at hH
  rw [h3.1]
  refine lv_bipush (v := 6) hx hb dX6_age_19 (by decide) ?_
  refine n_iadd (A := 160 * B + 13 + 11 * z) (B := 6) hx hb (160 * B + 13 + 11 * z + 6) (by omega) dX6_age_21 ?_
  refine am_s X (by omega) hH (13 + 11 * z + 6) (by omega) (by omega) dX6_age_22 ?_
  refine lv_isub hx hb dX6_age_23 ?_
  exact hret _ _ _ _ _ _ rfl ⟨rfl, rfl⟩ hH dX6_age_24
set_option maxRecDepth 100000 in
set_option maxHeartbeats 4000000 in
theorem c_X6_isOld (l : Launch) (D : va_G) (k : Nat → ClassId) (a : Nat → Nat → Nat) (g : Mem) (B : Nat) (hB : B < 7) (v u : V) (z : Nat) (hz : z < 12) : zI l yX6_isOld cX6_isOld 3 .boolean 2 43 D k a [.ref (a 6 8), .int (nI (160 * B)), .int (nI z)] (zM g B v u) (fun r g' => r = (if fOld v z = true then 1 else 0) ∧ g' = (zM g B v u)) := by
  refine zI_of (own := RX6) (by decide +kernel) rfl (Nat.le_of_ble_eq_true rfl) ?_
  intro p e s m args below meth c X Q hret hH ls hl
  obtain ⟨hx, hb, hml, hown, hts⟩ := X.1
  have hl : lv_has ls 3 [(0, .ref (a 6 8)), (1, .int (nI (160 * B))), (2, .int (nI z))] := hl
  have hH : zH D k a s (zM g B v u) s.heap [] := hH
  refine lv_aload_n hx hb dX6_isOld_0 rfl (lv_at hl 0 rfl) ?_
  refine lv_iload_n hx hb dX6_isOld_1 rfl (lv_at hl 1 rfl) ?_
  refine lv_iload_n hx hb dX6_isOld_2 rfl (lv_at hl 2 rfl) ?_
  refine z_callVi X hH (c_X6_age l D k a g B (by omega) v u (z) (by omega)) k_X6_42 (rv_X6 X hH) [] rfl rfl hl.1 (Nat.le_of_ble_eq_true rfl) ⟨Nat.le_of_ble_eq_true rfl, Nat.le_of_ble_eq_true rfl⟩ ⟨Nat.le_refl _, Nat.le_refl _⟩ dX6_isOld_3 (fun r1 g2 H locs h3 hH => ?_)
  rw [h3.2] at hH
  rw [h3.1]
  refine lv_aload_n hx hb dX6_isOld_6 rfl (lv_at hl 0 rfl) ?_
  refine gf_X6_s X hH q_576 dX6_isOld_7 ?_
  refine lv_iload_n hx hb dX6_isOld_10 rfl (lv_at hl 1 rfl) ?_
  refine lv_bipush (v := 8) hx hb dX6_isOld_11 (by decide) ?_
  refine n_iadd (A := 160 * B) (B := 8) hx hb (160 * B + 8) (by omega) dX6_isOld_13 ?_
  refine lv_iconst (v := 2) hx hb dX6_isOld_14 (by decide) ?_
  refine n_iadd (A := 160 * B + 8) (B := 2) hx hb (160 * B + 8 + 2) (by omega) dX6_isOld_15 ?_
  refine am_s X (by omega) hH (10) (by omega) (by omega) dX6_isOld_16 ?_
  refine i_icmp_le (tgt := 24) hx hb dX6_isOld_17 (by decide) (fun c4 => ?_) (fun c4 => ?_)
  · refine lv_iconst (v := 0) hx hb dX6_isOld_24 (by decide) ?_
    exact hret _ _ _ _ _ _ rfl ⟨by simp only [fOld, c4, if_true, if_false, decide_eq_true_eq], rfl⟩ hH dX6_isOld_25
  · refine lv_iconst (v := 1) hx hb dX6_isOld_20 (by decide) ?_
    refine lv_goto (tgt := 25) hx hb dX6_isOld_21 (by decide) ?_
    exact hret _ _ _ _ _ _ rfl ⟨by simp only [fOld, c4, if_true, if_false, decide_eq_true_eq], rfl⟩ hH dX6_isOld_25
set_option maxRecDepth 100000 in
set_option maxHeartbeats 4000000 in
theorem c_X6_why (l : Launch) (D : va_G) (k : Nat → ClassId) (a : Nat → Nat → Nat) (g : Mem) (B : Nat) (hB : B < 7) (v u : V) (z : Nat) (hz : z < 12) (n : Int32) : zI l yX6_why cX6_why 5 .int 3 65 D k a [.ref (a 6 8), .int (nI (160 * B)), .int (nI z), .int (n)] (zM g B v u) (fun r g' => r = (fWhy v z n) ∧ g' = (zM g B v u)) := by
  refine zI_of (own := RX6) (by decide +kernel) rfl (Nat.le_of_ble_eq_true rfl) ?_
  intro p e s m args below meth c X Q hret hH ls hl
  obtain ⟨hx, hb, hml, hown, hts⟩ := X.1
  have hl : lv_has ls 5 [(0, .ref (a 6 8)), (1, .int (nI (160 * B))), (2, .int (nI z)), (3, .int (n))] := hl
  have hH : zH D k a s (zM g B v u) s.heap [] := hH
  refine lv_iload_n hx hb dX6_why_0 rfl (lv_at hl 1 rfl) ?_
  refine lv_iload_n hx hb dX6_why_1 rfl (lv_at hl 2 rfl) ?_
  refine z_callSi X hH (c_X6_planAt l D k a (zM g B v u) B (z)) k_X6_38 [] rfl rfl hl.1 (Nat.le_of_ble_eq_true rfl) ⟨Nat.le_of_ble_eq_true rfl, Nat.le_of_ble_eq_true rfl⟩ ⟨Nat.le_refl _, Nat.le_refl _⟩ dX6_why_2 (fun r1 g2 H locs h3 hH => ?_)
  rw [h3.2] at hH
  rw [h3.1]
  refine lv_istore (lv' := [(4, .int (nI (160 * B + 13 + 11 * z))), (0, .ref (a 6 8)), (1, .int (nI (160 * B))), (2, .int (nI z)), (3, .int (n))]) hx hb dX6_why_5 hl (by decide) rfl (fun ls hl => ?_)
  refine lv_aload_n hx hb dX6_why_7 rfl (lv_at hl 1 rfl) ?_
  refine gf_X6_s X hH q_576 dX6_why_8 ?_
  refine lv_iload hx hb dX6_why_11 (lv_at hl 0 rfl) ?_
  refine am_s X (by omega) hH (13 + 11 * z + 0) (by omega) (by omega) dX6_why_13 ?_
  refine lv_if_ne (tgt := 21) hx hb dX6_why_14 (by decide) (fun c4 => ?_) (fun c4 => ?_)
  · refine lv_iload_n hx hb dX6_why_21 rfl (lv_at hl 4 rfl) ?_
    refine lv_aload_n hx hb dX6_why_22 rfl (lv_at hl 1 rfl) ?_
    refine gf_X6_s X hH q_576 dX6_why_23 ?_
    refine lv_iload hx hb dX6_why_26 (lv_at hl 0 rfl) ?_
    refine lv_iconst (v := 2) hx hb dX6_why_28 (by decide) ?_
    refine n_iadd (A := 160 * B + 13 + 11 * z) (B := 2) hx hb (160 * B + 13 + 11 * z + 2) (by omega) dX6_why_29 ?_
    refine am_s X (by omega) hH (13 + 11 * z + 2) (by omega) (by omega) dX6_why_30 ?_
    refine i_icmp_ge (tgt := 38) hx hb dX6_why_31 (by decide) (fun c5 => ?_) (fun c5 => ?_)
    · refine lv_iload_n hx hb dX6_why_38 rfl (lv_at hl 4 rfl) ?_
      refine lv_aload_n hx hb dX6_why_39 rfl (lv_at hl 1 rfl) ?_
      refine gf_X6_s X hH q_576 dX6_why_40 ?_
      refine lv_iload hx hb dX6_why_43 (lv_at hl 0 rfl) ?_
      refine lv_iconst (v := 3) hx hb dX6_why_45 (by decide) ?_
      refine n_iadd (A := 160 * B + 13 + 11 * z) (B := 3) hx hb (160 * B + 13 + 11 * z + 3) (by omega) dX6_why_46 ?_
      refine am_s X (by omega) hH (13 + 11 * z + 3) (by omega) (by omega) dX6_why_47 ?_
      refine i_icmp_le (tgt := 55) hx hb dX6_why_48 (by decide) (fun c6 => ?_) (fun c6 => ?_)
      · refine lv_aload_n hx hb dX6_why_55 rfl (lv_at hl 1 rfl) ?_
        refine lv_iload_n hx hb dX6_why_56 rfl (lv_at hl 2 rfl) ?_
        refine lv_iload_n hx hb dX6_why_57 rfl (lv_at hl 3 rfl) ?_
        refine z_callVi X hH (c_X6_isChanged l D k a g B (by omega) v u (z) (by omega)) k_X6_45 (rv_X6 X hH) [] rfl rfl hl.1 (Nat.le_of_ble_eq_true rfl) ⟨Nat.le_of_ble_eq_true rfl, Nat.le_of_ble_eq_true rfl⟩ ⟨Nat.le_refl _, Nat.le_refl _⟩ dX6_why_58 (fun r7 g8 H locs h9 hH => ?_)
        rw [h9.2] at hH
        rw [h9.1]
        refine b_ifeq (P := fChanged v z = true) (tgt := 68) hx hb dX6_why_61 (by decide) (fun c10 => ?_) (fun c10 => ?_)
        · refine lv_aload_n hx hb dX6_why_68 rfl (lv_at hl 1 rfl) ?_
          refine lv_iload_n hx hb dX6_why_69 rfl (lv_at hl 2 rfl) ?_
          refine lv_iload_n hx hb dX6_why_70 rfl (lv_at hl 3 rfl) ?_
          refine z_callVi X hH (c_X6_isOld l D k a g B (by omega) v u (z) (by omega)) k_X6_49 (rv_X6 X hH) [] rfl rfl hl.1 (Nat.le_of_ble_eq_true rfl) ⟨Nat.le_of_ble_eq_true rfl, Nat.le_of_ble_eq_true rfl⟩ ⟨Nat.le_refl _, Nat.le_refl _⟩ dX6_why_71 (fun r11 g12 H locs h13 hH => ?_)
          rw [h13.2] at hH
          rw [h13.1]
          refine b_ifeq (P := fOld v z = true) (tgt := 81) hx hb dX6_why_74 (by decide) (fun c14 => ?_) (fun c14 => ?_)
          · refine lv_iconst (v := 0) hx hb dX6_why_81 (by decide) ?_
            exact hret _ _ _ _ _ _ rfl ⟨by simp only [fWhy, c4, c5, c6, c10, c14, okS, okT, okW, okN, hasP, zAct, if_true, if_false, not_true_eq_false, not_false_eq_true, and_self, or_true, true_or, or_false, false_or, and_true, true_and, and_false, false_and, or_self, Bool.false_eq_true, z10], rfl⟩ hH dX6_why_82
          · refine lv_iconst (v := 5) hx hb dX6_why_77 (by decide) ?_
            refine lv_goto (tgt := 82) hx hb dX6_why_78 (by decide) ?_
            exact hret _ _ _ _ _ _ rfl ⟨by simp only [fWhy, c4, c5, c6, c10, c14, okS, okT, okW, okN, hasP, zAct, if_true, if_false, not_true_eq_false, not_false_eq_true, and_self, or_true, true_or, or_false, false_or, and_true, true_and, and_false, false_and, or_self, Bool.false_eq_true, z10], rfl⟩ hH dX6_why_82
        · refine lv_iconst (v := 4) hx hb dX6_why_64 (by decide) ?_
          refine lv_goto (tgt := 82) hx hb dX6_why_65 (by decide) ?_
          exact hret _ _ _ _ _ _ rfl ⟨by simp only [fWhy, c4, c5, c6, c10, okS, okT, okW, okN, hasP, zAct, if_true, if_false, not_true_eq_false, not_false_eq_true, and_self, or_true, true_or, or_false, false_or, and_true, true_and, and_false, false_and, or_self, Bool.false_eq_true, z10], rfl⟩ hH dX6_why_82
      · refine lv_iconst (v := 3) hx hb dX6_why_51 (by decide) ?_
        refine lv_goto (tgt := 82) hx hb dX6_why_52 (by decide) ?_
        exact hret _ _ _ _ _ _ rfl ⟨by simp only [fWhy, c4, c5, c6, okS, okT, okW, okN, hasP, zAct, if_true, if_false, not_true_eq_false, not_false_eq_true, and_self, or_true, true_or, or_false, false_or, and_true, true_and, and_false, false_and, or_self, Bool.false_eq_true, z10], rfl⟩ hH dX6_why_82
    · refine lv_iconst (v := 2) hx hb dX6_why_34 (by decide) ?_
      refine lv_goto (tgt := 82) hx hb dX6_why_35 (by decide) ?_
      exact hret _ _ _ _ _ _ rfl ⟨by simp only [fWhy, c4, c5, okS, okT, okW, okN, hasP, zAct, if_true, if_false, not_true_eq_false, not_false_eq_true, and_self, or_true, true_or, or_false, false_or, and_true, true_and, and_false, false_and, or_self, Bool.false_eq_true, z10], rfl⟩ hH dX6_why_82
  · refine lv_iconst (v := 1) hx hb dX6_why_17 (by decide) ?_
    refine lv_goto (tgt := 82) hx hb dX6_why_18 (by decide) ?_
    exact hret _ _ _ _ _ _ rfl ⟨by simp only [fWhy, c4, okS, okT, okW, okN, hasP, zAct, if_true, if_false, not_true_eq_false, not_false_eq_true, and_self, or_true, true_or, or_false, false_or, and_true, true_and, and_false, false_and, or_self, Bool.false_eq_true, z10], rfl⟩ hH dX6_why_82
