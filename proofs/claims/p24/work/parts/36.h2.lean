/-! hangs: what a good row owes it -/
theorem hang_end {B : Int} {v : V} (hB : B ≤ 1000) (h : zInv B v) : v 146 + v 147 = 0 + v 152 + v 153 + v 154 + v 155 ∧ ¬ (0 + v 156 + v 157 + v 158 + v 159) < v 149 ∧ ¬ v 146 < v 150 := by
  obtain ⟨⟨a1, a2, a3, a4⟩, ⟨b1, b2, b3⟩, ⟨c1, c2⟩, d, s1, s2⟩ := h.2
  refine ⟨?_, ?_, ?_⟩
  · rw [s1]
    exact t_eq (by rw [t_add (by omega) (by omega)]; exact a3)
  · rw [s2, t_i]; omega
  · rw [t_i]; omega
theorem hang_plan {B : Int} {v : V} {i : Nat} (hi : i < 12) (hB : B ≤ 1000) (h : zInv B v) (hk : ¬ v (13 + 11 * i + 0) = 0) :
    ¬ v (13 + 11 * i + 1) < 0 ∧ v (13 + 11 * i + 1) < 3 ∧ ¬ v (13 + 11 * i + 3) < v (13 + 11 * i + 2) ∧ ¬ (v 145 - v (13 + 11 * i + 6)) < (v 145 - v (13 + 11 * i + 7)) ∧ ¬ (v 145 - v (13 + 11 * i + 7)) < 0 ∧ ¬ (v 145 - v (13 + 11 * i + 6)) < v (13 + 11 * i + 9) ∧ ¬ 9999 < v (13 + 11 * i + 4) := by
  obtain ⟨hw, a2, ⟨a3, a4⟩, a5, ⟨b1, b2, b3⟩, ⟨c1, c2⟩, d⟩ := h.1.2.2.2.1 i hi hk
  have ha := h.2.1
  have e6 : (v 145 - v (13 + 11 * i + 6)).toInt = (v 145).toInt - (v (13 + 11 * i + 6)).toInt := t_sub (by omega) (by omega)
  have e7 : (v 145 - v (13 + 11 * i + 7)).toInt = (v 145).toInt - (v (13 + 11 * i + 7)).toInt := t_sub (by omega) (by omega)
  refine ⟨?_, ?_, ?_, ?_, ?_, ?_, ?_⟩
  · rcases hw with e | e | e <;> rw [e] <;> decide
  · rcases hw with e | e | e <;> rw [e] <;> decide
  · rw [t_i]; omega
  · rw [t_i, e6, e7]; omega
  · rw [t_i, e7, t_0]; omega
  · rw [t_i, e6]; omega
  · rw [t_i, show (9999 : Int32).toInt = 9999 by decide]; omega
set_option maxRecDepth 100000 in
set_option maxHeartbeats 4000000 in
theorem c_L_hangs (l : Launch) (D : va_G) (k : Nat → ClassId) (a : Nat → Nat → Nat) (g : Mem) (x : Nat) (hx4 : x < 4) (e6 : g 6 0 = nI x) (hjk : ∀ j, 160 ≤ j → g (2 + x) j = g 0 j) (B : Int) (hB : B ≤ 1000) (hI : zInv B (g 0)) (mm : Nat) (hm : 1 ≤ mm ∧ mm ≤ 9999) : zI l yL_hangs cL_hangs 14 .boolean 5 107 D k a [.ref (a 6 0), .int (nI mm)] (g) (fun r g' => r = 1 ∧ g' = g) := by
  refine zI_of (own := RL) (by decide +kernel) rfl (Nat.le_of_ble_eq_true rfl) ?_
  intro p e s m args below meth c X Q hret hH ls hl
  obtain ⟨hx, hb, hml, hown, hts⟩ := X.1
  have hl : lv_has ls 14 [(0, .ref (a 6 0)), (1, .int (nI mm))] := hl
  have hH : zH D k a s (g) s.heap [] := hH
  have hf := hI.1.1
  obtain ⟨hE1, hE2, hE3⟩ := hang_end hB hI
  refine lv_iconst (v := 0) hx hb dL_hangs_0 (by decide) ?_
  refine lv_istore_n (lv' := [(2, .int 0), (0, .ref (a 6 0)), (1, .int (nI mm))]) hx hb dL_hangs_1 rfl hl (by decide) rfl (fun ls hl => ?_)
  refine lv_iconst (v := 0) hx hb dL_hangs_2 (by decide) ?_
  refine lv_istore_n (lv' := [(3, .int 0), (2, .int 0), (0, .ref (a 6 0)), (1, .int (nI mm))]) hx hb dL_hangs_3 rfl hl (by decide) rfl (fun ls hl => ?_)
  refine lv_iconst (v := 0) hx hb dL_hangs_4 (by decide) ?_
  refine lv_istore (lv' := [(4, .int 0), (3, .int 0), (2, .int 0), (0, .ref (a 6 0)), (1, .int (nI mm))]) hx hb dL_hangs_5 hl (by decide) rfl (fun ls hl => ?_)
  refine lv_bipush (v := (-4)) hx hb dL_hangs_7 (by decide) ?_
  refine lv_istore (lv' := [(5, .int (-4)), (4, .int 0), (3, .int 0), (2, .int 0), (0, .ref (a 6 0)), (1, .int (nI mm))]) hx hb dL_hangs_9 hl (by decide) rfl (fun ls hl => ?_)
  refine lv_iconst (v := (-1)) hx hb dL_hangs_11 (by decide) ?_
  refine lv_istore (lv' := [(6, .int (-1)), (5, .int (-4)), (4, .int 0), (3, .int 0), (2, .int 0), (0, .ref (a 6 0)), (1, .int (nI mm))]) hx hb dL_hangs_12 hl (by decide) rfl (fun ls hl => ?_)
  refine lv_iconst (v := 1) hx hb dL_hangs_14 (by decide) ?_
  refine lv_istore (lv' := [(7, .int 1), (6, .int (-1)), (5, .int (-4)), (4, .int 0), (3, .int 0), (2, .int 0), (0, .ref (a 6 0)), (1, .int (nI mm))]) hx hb dL_hangs_15 hl (by decide) rfl (fun ls hl => ?_)
  refine lv_iconst (v := 0) hx hb dL_hangs_17 (by decide) ?_
  refine lv_istore (lv' := [(8, .int 0), (7, .int 1), (6, .int (-1)), (5, .int (-4)), (4, .int 0), (3, .int 0), (2, .int 0), (0, .ref (a 6 0)), (1, .int (nI mm))]) hx hb dL_hangs_18 hl (by decide) rfl (fun ls hl => ?_)
  have Lp20 : ∀ (jx i : Nat), i + jx = 12 → ∀ (H : Heap) (locs : List Loc) (ls : Array Slot), zH D k a s (g) H locs → lv_has ls 14 [(8, .int (nI i)), (7, .int 1), (6, .int (zLg (g 0) i)), (5, .int ((fO (g 0) i).1)), (4, .int (fS (g 0) i)), (3, .int (fP (g 0) i)), (2, .int (fK (g 0) i)), (0, .ref (a 6 0)), (1, .int (nI mm))] → W p l e (zRoom 5 107) s m args below meth c H locs 0 0 Q (F0 m 20 ls []) := by
    intro jx
    induction jx with
    | zero =>
      intro i hix H locs ls hH hl
      obtain rfl : i = 12 := by omega
      refine lv_iload hx hb dL_hangs_20 (lv_at hl 0 rfl) ?_
      refine lv_bipush (v := 12) hx hb dL_hangs_22 (by decide) ?_
      refine n_icmp_ge (A := 12) (B := 12) (tgt := 493) hx hb (by omega) (by omega) dL_hangs_24 (by decide) (fun c1 => ?_) (fun q => absurd q (by omega))
      refine lv_iconst (v := 0) hx hb dL_hangs_493 (by decide) ?_
      refine lv_istore (lv' := [(8, .int 0), (7, .int 1), (6, .int (zLg (g 0) 12)), (5, .int ((fO (g 0) 12).1)), (4, .int (fS (g 0) 12)), (3, .int (fP (g 0) 12)), (2, .int (fK (g 0) 12)), (0, .ref (a 6 0)), (1, .int (nI mm))]) hx hb dL_hangs_494 hl (by decide) rfl (fun ls hl => ?_)
      refine lv_iconst (v := 0) hx hb dL_hangs_496 (by decide) ?_
      refine lv_istore (lv' := [(9, .int 0), (8, .int 0), (7, .int 1), (6, .int (zLg (g 0) 12)), (5, .int ((fO (g 0) 12).1)), (4, .int (fS (g 0) 12)), (3, .int (fP (g 0) 12)), (2, .int (fK (g 0) 12)), (0, .ref (a 6 0)), (1, .int (nI mm))]) hx hb dL_hangs_497 hl (by decide) rfl (fun ls hl => ?_)
      refine lv_iconst (v := 0) hx hb dL_hangs_499 (by decide) ?_
      refine lv_istore (lv' := [(10, .int 0), (9, .int 0), (8, .int 0), (7, .int 1), (6, .int (zLg (g 0) 12)), (5, .int ((fO (g 0) 12).1)), (4, .int (fS (g 0) 12)), (3, .int (fP (g 0) 12)), (2, .int (fK (g 0) 12)), (0, .ref (a 6 0)), (1, .int (nI mm))]) hx hb dL_hangs_500 hl (by decide) rfl (fun ls hl => ?_)
      refine lv_iconst (v := 0) hx hb dL_hangs_502 (by decide) ?_
      refine lv_istore (lv' := [(11, .int 0), (10, .int 0), (9, .int 0), (8, .int 0), (7, .int 1), (6, .int (zLg (g 0) 12)), (5, .int ((fO (g 0) 12).1)), (4, .int (fS (g 0) 12)), (3, .int (fP (g 0) 12)), (2, .int (fK (g 0) 12)), (0, .ref (a 6 0)), (1, .int (nI mm))]) hx hb dL_hangs_503 hl (by decide) rfl (fun ls hl => ?_)
      refine lv_iload hx hb dL_hangs_505 (lv_at hl 0 rfl) ?_
      refine lv_iconst (v := 4) hx hb dL_hangs_507 (by decide) ?_
      refine lv_icmp_ge (tgt := 558) hx hb dL_hangs_508 (by decide) (fun q => absurd q (by decide)) (fun _ => ?_)
      refine lv_iload hx hb dL_hangs_511 (lv_at hl 4 rfl) ?_
      refine lv_if_eq (tgt := 558) hx hb dL_hangs_513 (by decide) (fun q => absurd q (by decide)) (fun _ => ?_)
      refine lv_iload hx hb dL_hangs_516 (lv_at hl 3 rfl) ?_
      refine lv_aload_n hx hb dL_hangs_518 rfl (lv_at hl 10 rfl) ?_
      refine lv_iload hx hb dL_hangs_519 (lv_at hl 0 rfl) ?_
      refine lv_iconst (v := 3) hx hb dL_hangs_521 (by decide) ?_
      refine z_callVi X hH (c_X5_tableOf l D k a g 0 3) k_L_40 (rv_X5 X hH) [.int 0] rfl rfl hl.1 (Nat.le_of_ble_eq_true rfl) ⟨Nat.le_of_ble_eq_true rfl, Nat.le_of_ble_eq_true rfl⟩ ⟨Nat.le_refl _, Nat.le_refl _⟩ dL_hangs_522 (fun r2 g3 H locs h4 hH => ?_)
      rw [h4.2] at hH
      rw [h4.1, show kTableOf (g 0) 0 3 = g 0 152 from kto3 (z := 0) (by omega)]
      refine lv_iadd hx hb dL_hangs_525 ?_
      refine lv_istore (lv' := [(8, .int (0 + (g 0 152))), (11, .int 0), (10, .int 0), (9, .int 0), (7, .int 1), (6, .int (zLg (g 0) 12)), (5, .int ((fO (g 0) 12).1)), (4, .int (fS (g 0) 12)), (3, .int (fP (g 0) 12)), (2, .int (fK (g 0) 12)), (0, .ref (a 6 0)), (1, .int (nI mm))]) hx hb dL_hangs_526 hl (by decide) rfl (fun ls hl => ?_)
      refine lv_iload hx hb dL_hangs_528 (lv_at hl 3 rfl) ?_
      refine lv_aload_n hx hb dL_hangs_530 rfl (lv_at hl 10 rfl) ?_
      refine lv_iload hx hb dL_hangs_531 (lv_at hl 1 rfl) ?_
      refine lv_iconst (v := 4) hx hb dL_hangs_533 (by decide) ?_
      refine z_callVi X hH (c_X5_tableOf l D k a g 0 4) k_L_40 (rv_X5 X hH) [.int 0] rfl rfl hl.1 (Nat.le_of_ble_eq_true rfl) ⟨Nat.le_of_ble_eq_true rfl, Nat.le_of_ble_eq_true rfl⟩ ⟨Nat.le_refl _, Nat.le_refl _⟩ dL_hangs_534 (fun r5 g6 H locs h7 hH => ?_)
      rw [h7.2] at hH
      rw [h7.1, show kTableOf (g 0) 0 4 = g 0 156 from kto4 (z := 0) (by omega)]
      refine lv_iadd hx hb dL_hangs_537 ?_
      refine lv_istore (lv' := [(9, .int (0 + (g 0 156))), (8, .int (0 + (g 0 152))), (11, .int 0), (10, .int 0), (7, .int 1), (6, .int (zLg (g 0) 12)), (5, .int ((fO (g 0) 12).1)), (4, .int (fS (g 0) 12)), (3, .int (fP (g 0) 12)), (2, .int (fK (g 0) 12)), (0, .ref (a 6 0)), (1, .int (nI mm))]) hx hb dL_hangs_538 hl (by decide) rfl (fun ls hl => ?_)
      refine lv_iload hx hb dL_hangs_540 (lv_at hl 3 rfl) ?_
      refine lv_aload_n hx hb dL_hangs_542 rfl (lv_at hl 10 rfl) ?_
      refine lv_iload hx hb dL_hangs_543 (lv_at hl 2 rfl) ?_
      refine lv_iconst (v := 2) hx hb dL_hangs_545 (by decide) ?_
      refine z_callVi X hH (c_X5_tableOf l D k a g 0 2) k_L_40 (rv_X5 X hH) [.int 0] rfl rfl hl.1 (Nat.le_of_ble_eq_true rfl) ⟨Nat.le_of_ble_eq_true rfl, Nat.le_of_ble_eq_true rfl⟩ ⟨Nat.le_refl _, Nat.le_refl _⟩ dL_hangs_546 (fun r8 g9 H locs h10 hH => ?_)
      rw [h10.2] at hH
      rw [h10.1, show kTableOf (g 0) 0 2 = fKo (g 0) 0 3 from kto2 (z := 0) (by omega)]
      refine lv_iadd hx hb dL_hangs_549 ?_
      refine lv_istore (lv' := [(10, .int (0 + (fKo (g 0) 0 3))), (9, .int (0 + (g 0 156))), (8, .int (0 + (g 0 152))), (11, .int 0), (7, .int 1), (6, .int (zLg (g 0) 12)), (5, .int ((fO (g 0) 12).1)), (4, .int (fS (g 0) 12)), (3, .int (fP (g 0) 12)), (2, .int (fK (g 0) 12)), (0, .ref (a 6 0)), (1, .int (nI mm))]) hx hb dL_hangs_550 hl (by decide) rfl (fun ls hl => ?_)
      refine lv_iinc (v := 1) (lv' := [(11, .int 1), (10, .int (0 + (fKo (g 0) 0 3))), (9, .int (0 + (g 0 156))), (8, .int (0 + (g 0 152))), (7, .int 1), (6, .int (zLg (g 0) 12)), (5, .int ((fO (g 0) 12).1)), (4, .int (fS (g 0) 12)), (3, .int (fP (g 0) 12)), (2, .int (fK (g 0) 12)), (0, .ref (a 6 0)), (1, .int (nI mm))]) hx hb dL_hangs_552 hl (k := 3) rfl (by decide) (by decide) rfl (fun ls hl => ?_)
      refine lv_goto (tgt := 505) hx hb dL_hangs_555 (by decide) ?_
      refine lv_iload hx hb dL_hangs_505 (lv_at hl 0 rfl) ?_
      refine lv_iconst (v := 4) hx hb dL_hangs_507 (by decide) ?_
      refine lv_icmp_ge (tgt := 558) hx hb dL_hangs_508 (by decide) (fun q => absurd q (by decide)) (fun _ => ?_)
      refine lv_iload hx hb dL_hangs_511 (lv_at hl 4 rfl) ?_
      refine lv_if_eq (tgt := 558) hx hb dL_hangs_513 (by decide) (fun q => absurd q (by decide)) (fun _ => ?_)
      refine lv_iload hx hb dL_hangs_516 (lv_at hl 3 rfl) ?_
      refine lv_aload_n hx hb dL_hangs_518 rfl (lv_at hl 10 rfl) ?_
      refine lv_iload hx hb dL_hangs_519 (lv_at hl 0 rfl) ?_
      refine lv_iconst (v := 3) hx hb dL_hangs_521 (by decide) ?_
      refine z_callVi X hH (c_X5_tableOf l D k a g 1 3) k_L_40 (rv_X5 X hH) [.int (0 + (g 0 152))] rfl rfl hl.1 (Nat.le_of_ble_eq_true rfl) ⟨Nat.le_of_ble_eq_true rfl, Nat.le_of_ble_eq_true rfl⟩ ⟨Nat.le_refl _, Nat.le_refl _⟩ dL_hangs_522 (fun r11 g12 H locs h13 hH => ?_)
      rw [h13.2] at hH
      rw [h13.1, show kTableOf (g 0) 1 3 = g 0 153 from kto3 (z := 1) (by omega)]
      refine lv_iadd hx hb dL_hangs_525 ?_
      refine lv_istore (lv' := [(8, .int ((0 + (g 0 152)) + (g 0 153))), (11, .int 1), (10, .int (0 + (fKo (g 0) 0 3))), (9, .int (0 + (g 0 156))), (7, .int 1), (6, .int (zLg (g 0) 12)), (5, .int ((fO (g 0) 12).1)), (4, .int (fS (g 0) 12)), (3, .int (fP (g 0) 12)), (2, .int (fK (g 0) 12)), (0, .ref (a 6 0)), (1, .int (nI mm))]) hx hb dL_hangs_526 hl (by decide) rfl (fun ls hl => ?_)
      refine lv_iload hx hb dL_hangs_528 (lv_at hl 3 rfl) ?_
      refine lv_aload_n hx hb dL_hangs_530 rfl (lv_at hl 10 rfl) ?_
      refine lv_iload hx hb dL_hangs_531 (lv_at hl 1 rfl) ?_
      refine lv_iconst (v := 4) hx hb dL_hangs_533 (by decide) ?_
      refine z_callVi X hH (c_X5_tableOf l D k a g 1 4) k_L_40 (rv_X5 X hH) [.int (0 + (g 0 156))] rfl rfl hl.1 (Nat.le_of_ble_eq_true rfl) ⟨Nat.le_of_ble_eq_true rfl, Nat.le_of_ble_eq_true rfl⟩ ⟨Nat.le_refl _, Nat.le_refl _⟩ dL_hangs_534 (fun r14 g15 H locs h16 hH => ?_)
      rw [h16.2] at hH
      rw [h16.1, show kTableOf (g 0) 1 4 = g 0 157 from kto4 (z := 1) (by omega)]
      refine lv_iadd hx hb dL_hangs_537 ?_
      refine lv_istore (lv' := [(9, .int ((0 + (g 0 156)) + (g 0 157))), (8, .int ((0 + (g 0 152)) + (g 0 153))), (11, .int 1), (10, .int (0 + (fKo (g 0) 0 3))), (7, .int 1), (6, .int (zLg (g 0) 12)), (5, .int ((fO (g 0) 12).1)), (4, .int (fS (g 0) 12)), (3, .int (fP (g 0) 12)), (2, .int (fK (g 0) 12)), (0, .ref (a 6 0)), (1, .int (nI mm))]) hx hb dL_hangs_538 hl (by decide) rfl (fun ls hl => ?_)
      refine lv_iload hx hb dL_hangs_540 (lv_at hl 3 rfl) ?_
      refine lv_aload_n hx hb dL_hangs_542 rfl (lv_at hl 10 rfl) ?_
      refine lv_iload hx hb dL_hangs_543 (lv_at hl 2 rfl) ?_
      refine lv_iconst (v := 2) hx hb dL_hangs_545 (by decide) ?_
      refine z_callVi X hH (c_X5_tableOf l D k a g 1 2) k_L_40 (rv_X5 X hH) [.int (0 + (fKo (g 0) 0 3))] rfl rfl hl.1 (Nat.le_of_ble_eq_true rfl) ⟨Nat.le_of_ble_eq_true rfl, Nat.le_of_ble_eq_true rfl⟩ ⟨Nat.le_refl _, Nat.le_refl _⟩ dL_hangs_546 (fun r17 g18 H locs h19 hH => ?_)
      rw [h19.2] at hH
      rw [h19.1, show kTableOf (g 0) 1 2 = fKo (g 0) 1 3 from kto2 (z := 1) (by omega)]
      refine lv_iadd hx hb dL_hangs_549 ?_
      refine lv_istore (lv' := [(10, .int ((0 + (fKo (g 0) 0 3)) + (fKo (g 0) 1 3))), (9, .int ((0 + (g 0 156)) + (g 0 157))), (8, .int ((0 + (g 0 152)) + (g 0 153))), (11, .int 1), (7, .int 1), (6, .int (zLg (g 0) 12)), (5, .int ((fO (g 0) 12).1)), (4, .int (fS (g 0) 12)), (3, .int (fP (g 0) 12)), (2, .int (fK (g 0) 12)), (0, .ref (a 6 0)), (1, .int (nI mm))]) hx hb dL_hangs_550 hl (by decide) rfl (fun ls hl => ?_)
      refine lv_iinc (v := 2) (lv' := [(11, .int 2), (10, .int ((0 + (fKo (g 0) 0 3)) + (fKo (g 0) 1 3))), (9, .int ((0 + (g 0 156)) + (g 0 157))), (8, .int ((0 + (g 0 152)) + (g 0 153))), (7, .int 1), (6, .int (zLg (g 0) 12)), (5, .int ((fO (g 0) 12).1)), (4, .int (fS (g 0) 12)), (3, .int (fP (g 0) 12)), (2, .int (fK (g 0) 12)), (0, .ref (a 6 0)), (1, .int (nI mm))]) hx hb dL_hangs_552 hl (k := 3) rfl (by decide) (by decide) rfl (fun ls hl => ?_)
      refine lv_goto (tgt := 505) hx hb dL_hangs_555 (by decide) ?_
      refine lv_iload hx hb dL_hangs_505 (lv_at hl 0 rfl) ?_
      refine lv_iconst (v := 4) hx hb dL_hangs_507 (by decide) ?_
      refine lv_icmp_ge (tgt := 558) hx hb dL_hangs_508 (by decide) (fun q => absurd q (by decide)) (fun _ => ?_)
      refine lv_iload hx hb dL_hangs_511 (lv_at hl 4 rfl) ?_
      refine lv_if_eq (tgt := 558) hx hb dL_hangs_513 (by decide) (fun q => absurd q (by decide)) (fun _ => ?_)
      refine lv_iload hx hb dL_hangs_516 (lv_at hl 3 rfl) ?_
      refine lv_aload_n hx hb dL_hangs_518 rfl (lv_at hl 10 rfl) ?_
      refine lv_iload hx hb dL_hangs_519 (lv_at hl 0 rfl) ?_
      refine lv_iconst (v := 3) hx hb dL_hangs_521 (by decide) ?_
      refine z_callVi X hH (c_X5_tableOf l D k a g 2 3) k_L_40 (rv_X5 X hH) [.int ((0 + (g 0 152)) + (g 0 153))] rfl rfl hl.1 (Nat.le_of_ble_eq_true rfl) ⟨Nat.le_of_ble_eq_true rfl, Nat.le_of_ble_eq_true rfl⟩ ⟨Nat.le_refl _, Nat.le_refl _⟩ dL_hangs_522 (fun r20 g21 H locs h22 hH => ?_)
      rw [h22.2] at hH
      rw [h22.1, show kTableOf (g 0) 2 3 = g 0 154 from kto3 (z := 2) (by omega)]
      refine lv_iadd hx hb dL_hangs_525 ?_
      refine lv_istore (lv' := [(8, .int (((0 + (g 0 152)) + (g 0 153)) + (g 0 154))), (11, .int 2), (10, .int ((0 + (fKo (g 0) 0 3)) + (fKo (g 0) 1 3))), (9, .int ((0 + (g 0 156)) + (g 0 157))), (7, .int 1), (6, .int (zLg (g 0) 12)), (5, .int ((fO (g 0) 12).1)), (4, .int (fS (g 0) 12)), (3, .int (fP (g 0) 12)), (2, .int (fK (g 0) 12)), (0, .ref (a 6 0)), (1, .int (nI mm))]) hx hb dL_hangs_526 hl (by decide) rfl (fun ls hl => ?_)
      refine lv_iload hx hb dL_hangs_528 (lv_at hl 3 rfl) ?_
      refine lv_aload_n hx hb dL_hangs_530 rfl (lv_at hl 10 rfl) ?_
      refine lv_iload hx hb dL_hangs_531 (lv_at hl 1 rfl) ?_
      refine lv_iconst (v := 4) hx hb dL_hangs_533 (by decide) ?_
      refine z_callVi X hH (c_X5_tableOf l D k a g 2 4) k_L_40 (rv_X5 X hH) [.int ((0 + (g 0 156)) + (g 0 157))] rfl rfl hl.1 (Nat.le_of_ble_eq_true rfl) ⟨Nat.le_of_ble_eq_true rfl, Nat.le_of_ble_eq_true rfl⟩ ⟨Nat.le_refl _, Nat.le_refl _⟩ dL_hangs_534 (fun r23 g24 H locs h25 hH => ?_)
      rw [h25.2] at hH
      rw [h25.1, show kTableOf (g 0) 2 4 = g 0 158 from kto4 (z := 2) (by omega)]
      refine lv_iadd hx hb dL_hangs_537 ?_
      refine lv_istore (lv' := [(9, .int (((0 + (g 0 156)) + (g 0 157)) + (g 0 158))), (8, .int (((0 + (g 0 152)) + (g 0 153)) + (g 0 154))), (11, .int 2), (10, .int ((0 + (fKo (g 0) 0 3)) + (fKo (g 0) 1 3))), (7, .int 1), (6, .int (zLg (g 0) 12)), (5, .int ((fO (g 0) 12).1)), (4, .int (fS (g 0) 12)), (3, .int (fP (g 0) 12)), (2, .int (fK (g 0) 12)), (0, .ref (a 6 0)), (1, .int (nI mm))]) hx hb dL_hangs_538 hl (by decide) rfl (fun ls hl => ?_)
      refine lv_iload hx hb dL_hangs_540 (lv_at hl 3 rfl) ?_
      refine lv_aload_n hx hb dL_hangs_542 rfl (lv_at hl 10 rfl) ?_
      refine lv_iload hx hb dL_hangs_543 (lv_at hl 2 rfl) ?_
      refine lv_iconst (v := 2) hx hb dL_hangs_545 (by decide) ?_
      refine z_callVi X hH (c_X5_tableOf l D k a g 2 2) k_L_40 (rv_X5 X hH) [.int ((0 + (fKo (g 0) 0 3)) + (fKo (g 0) 1 3))] rfl rfl hl.1 (Nat.le_of_ble_eq_true rfl) ⟨Nat.le_of_ble_eq_true rfl, Nat.le_of_ble_eq_true rfl⟩ ⟨Nat.le_refl _, Nat.le_refl _⟩ dL_hangs_546 (fun r26 g27 H locs h28 hH => ?_)
      rw [h28.2] at hH
      rw [h28.1, show kTableOf (g 0) 2 2 = fKo (g 0) 2 3 from kto2 (z := 2) (by omega)]
      refine lv_iadd hx hb dL_hangs_549 ?_
      refine lv_istore (lv' := [(10, .int (((0 + (fKo (g 0) 0 3)) + (fKo (g 0) 1 3)) + (fKo (g 0) 2 3))), (9, .int (((0 + (g 0 156)) + (g 0 157)) + (g 0 158))), (8, .int (((0 + (g 0 152)) + (g 0 153)) + (g 0 154))), (11, .int 2), (7, .int 1), (6, .int (zLg (g 0) 12)), (5, .int ((fO (g 0) 12).1)), (4, .int (fS (g 0) 12)), (3, .int (fP (g 0) 12)), (2, .int (fK (g 0) 12)), (0, .ref (a 6 0)), (1, .int (nI mm))]) hx hb dL_hangs_550 hl (by decide) rfl (fun ls hl => ?_)
      refine lv_iinc (v := 3) (lv' := [(11, .int 3), (10, .int (((0 + (fKo (g 0) 0 3)) + (fKo (g 0) 1 3)) + (fKo (g 0) 2 3))), (9, .int (((0 + (g 0 156)) + (g 0 157)) + (g 0 158))), (8, .int (((0 + (g 0 152)) + (g 0 153)) + (g 0 154))), (7, .int 1), (6, .int (zLg (g 0) 12)), (5, .int ((fO (g 0) 12).1)), (4, .int (fS (g 0) 12)), (3, .int (fP (g 0) 12)), (2, .int (fK (g 0) 12)), (0, .ref (a 6 0)), (1, .int (nI mm))]) hx hb dL_hangs_552 hl (k := 3) rfl (by decide) (by decide) rfl (fun ls hl => ?_)
      refine lv_goto (tgt := 505) hx hb dL_hangs_555 (by decide) ?_
      refine lv_iload hx hb dL_hangs_505 (lv_at hl 0 rfl) ?_
      refine lv_iconst (v := 4) hx hb dL_hangs_507 (by decide) ?_
      refine lv_icmp_ge (tgt := 558) hx hb dL_hangs_508 (by decide) (fun q => absurd q (by decide)) (fun _ => ?_)
      refine lv_iload hx hb dL_hangs_511 (lv_at hl 4 rfl) ?_
      refine lv_if_eq (tgt := 558) hx hb dL_hangs_513 (by decide) (fun q => absurd q (by decide)) (fun _ => ?_)
      refine lv_iload hx hb dL_hangs_516 (lv_at hl 3 rfl) ?_
      refine lv_aload_n hx hb dL_hangs_518 rfl (lv_at hl 10 rfl) ?_
      refine lv_iload hx hb dL_hangs_519 (lv_at hl 0 rfl) ?_
      refine lv_iconst (v := 3) hx hb dL_hangs_521 (by decide) ?_
      refine z_callVi X hH (c_X5_tableOf l D k a g 3 3) k_L_40 (rv_X5 X hH) [.int (((0 + (g 0 152)) + (g 0 153)) + (g 0 154))] rfl rfl hl.1 (Nat.le_of_ble_eq_true rfl) ⟨Nat.le_of_ble_eq_true rfl, Nat.le_of_ble_eq_true rfl⟩ ⟨Nat.le_refl _, Nat.le_refl _⟩ dL_hangs_522 (fun r29 g30 H locs h31 hH => ?_)
      rw [h31.2] at hH
      rw [h31.1, show kTableOf (g 0) 3 3 = g 0 155 from kto3 (z := 3) (by omega)]
      refine lv_iadd hx hb dL_hangs_525 ?_
      refine lv_istore (lv' := [(8, .int ((((0 + (g 0 152)) + (g 0 153)) + (g 0 154)) + (g 0 155))), (11, .int 3), (10, .int (((0 + (fKo (g 0) 0 3)) + (fKo (g 0) 1 3)) + (fKo (g 0) 2 3))), (9, .int (((0 + (g 0 156)) + (g 0 157)) + (g 0 158))), (7, .int 1), (6, .int (zLg (g 0) 12)), (5, .int ((fO (g 0) 12).1)), (4, .int (fS (g 0) 12)), (3, .int (fP (g 0) 12)), (2, .int (fK (g 0) 12)), (0, .ref (a 6 0)), (1, .int (nI mm))]) hx hb dL_hangs_526 hl (by decide) rfl (fun ls hl => ?_)
      refine lv_iload hx hb dL_hangs_528 (lv_at hl 3 rfl) ?_
      refine lv_aload_n hx hb dL_hangs_530 rfl (lv_at hl 10 rfl) ?_
      refine lv_iload hx hb dL_hangs_531 (lv_at hl 1 rfl) ?_
      refine lv_iconst (v := 4) hx hb dL_hangs_533 (by decide) ?_
      refine z_callVi X hH (c_X5_tableOf l D k a g 3 4) k_L_40 (rv_X5 X hH) [.int (((0 + (g 0 156)) + (g 0 157)) + (g 0 158))] rfl rfl hl.1 (Nat.le_of_ble_eq_true rfl) ⟨Nat.le_of_ble_eq_true rfl, Nat.le_of_ble_eq_true rfl⟩ ⟨Nat.le_refl _, Nat.le_refl _⟩ dL_hangs_534 (fun r32 g33 H locs h34 hH => ?_)
      rw [h34.2] at hH
      rw [h34.1, show kTableOf (g 0) 3 4 = g 0 159 from kto4 (z := 3) (by omega)]
      refine lv_iadd hx hb dL_hangs_537 ?_
      refine lv_istore (lv' := [(9, .int ((((0 + (g 0 156)) + (g 0 157)) + (g 0 158)) + (g 0 159))), (8, .int ((((0 + (g 0 152)) + (g 0 153)) + (g 0 154)) + (g 0 155))), (11, .int 3), (10, .int (((0 + (fKo (g 0) 0 3)) + (fKo (g 0) 1 3)) + (fKo (g 0) 2 3))), (7, .int 1), (6, .int (zLg (g 0) 12)), (5, .int ((fO (g 0) 12).1)), (4, .int (fS (g 0) 12)), (3, .int (fP (g 0) 12)), (2, .int (fK (g 0) 12)), (0, .ref (a 6 0)), (1, .int (nI mm))]) hx hb dL_hangs_538 hl (by decide) rfl (fun ls hl => ?_)
      refine lv_iload hx hb dL_hangs_540 (lv_at hl 3 rfl) ?_
      refine lv_aload_n hx hb dL_hangs_542 rfl (lv_at hl 10 rfl) ?_
      refine lv_iload hx hb dL_hangs_543 (lv_at hl 2 rfl) ?_
      refine lv_iconst (v := 2) hx hb dL_hangs_545 (by decide) ?_
      refine z_callVi X hH (c_X5_tableOf l D k a g 3 2) k_L_40 (rv_X5 X hH) [.int (((0 + (fKo (g 0) 0 3)) + (fKo (g 0) 1 3)) + (fKo (g 0) 2 3))] rfl rfl hl.1 (Nat.le_of_ble_eq_true rfl) ⟨Nat.le_of_ble_eq_true rfl, Nat.le_of_ble_eq_true rfl⟩ ⟨Nat.le_refl _, Nat.le_refl _⟩ dL_hangs_546 (fun r35 g36 H locs h37 hH => ?_)
      rw [h37.2] at hH
      rw [h37.1, show kTableOf (g 0) 3 2 = fKo (g 0) 3 3 from kto2 (z := 3) (by omega)]
      refine lv_iadd hx hb dL_hangs_549 ?_
      refine lv_istore (lv' := [(10, .int ((((0 + (fKo (g 0) 0 3)) + (fKo (g 0) 1 3)) + (fKo (g 0) 2 3)) + (fKo (g 0) 3 3))), (9, .int ((((0 + (g 0 156)) + (g 0 157)) + (g 0 158)) + (g 0 159))), (8, .int ((((0 + (g 0 152)) + (g 0 153)) + (g 0 154)) + (g 0 155))), (11, .int 3), (7, .int 1), (6, .int (zLg (g 0) 12)), (5, .int ((fO (g 0) 12).1)), (4, .int (fS (g 0) 12)), (3, .int (fP (g 0) 12)), (2, .int (fK (g 0) 12)), (0, .ref (a 6 0)), (1, .int (nI mm))]) hx hb dL_hangs_550 hl (by decide) rfl (fun ls hl => ?_)
      refine lv_iinc (v := 4) (lv' := [(11, .int 4), (10, .int ((((0 + (fKo (g 0) 0 3)) + (fKo (g 0) 1 3)) + (fKo (g 0) 2 3)) + (fKo (g 0) 3 3))), (9, .int ((((0 + (g 0 156)) + (g 0 157)) + (g 0 158)) + (g 0 159))), (8, .int ((((0 + (g 0 152)) + (g 0 153)) + (g 0 154)) + (g 0 155))), (7, .int 1), (6, .int (zLg (g 0) 12)), (5, .int ((fO (g 0) 12).1)), (4, .int (fS (g 0) 12)), (3, .int (fP (g 0) 12)), (2, .int (fK (g 0) 12)), (0, .ref (a 6 0)), (1, .int (nI mm))]) hx hb dL_hangs_552 hl (k := 3) rfl (by decide) (by decide) rfl (fun ls hl => ?_)
      refine lv_goto (tgt := 505) hx hb dL_hangs_555 (by decide) ?_
      refine lv_iload hx hb dL_hangs_505 (lv_at hl 0 rfl) ?_
      refine lv_iconst (v := 4) hx hb dL_hangs_507 (by decide) ?_
      refine lv_icmp_ge (tgt := 558) hx hb dL_hangs_508 (by decide) (fun _ => ?_) (fun q => absurd (by decide) q)
      refine lv_iload hx hb dL_hangs_558 (lv_at hl 4 rfl) ?_
      refine lv_if_eq (tgt := 672) hx hb dL_hangs_560 (by decide) (fun q => absurd q (by decide)) (fun _ => ?_)
      refine lv_iload_n hx hb dL_hangs_563 rfl (lv_at hl 9 rfl) ?_
      refine lv_aload_n hx hb dL_hangs_564 rfl (lv_at hl 10 rfl) ?_
      refine lv_iconst (v := 0) hx hb dL_hangs_565 (by decide) ?_
      refine z_callVi X hH (c_X5_count l D k a g 0) k_L_43 (rv_X5 X hH) [.int (fK (g 0) 12)] rfl rfl hl.1 (Nat.le_of_ble_eq_true rfl) ⟨Nat.le_of_ble_eq_true rfl, Nat.le_of_ble_eq_true rfl⟩ ⟨Nat.le_refl _, Nat.le_refl _⟩ dL_hangs_566 (fun r38 g39 H locs h40 hH => ?_)
      rw [h40.2] at hH
      rw [h40.1, kcn0]
      refine lv_icmp_ne (tgt := 672) hx hb dL_hangs_569 (by decide) (fun q => absurd rfl q) (fun c41 => ?_)
      refine lv_iload hx hb dL_hangs_572 (lv_at hl 1 rfl) ?_
      refine lv_iload_n hx hb dL_hangs_574 rfl (lv_at hl 9 rfl) ?_
      refine lv_icmp_ne (tgt := 672) hx hb dL_hangs_575 (by decide) (fun q => absurd fKo_sum q) (fun c42 => ?_)
      refine lv_iload_n hx hb dL_hangs_578 rfl (lv_at hl 8 rfl) ?_
      refine lv_aload_n hx hb dL_hangs_579 rfl (lv_at hl 10 rfl) ?_
      refine lv_iconst (v := 1) hx hb dL_hangs_580 (by decide) ?_
      refine z_callVi X hH (c_X5_count l D k a g 1) k_L_43 (rv_X5 X hH) [.int (fP (g 0) 12)] rfl rfl hl.1 (Nat.le_of_ble_eq_true rfl) ⟨Nat.le_of_ble_eq_true rfl, Nat.le_of_ble_eq_true rfl⟩ ⟨Nat.le_refl _, Nat.le_refl _⟩ dL_hangs_581 (fun r43 g44 H locs h45 hH => ?_)
      rw [h45.2] at hH
      rw [h45.1, kcn1]
      refine lv_icmp_ne (tgt := 672) hx hb dL_hangs_584 (by decide) (fun q => absurd rfl q) (fun c46 => ?_)
      refine lv_iload hx hb dL_hangs_587 (lv_at hl 7 rfl) ?_
      refine lv_aload_n hx hb dL_hangs_589 rfl (lv_at hl 10 rfl) ?_
      refine lv_iconst (v := 2) hx hb dL_hangs_590 (by decide) ?_
      refine z_callVi X hH (c_X5_count l D k a g 2) k_L_43 (rv_X5 X hH) [.int (fS (g 0) 12)] rfl rfl hl.1 (Nat.le_of_ble_eq_true rfl) ⟨Nat.le_of_ble_eq_true rfl, Nat.le_of_ble_eq_true rfl⟩ ⟨Nat.le_refl _, Nat.le_refl _⟩ dL_hangs_591 (fun r47 g48 H locs h49 hH => ?_)
      rw [h49.2] at hH
      rw [h49.1, kcn2]
      refine lv_icmp_ne (tgt := 672) hx hb dL_hangs_594 (by decide) (fun q => absurd rfl q) (fun c50 => ?_)
      refine lv_iload hx hb dL_hangs_597 (lv_at hl 6 rfl) ?_
      refine lv_aload_n hx hb dL_hangs_599 rfl (lv_at hl 10 rfl) ?_
      refine z_callVi X hH (c_X5_oldest l D k a g) k_L_50 (rv_X5 X hH) [.int ((fO (g 0) 12).1)] rfl rfl hl.1 (Nat.le_of_ble_eq_true rfl) ⟨Nat.le_of_ble_eq_true rfl, Nat.le_of_ble_eq_true rfl⟩ ⟨Nat.le_refl _, Nat.le_refl _⟩ dL_hangs_600 (fun r51 g52 H locs h53 hH => ?_)
      rw [h53.2] at hH
      rw [h53.1]
      refine lv_icmp_ne (tgt := 672) hx hb dL_hangs_603 (by decide) (fun q => absurd rfl q) (fun c54 => ?_)
      refine lv_iload hx hb dL_hangs_606 (lv_at hl 3 rfl) ?_
      refine lv_aload_n hx hb dL_hangs_608 rfl (lv_at hl 10 rfl) ?_
      refine lv_iconst (v := 3) hx hb dL_hangs_609 (by decide) ?_
      refine z_callVi X hH (c_X5_count l D k a g 3) k_L_43 (rv_X5 X hH) [.int ((((0 + (g 0 152)) + (g 0 153)) + (g 0 154)) + (g 0 155))] rfl rfl hl.1 (Nat.le_of_ble_eq_true rfl) ⟨Nat.le_of_ble_eq_true rfl, Nat.le_of_ble_eq_true rfl⟩ ⟨Nat.le_refl _, Nat.le_refl _⟩ dL_hangs_610 (fun r55 g56 H locs h57 hH => ?_)
      rw [h57.2] at hH
      rw [h57.1, kcn3]
      refine lv_icmp_ne (tgt := 672) hx hb dL_hangs_613 (by decide) (fun q => absurd hI.2.2.2.2.2.1 q) (fun c58 => ?_)
      refine lv_iload hx hb dL_hangs_616 (lv_at hl 2 rfl) ?_
      refine lv_aload_n hx hb dL_hangs_618 rfl (lv_at hl 10 rfl) ?_
      refine lv_bipush (v := 6) hx hb dL_hangs_619 (by decide) ?_
      refine z_callVi X hH (c_X5_count l D k a g 6) k_L_43 (rv_X5 X hH) [.int ((((0 + (g 0 156)) + (g 0 157)) + (g 0 158)) + (g 0 159))] rfl rfl hl.1 (Nat.le_of_ble_eq_true rfl) ⟨Nat.le_of_ble_eq_true rfl, Nat.le_of_ble_eq_true rfl⟩ ⟨Nat.le_refl _, Nat.le_refl _⟩ dL_hangs_621 (fun r59 g60 H locs h61 hH => ?_)
      rw [h61.2] at hH
      rw [h61.1, kcn6]
      refine lv_icmp_ne (tgt := 672) hx hb dL_hangs_624 (by decide) (fun q => absurd hI.2.2.2.2.2.2 q) (fun c62 => ?_)
      refine lv_aload_n hx hb dL_hangs_627 rfl (lv_at hl 10 rfl) ?_
      refine lv_iconst (v := 4) hx hb dL_hangs_628 (by decide) ?_
      refine z_callVi X hH (c_X5_count l D k a g 4) k_L_43 (rv_X5 X hH) [] rfl rfl hl.1 (Nat.le_of_ble_eq_true rfl) ⟨Nat.le_of_ble_eq_true rfl, Nat.le_of_ble_eq_true rfl⟩ ⟨Nat.le_refl _, Nat.le_refl _⟩ dL_hangs_629 (fun r63 g64 H locs h65 hH => ?_)
      rw [h65.2] at hH
      rw [h65.1, kcn4]
      refine lv_aload_n hx hb dL_hangs_632 rfl (lv_at hl 10 rfl) ?_
      refine lv_iconst (v := 5) hx hb dL_hangs_633 (by decide) ?_
      refine z_callVi X hH (c_X5_count l D k a g 5) k_L_43 (rv_X5 X hH) [.int (g 0 146)] rfl rfl hl.1 (Nat.le_of_ble_eq_true rfl) ⟨Nat.le_of_ble_eq_true rfl, Nat.le_of_ble_eq_true rfl⟩ ⟨Nat.le_refl _, Nat.le_refl _⟩ dL_hangs_634 (fun r66 g67 H locs h68 hH => ?_)
      rw [h68.2] at hH
      rw [h68.1, kcn5]
      refine lv_iadd hx hb dL_hangs_637 ?_
      refine lv_iload hx hb dL_hangs_638 (lv_at hl 3 rfl) ?_
      refine lv_icmp_ne (tgt := 672) hx hb dL_hangs_640 (by decide) (fun q => absurd hE1 q) (fun c69 => ?_)
      refine lv_aload_n hx hb dL_hangs_643 rfl (lv_at hl 10 rfl) ?_
      refine lv_bipush (v := 7) hx hb dL_hangs_644 (by decide) ?_
      refine z_callVi X hH (c_X5_count l D k a g 7) k_L_43 (rv_X5 X hH) [] rfl rfl hl.1 (Nat.le_of_ble_eq_true rfl) ⟨Nat.le_of_ble_eq_true rfl, Nat.le_of_ble_eq_true rfl⟩ ⟨Nat.le_refl _, Nat.le_refl _⟩ dL_hangs_646 (fun r70 g71 H locs h72 hH => ?_)
      rw [h72.2] at hH
      rw [h72.1, kcn7]
      refine lv_iload hx hb dL_hangs_649 (lv_at hl 2 rfl) ?_
      refine i_icmp_gt (tgt := 672) hx hb dL_hangs_651 (by decide) (fun q => absurd q hE2) (fun c73 => ?_)
      refine lv_aload_n hx hb dL_hangs_654 rfl (lv_at hl 10 rfl) ?_
      refine lv_bipush (v := 8) hx hb dL_hangs_655 (by decide) ?_
      refine z_callVi X hH (c_X5_count l D k a g 8) k_L_43 (rv_X5 X hH) [] rfl rfl hl.1 (Nat.le_of_ble_eq_true rfl) ⟨Nat.le_of_ble_eq_true rfl, Nat.le_of_ble_eq_true rfl⟩ ⟨Nat.le_refl _, Nat.le_refl _⟩ dL_hangs_657 (fun r74 g75 H locs h76 hH => ?_)
      rw [h76.2] at hH
      rw [h76.1, kcn8]
      refine lv_aload_n hx hb dL_hangs_660 rfl (lv_at hl 10 rfl) ?_
      refine lv_iconst (v := 4) hx hb dL_hangs_661 (by decide) ?_
      refine z_callVi X hH (c_X5_count l D k a g 4) k_L_43 (rv_X5 X hH) [.int (g 0 150)] rfl rfl hl.1 (Nat.le_of_ble_eq_true rfl) ⟨Nat.le_of_ble_eq_true rfl, Nat.le_of_ble_eq_true rfl⟩ ⟨Nat.le_refl _, Nat.le_refl _⟩ dL_hangs_662 (fun r77 g78 H locs h79 hH => ?_)
      rw [h79.2] at hH
      rw [h79.1, kcn4]
      refine i_icmp_gt (tgt := 672) hx hb dL_hangs_665 (by decide) (fun q => absurd q hE3) (fun c80 => ?_)
      refine lv_iconst (v := 1) hx hb dL_hangs_668 (by decide) ?_
      refine lv_goto (tgt := 673) hx hb dL_hangs_669 (by decide) ?_
      exact hret _ _ _ _ _ _ rfl ⟨rfl, rfl⟩ hH dL_hangs_673
    | succ jx ih =>
      intro i hix H locs ls hH hl
      have hi20 : i < 12 := by omega
      refine lv_iload hx hb dL_hangs_20 (lv_at hl 0 rfl) ?_
      refine lv_bipush (v := 12) hx hb dL_hangs_22 (by decide) ?_
      refine n_icmp_ge (A := i) (B := 12) (tgt := 493) hx hb (by omega) (by omega) dL_hangs_24 (by decide) (fun q => absurd q (by omega)) (fun c81 => ?_)
      refine lv_iload hx hb dL_hangs_27 (lv_at hl 1 rfl) ?_
      refine lv_if_eq (tgt := 493) hx hb dL_hangs_29 (by decide) (fun q => absurd q (by decide)) (fun _ => ?_)
      have J487 : ∀ (H : Heap) (locs : List Loc) (ls : Array Slot), zH D k a s (g) H locs → lv_has ls 14 [(8, .int (nI i)), (7, .int 1), (6, .int (zLg (g 0) (i + 1))), (5, .int ((fO (g 0) (i + 1)).1)), (4, .int (fS (g 0) (i + 1))), (3, .int (fP (g 0) (i + 1))), (2, .int (fK (g 0) (i + 1))), (0, .ref (a 6 0)), (1, .int (nI mm))] → W p l e (zRoom 5 107) s m args below meth c H locs 0 0 Q (F0 m 487 ls []) := by
        intro H locs ls hH hl
        refine lv_iinc (v := nI (i + 1)) (lv' := [(8, .int (nI (i + 1))), (7, .int 1), (6, .int (zLg (g 0) (i + 1))), (5, .int ((fO (g 0) (i + 1)).1)), (4, .int (fS (g 0) (i + 1))), (3, .int (fP (g 0) (i + 1))), (2, .int (fK (g 0) (i + 1))), (0, .ref (a 6 0)), (1, .int (nI mm))]) hx hb dL_hangs_487 hl (k := 0) rfl (z_inc1 _) (by decide) rfl (fun ls hl => ?_)
        refine lv_goto (tgt := 20) hx hb dL_hangs_490 (by decide) ?_
        refine ih (i + 1) (by omega) _ _ _ ?_ ?_
        · exact hH
        · exact lv_sub hl [0, 1, 2, 3, 4, 5, 6, 7, 8] rfl
      by_cases hkk : g 0 (13 + 11 * i + 0) = 0
      · refine lv_aload_n hx hb dL_hangs_32 rfl (lv_at hl 7 rfl) ?_
        refine lv_iload hx hb dL_hangs_33 (lv_at hl 0 rfl) ?_
        refine lv_iconst (v := 0) hx hb dL_hangs_35 (by decide) ?_
        refine z_callVi X hH (c_X5_plan l D k a g hf (nI i) 0) k_L_34 (rv_X5 X hH) [] rfl rfl hl.1 (Nat.le_of_ble_eq_true rfl) ⟨Nat.le_of_ble_eq_true rfl, Nat.le_of_ble_eq_true rfl⟩ ⟨Nat.le_refl _, Nat.le_refl _⟩ dL_hangs_36 (fun r82 g83 H locs h84 hH => ?_)
        rw [h84.2] at hH
        rw [h84.1, kpn (by omega) hkk]
        refine lv_istore (lv' := [(9, .int (-1)), (8, .int (nI i)), (7, .int 1), (6, .int (zLg (g 0) i)), (5, .int ((fO (g 0) i).1)), (4, .int (fS (g 0) i)), (3, .int (fP (g 0) i)), (2, .int (fK (g 0) i)), (0, .ref (a 6 0)), (1, .int (nI mm))]) hx hb dL_hangs_39 hl (by decide) rfl (fun ls hl => ?_)
        refine lv_aload_n hx hb dL_hangs_41 rfl (lv_at hl 8 rfl) ?_
        refine lv_iload hx hb dL_hangs_42 (lv_at hl 1 rfl) ?_
        refine lv_iload_n hx hb dL_hangs_44 rfl (lv_at hl 9 rfl) ?_
        refine z_callVi X hH (c_X5_reason l D k a g (nI i) (nI mm)) k_L_37 (rv_X5 X hH) [] rfl rfl hl.1 (Nat.le_of_ble_eq_true rfl) ⟨Nat.le_of_ble_eq_true rfl, Nat.le_of_ble_eq_true rfl⟩ ⟨Nat.le_refl _, Nat.le_refl _⟩ dL_hangs_45 (fun r85 g86 H locs h87 hH => ?_)
        rw [h87.2] at hH
        rw [h87.1, kre (by omega) (okN_m hm), fWhy, if_pos hkk]
        refine lv_istore (lv' := [(10, .int 1), (9, .int (-1)), (8, .int (nI i)), (7, .int 1), (6, .int (zLg (g 0) i)), (5, .int ((fO (g 0) i).1)), (4, .int (fS (g 0) i)), (3, .int (fP (g 0) i)), (2, .int (fK (g 0) i)), (0, .ref (a 6 0)), (1, .int (nI mm))]) hx hb dL_hangs_48 hl (by decide) rfl (fun ls hl => ?_)
        refine lv_iload hx hb dL_hangs_50 (lv_at hl 1 rfl) ?_
        refine lv_if_ge (tgt := 98) hx hb dL_hangs_52 (by decide) (fun q => absurd q (by decide)) (fun _ => ?_)
        refine lv_iload hx hb dL_hangs_55 (lv_at hl 1 rfl) ?_
        refine lv_iconst (v := (-1)) hx hb dL_hangs_57 (by decide) ?_
        refine lv_icmp_ne (tgt := 92) hx hb dL_hangs_58 (by decide) (fun q => absurd rfl q) (fun _ => ?_)
        refine lv_iload hx hb dL_hangs_61 (lv_at hl 0 rfl) ?_
        refine lv_iconst (v := 1) hx hb dL_hangs_63 (by decide) ?_
        refine lv_icmp_ne (tgt := 92) hx hb dL_hangs_64 (by decide) (fun q => absurd rfl q) (fun _ => ?_)
        refine lv_aload_n hx hb dL_hangs_67 rfl (lv_at hl 9 rfl) ?_
        refine lv_iload hx hb dL_hangs_68 (lv_at hl 2 rfl) ?_
        refine lv_iconst (v := 1) hx hb dL_hangs_70 (by decide) ?_
        refine z_callVi X hH (c_X5_pin l D k a g x hx4 e6 hf hjk (nI i) 1 (Or.inr rfl)) k_L_15 (rv_X5 X hH) [] rfl rfl hl.1 (Nat.le_of_ble_eq_true rfl) ⟨Nat.le_of_ble_eq_true rfl, Nat.le_of_ble_eq_true rfl⟩ ⟨Nat.le_refl _, Nat.le_refl _⟩ dL_hangs_71 (fun r88 g89 H locs h90 hH => ?_)
        rw [kpin (by omega) hkk] at h90
        rw [h90.2] at hH
        rw [h90.1]
        have hH : zH D k a s (g) H locs := hH
        refine lv_iconst (v := (-1)) hx hb dL_hangs_74 (by decide) ?_
        refine lv_icmp_ne (tgt := 92) hx hb dL_hangs_75 (by decide) (fun q => absurd rfl q) (fun _ => ?_)
        refine lv_aload_n hx hb dL_hangs_78 rfl (lv_at hl 9 rfl) ?_
        refine lv_iload hx hb dL_hangs_79 (lv_at hl 2 rfl) ?_
        refine z_callVi X hH (c_X5_throwOut l D k a g x hx4 e6 hf hjk (nI i)) k_L_19 (rv_X5 X hH) [] rfl rfl hl.1 (Nat.le_of_ble_eq_true rfl) ⟨Nat.le_of_ble_eq_true rfl, Nat.le_of_ble_eq_true rfl⟩ ⟨Nat.le_refl _, Nat.le_refl _⟩ dL_hangs_81 (fun r91 g92 H locs h93 hH => ?_)
        rw [kthr (by omega) hkk] at h93
        rw [h93.2] at hH
        rw [h93.1]
        have hH : zH D k a s (g) H locs := hH
        refine lv_iconst (v := (-1)) hx hb dL_hangs_84 (by decide) ?_
        refine lv_icmp_ne (tgt := 92) hx hb dL_hangs_85 (by decide) (fun q => absurd rfl q) (fun _ => ?_)
        refine lv_iconst (v := 1) hx hb dL_hangs_88 (by decide) ?_
        refine lv_goto (tgt := 93) hx hb dL_hangs_89 (by decide) ?_
        refine lv_istore (lv' := [(7, .int 1), (10, .int 1), (9, .int (-1)), (8, .int (nI i)), (6, .int (zLg (g 0) i)), (5, .int ((fO (g 0) i).1)), (4, .int (fS (g 0) i)), (3, .int (fP (g 0) i)), (2, .int (fK (g 0) i)), (0, .ref (a 6 0)), (1, .int (nI mm))]) hx hb dL_hangs_93 hl (by decide) rfl (fun ls hl => ?_)
        refine lv_goto (tgt := 487) hx hb dL_hangs_95 (by decide) ?_
        refine J487 _ _ _ ?_ ?_
        · exact hH
        · rw [show (zLg (g 0) (i + 1) : Int32) = zLg (g 0) i from by exact zLg_x (fO_x hkk), show ((fO (g 0) (i + 1)).1 : Int32) = (fO (g 0) i).1 from by rw [fO_x hkk], show (fS (g 0) (i + 1) : Int32) = fS (g 0) i from by rw [fS, if_pos hkk], show (fP (g 0) (i + 1) : Int32) = fP (g 0) i from by rw [fP, if_pos hkk], show (fK (g 0) (i + 1) : Int32) = fK (g 0) i from by rw [fK, if_pos hkk]]; exact lv_sub hl [3, 0, 4, 5, 6, 7, 8, 9, 10] rfl
      · obtain ⟨hway, -, hmade, hp10, -, -, hguess⟩ := hI.1.2.2.2.1 i (by omega) hkk
        obtain ⟨hw0, hw3, hlohi, h95, h90, h85, hm9⟩ := hang_plan (by omega) hB hI hkk
        have hRb := (hI.1.2.1 (i / 3) (by omega)).1
        have J186 : ∀ (H : Heap) (locs : List Loc) (ls : Array Slot), zH D k a s (g) H locs → lv_has ls 14 [(9, .int (g 0 (13 + 11 * i + 1))), (10, .int (fWhy (g 0) i (nI mm))), (11, .int (g 0 (13 + 11 * i + 4))), (12, .int ((if fChanged (g 0) i = true then 1 else 0))), (8, .int (nI i)), (7, .int 1), (6, .int (zLg (g 0) i)), (5, .int ((fO (g 0) i).1)), (4, .int (fS (g 0) i)), (3, .int (fP (g 0) i)), (2, .int (fK (g 0) i)), (0, .ref (a 6 0)), (1, .int (nI mm))] → W p l e (zRoom 5 107) s m args below meth c H locs 0 0 Q (F0 m 186 ls []) := by
          intro H locs ls hH hl
          have J209 : ∀ (H : Heap) (locs : List Loc) (ls : Array Slot), zH D k a s (g) H locs → lv_has ls 14 [(13, .int ((if fOld (g 0) i = true then 1 else 0))), (9, .int (g 0 (13 + 11 * i + 1))), (10, .int (fWhy (g 0) i (nI mm))), (11, .int (g 0 (13 + 11 * i + 4))), (12, .int ((if fChanged (g 0) i = true then 1 else 0))), (8, .int (nI i)), (7, .int 1), (6, .int (zLg (g 0) i)), (5, .int ((fO (g 0) i).1)), (4, .int (fS (g 0) i)), (3, .int (fP (g 0) i)), (2, .int (fK (g 0) i)), (0, .ref (a 6 0)), (1, .int (nI mm))] → W p l e (zRoom 5 107) s m args below meth c H locs 0 0 Q (F0 m 209 ls []) := by
            intro H locs ls hH hl
            have J236 : ∀ (H : Heap) (locs : List Loc) (ls : Array Slot), zH D k a s (g) H locs → lv_has ls 14 [(9, .int (g 0 (13 + 11 * i + 1))), (10, .int (fWhy (g 0) i (nI mm))), (11, .int (g 0 (13 + 11 * i + 4))), (12, .int ((if fChanged (g 0) i = true then 1 else 0))), (13, .int ((if fOld (g 0) i = true then 1 else 0))), (8, .int (nI i)), (7, .int 1), (6, .int (zLg (g 0) i)), (5, .int ((fO (g 0) i).1)), (4, .int (fS (g 0) (i + 1))), (3, .int (fP (g 0) (i + 1))), (2, .int (fK (g 0) (i + 1))), (0, .ref (a 6 0)), (1, .int (nI mm))] → W p l e (zRoom 5 107) s m args below meth c H locs 0 0 Q (F0 m 236 ls []) := by
              intro H locs ls hH hl
              have J285 : ∀ (H : Heap) (locs : List Loc) (ls : Array Slot), zH D k a s (g) H locs → lv_has ls 14 [(9, .int (g 0 (13 + 11 * i + 1))), (10, .int (fWhy (g 0) i (nI mm))), (11, .int (g 0 (13 + 11 * i + 4))), (12, .int ((if fChanged (g 0) i = true then 1 else 0))), (13, .int ((if fOld (g 0) i = true then 1 else 0))), (8, .int (nI i)), (7, .int 1), (6, .int (zLg (g 0) i)), (5, .int ((fO (g 0) i).1)), (4, .int (fS (g 0) (i + 1))), (3, .int (fP (g 0) (i + 1))), (2, .int (fK (g 0) (i + 1))), (0, .ref (a 6 0)), (1, .int (nI mm))] → W p l e (zRoom 5 107) s m args below meth c H locs 0 0 Q (F0 m 285 ls []) := by
                intro H locs ls hH hl
                have J339 : ∀ (H : Heap) (locs : List Loc) (ls : Array Slot), zH D k a s (g) H locs → lv_has ls 14 [(9, .int (g 0 (13 + 11 * i + 1))), (11, .int (g 0 (13 + 11 * i + 4))), (8, .int (nI i)), (7, .int 1), (6, .int (zLg (g 0) i)), (5, .int ((fO (g 0) i).1)), (4, .int (fS (g 0) (i + 1))), (3, .int (fP (g 0) (i + 1))), (2, .int (fK (g 0) (i + 1))), (0, .ref (a 6 0)), (1, .int (nI mm))] → W p l e (zRoom 5 107) s m args below meth c H locs 0 0 Q (F0 m 339 ls []) := by
                  intro H locs ls hH hl
                  have J442 : ∀ (H : Heap) (locs : List Loc) (ls : Array Slot), zH D k a s (g) H locs → lv_has ls 14 [(8, .int (nI i)), (7, .int 1), (6, .int (zLg (g 0) i)), (5, .int ((fO (g 0) i).1)), (4, .int (fS (g 0) (i + 1))), (3, .int (fP (g 0) (i + 1))), (2, .int (fK (g 0) (i + 1))), (0, .ref (a 6 0)), (1, .int (nI mm))] → W p l e (zRoom 5 107) s m args below meth c H locs 0 0 Q (F0 m 442 ls []) := by
                    intro H locs ls hH hl
                    refine lv_iconst (v := 1) hx hb dL_hangs_442 (by decide) ?_
                    refine lv_goto (tgt := 447) hx hb dL_hangs_443 (by decide) ?_
                    refine lv_istore (lv' := [(7, .int 1), (8, .int (nI i)), (6, .int (zLg (g 0) i)), (5, .int ((fO (g 0) i).1)), (4, .int (fS (g 0) (i + 1))), (3, .int (fP (g 0) (i + 1))), (2, .int (fK (g 0) (i + 1))), (0, .ref (a 6 0)), (1, .int (nI mm))]) hx hb dL_hangs_447 hl (by decide) rfl (fun ls hl => ?_)
                    refine lv_aload_n hx hb dL_hangs_449 rfl (lv_at hl 7 rfl) ?_
                    refine lv_iload hx hb dL_hangs_450 (lv_at hl 1 rfl) ?_
                    refine lv_bipush (v := 7) hx hb dL_hangs_452 (by decide) ?_
                    refine z_callVi X hH (c_X5_plan l D k a g hf (nI i) 7) k_L_34 (rv_X5 X hH) [] rfl rfl hl.1 (Nat.le_of_ble_eq_true rfl) ⟨Nat.le_of_ble_eq_true rfl, Nat.le_of_ble_eq_true rfl⟩ ⟨Nat.le_refl _, Nat.le_refl _⟩ dL_hangs_454 (fun r94 g95 H locs h96 hH => ?_)
                    rw [h96.2] at hH
                    rw [h96.1, kp7 (by omega) hkk]
                    refine lv_if_ne (tgt := 487) hx hb dL_hangs_457 (by decide) (fun c97 => ?_) (fun c97 => ?_)
                    · refine J487 _ _ _ ?_ ?_
                      · exact hH
                      · rw [show (zLg (g 0) (i + 1) : Int32) = zLg (g 0) i from by exact zLg_x (fO_p hkk c97), show ((fO (g 0) (i + 1)).1 : Int32) = (fO (g 0) i).1 from by rw [fO_p hkk c97]]; exact lv_sub hl [1, 0, 2, 3, 4, 5, 6, 7, 8] rfl
                    · refine lv_aload_n hx hb dL_hangs_460 rfl (lv_at hl 7 rfl) ?_
                      refine lv_iload hx hb dL_hangs_461 (lv_at hl 1 rfl) ?_
                      refine lv_bipush (v := 9) hx hb dL_hangs_463 (by decide) ?_
                      refine z_callVi X hH (c_X5_plan l D k a g hf (nI i) 9) k_L_34 (rv_X5 X hH) [] rfl rfl hl.1 (Nat.le_of_ble_eq_true rfl) ⟨Nat.le_of_ble_eq_true rfl, Nat.le_of_ble_eq_true rfl⟩ ⟨Nat.le_refl _, Nat.le_refl _⟩ dL_hangs_465 (fun r98 g99 H locs h100 hH => ?_)
                      rw [h100.2] at hH
                      rw [h100.1, kp9 (by omega) hkk]
                      refine lv_iload hx hb dL_hangs_468 (lv_at hl 2 rfl) ?_
                      refine i_icmp_le (tgt := 487) hx hb dL_hangs_470 (by decide) (fun c101 => ?_) (fun c101 => ?_)
                      · refine J487 _ _ _ ?_ ?_
                        · exact hH
                        · rw [show (zLg (g 0) (i + 1) : Int32) = zLg (g 0) i from by exact zLg_x (fO_z (by omega) hB hI hkk c101), show ((fO (g 0) (i + 1)).1 : Int32) = (fO (g 0) i).1 from by rw [fO_z (by omega) hB hI hkk c101]]; exact lv_sub hl [1, 0, 2, 3, 4, 5, 6, 7, 8] rfl
                      · refine lv_iload hx hb dL_hangs_473 (lv_at hl 1 rfl) ?_
                        refine lv_istore (lv' := [(5, .int (nI i)), (7, .int 1), (8, .int (nI i)), (6, .int (zLg (g 0) i)), (4, .int (fS (g 0) (i + 1))), (3, .int (fP (g 0) (i + 1))), (2, .int (fK (g 0) (i + 1))), (0, .ref (a 6 0)), (1, .int (nI mm))]) hx hb dL_hangs_475 hl (by decide) rfl (fun ls hl => ?_)
                        refine lv_aload_n hx hb dL_hangs_477 rfl (lv_at hl 7 rfl) ?_
                        refine lv_iload hx hb dL_hangs_478 (lv_at hl 2 rfl) ?_
                        refine lv_bipush (v := 9) hx hb dL_hangs_480 (by decide) ?_
                        refine z_callVi X hH (c_X5_plan l D k a g hf (nI i) 9) k_L_34 (rv_X5 X hH) [] rfl rfl hl.1 (Nat.le_of_ble_eq_true rfl) ⟨Nat.le_of_ble_eq_true rfl, Nat.le_of_ble_eq_true rfl⟩ ⟨Nat.le_refl _, Nat.le_refl _⟩ dL_hangs_482 (fun r102 g103 H locs h104 hH => ?_)
                        rw [h104.2] at hH
                        rw [h104.1, kp9 (by omega) hkk]
                        refine lv_istore (lv' := [(6, .int (g 0 145 - g 0 (13 + 11 * i + 7))), (5, .int (nI i)), (7, .int 1), (8, .int (nI i)), (4, .int (fS (g 0) (i + 1))), (3, .int (fP (g 0) (i + 1))), (2, .int (fK (g 0) (i + 1))), (0, .ref (a 6 0)), (1, .int (nI mm))]) hx hb dL_hangs_485 hl (by decide) rfl (fun ls hl => ?_)
                        refine J487 _ _ _ ?_ ?_
                        · exact hH
                        · rw [show (zLg (g 0) (i + 1) : Int32) = g 0 145 - g 0 (13 + 11 * i + 7) from by exact (fO_y (by omega) hB hI hkk c97 c101).2, show ((fO (g 0) (i + 1)).1 : Int32) = nI i from by exact (fO_y (by omega) hB hI hkk c97 c101).1]; exact lv_sub hl [3, 2, 0, 1, 4, 5, 6, 7, 8] rfl
                  refine lv_aload_n hx hb dL_hangs_339 rfl (lv_at hl 9 rfl) ?_
                  refine lv_iload hx hb dL_hangs_340 (lv_at hl 2 rfl) ?_
                  refine lv_bipush (v := 9) hx hb dL_hangs_342 (by decide) ?_
                  refine z_callVi X hH (c_X5_plan l D k a g hf (nI i) 9) k_L_34 (rv_X5 X hH) [] rfl rfl hl.1 (Nat.le_of_ble_eq_true rfl) ⟨Nat.le_of_ble_eq_true rfl, Nat.le_of_ble_eq_true rfl⟩ ⟨Nat.le_refl _, Nat.le_refl _⟩ dL_hangs_344 (fun r105 g106 H locs h107 hH => ?_)
                  rw [h107.2] at hH
                  rw [h107.1, kp9 (by omega) hkk]
                  refine lv_aload_n hx hb dL_hangs_347 rfl (lv_at hl 9 rfl) ?_
                  refine lv_iload hx hb dL_hangs_348 (lv_at hl 2 rfl) ?_
                  refine lv_iconst (v := 5) hx hb dL_hangs_350 (by decide) ?_
                  refine z_callVi X hH (c_X5_plan l D k a g hf (nI i) 5) k_L_34 (rv_X5 X hH) [.int (g 0 145 - g 0 (13 + 11 * i + 7))] rfl rfl hl.1 (Nat.le_of_ble_eq_true rfl) ⟨Nat.le_of_ble_eq_true rfl, Nat.le_of_ble_eq_true rfl⟩ ⟨Nat.le_refl _, Nat.le_refl _⟩ dL_hangs_351 (fun r108 g109 H locs h110 hH => ?_)
                  rw [h110.2] at hH
                  rw [h110.1, kp5 (by omega) hkk]
                  refine i_icmp_gt (tgt := 446) hx hb dL_hangs_354 (by decide) (fun q => absurd q h95) (fun c111 => ?_)
                  refine lv_aload_n hx hb dL_hangs_357 rfl (lv_at hl 9 rfl) ?_
                  refine lv_iload hx hb dL_hangs_358 (lv_at hl 2 rfl) ?_
                  refine lv_bipush (v := 9) hx hb dL_hangs_360 (by decide) ?_
                  refine z_callVi X hH (c_X5_plan l D k a g hf (nI i) 9) k_L_34 (rv_X5 X hH) [] rfl rfl hl.1 (Nat.le_of_ble_eq_true rfl) ⟨Nat.le_of_ble_eq_true rfl, Nat.le_of_ble_eq_true rfl⟩ ⟨Nat.le_refl _, Nat.le_refl _⟩ dL_hangs_362 (fun r112 g113 H locs h114 hH => ?_)
                  rw [h114.2] at hH
                  rw [h114.1, kp9 (by omega) hkk]
                  refine i_if_lt (tgt := 446) hx hb dL_hangs_365 (by decide) (fun q => absurd q h90) (fun c115 => ?_)
                  refine lv_aload_n hx hb dL_hangs_368 rfl (lv_at hl 9 rfl) ?_
                  refine lv_iload hx hb dL_hangs_369 (lv_at hl 2 rfl) ?_
                  refine lv_bipush (v := 8) hx hb dL_hangs_371 (by decide) ?_
                  refine z_callVi X hH (c_X5_plan l D k a g hf (nI i) 8) k_L_34 (rv_X5 X hH) [] rfl rfl hl.1 (Nat.le_of_ble_eq_true rfl) ⟨Nat.le_of_ble_eq_true rfl, Nat.le_of_ble_eq_true rfl⟩ ⟨Nat.le_refl _, Nat.le_refl _⟩ dL_hangs_373 (fun r116 g117 H locs h118 hH => ?_)
                  rw [h118.2] at hH
                  rw [h118.1, kp8 (by omega) hkk]
                  refine lv_aload_n hx hb dL_hangs_376 rfl (lv_at hl 9 rfl) ?_
                  refine lv_iload hx hb dL_hangs_377 (lv_at hl 2 rfl) ?_
                  refine lv_iconst (v := 5) hx hb dL_hangs_379 (by decide) ?_
                  refine z_callVi X hH (c_X5_plan l D k a g hf (nI i) 5) k_L_34 (rv_X5 X hH) [.int (g 0 (13 + 11 * i + 9))] rfl rfl hl.1 (Nat.le_of_ble_eq_true rfl) ⟨Nat.le_of_ble_eq_true rfl, Nat.le_of_ble_eq_true rfl⟩ ⟨Nat.le_refl _, Nat.le_refl _⟩ dL_hangs_380 (fun r119 g120 H locs h121 hH => ?_)
                  rw [h121.2] at hH
                  rw [h121.1, kp5 (by omega) hkk]
                  refine i_icmp_gt (tgt := 446) hx hb dL_hangs_383 (by decide) (fun q => absurd q h85) (fun c122 => ?_)
                  refine lv_iload hx hb dL_hangs_386 (lv_at hl 1 rfl) ?_
                  refine lv_sipush (v := 9999) hx hb dL_hangs_388 (by decide) ?_
                  refine i_icmp_gt (tgt := 446) hx hb dL_hangs_391 (by decide) (fun q => absurd q hm9) (fun c123 => ?_)
                  refine lv_aload_n hx hb dL_hangs_394 rfl (lv_at hl 9 rfl) ?_
                  refine lv_iload hx hb dL_hangs_395 (lv_at hl 2 rfl) ?_
                  refine lv_iconst (v := 3) hx hb dL_hangs_397 (by decide) ?_
                  refine n_idiv (A := i) (B := 3) hx hb (i / 3) rfl (by omega) (by omega) (by omega) dL_hangs_398 ?_
                  refine lv_iconst (v := 0) hx hb dL_hangs_399 (by decide) ?_
                  refine z_callVi X hH (c_X5_tableOf l D k a g (nI (i / 3)) 0) k_L_40 (rv_X5 X hH) [] rfl rfl hl.1 (Nat.le_of_ble_eq_true rfl) ⟨Nat.le_of_ble_eq_true rfl, Nat.le_of_ble_eq_true rfl⟩ ⟨Nat.le_refl _, Nat.le_refl _⟩ dL_hangs_400 (fun r124 g125 H locs h126 hH => ?_)
                  rw [h126.2] at hH
                  rw [h126.1, kto0 (by omega)]
                  refine lv_aload_n hx hb dL_hangs_403 rfl (lv_at hl 9 rfl) ?_
                  refine lv_iload hx hb dL_hangs_404 (lv_at hl 2 rfl) ?_
                  refine lv_bipush (v := 10) hx hb dL_hangs_406 (by decide) ?_
                  refine z_callVi X hH (c_X5_plan l D k a g hf (nI i) 10) k_L_34 (rv_X5 X hH) [.int (g 0 ((i / 3)))] rfl rfl hl.1 (Nat.le_of_ble_eq_true rfl) ⟨Nat.le_of_ble_eq_true rfl, Nat.le_of_ble_eq_true rfl⟩ ⟨Nat.le_refl _, Nat.le_refl _⟩ dL_hangs_408 (fun r127 g128 H locs h129 hH => ?_)
                  rw [h129.2] at hH
                  rw [h129.1, kp10 (by omega) hkk]
                  refine lv_icmp_ne (tgt := 442) hx hb dL_hangs_411 (by decide) (fun c130 => ?_) (fun c130 => ?_)
                  · refine J442 _ _ _ ?_ ?_
                    · exact hH
                    · exact lv_sub hl [2, 3, 4, 5, 6, 7, 8, 9, 10] rfl
                  · refine lv_iload hx hb dL_hangs_414 (lv_at hl 2 rfl) ?_
                    refine lv_iconst (v := 3) hx hb dL_hangs_416 (by decide) ?_
                    refine n_irem (A := i) (B := 3) hx hb (i % 3) rfl (by omega) (by omega) (by omega) dL_hangs_417 ?_
                    refine lv_iconst (v := 1) hx hb dL_hangs_418 (by decide) ?_
                    refine n_icmp_eq (A := i % 3) (B := 1) (tgt := 442) hx hb (by omega) (by omega) dL_hangs_419 (by decide) (fun c131 => ?_) (fun c131 => ?_)
                    · refine J442 _ _ _ ?_ ?_
                      · exact hH
                      · exact lv_sub hl [2, 3, 4, 5, 6, 7, 8, 9, 10] rfl
                    · refine lv_aload_n hx hb dL_hangs_422 rfl (lv_at hl 9 rfl) ?_
                      refine lv_iload hx hb dL_hangs_423 (lv_at hl 2 rfl) ?_
                      refine lv_iconst (v := 4) hx hb dL_hangs_425 (by decide) ?_
                      refine z_callVi X hH (c_X5_plan l D k a g hf (nI i) 4) k_L_34 (rv_X5 X hH) [] rfl rfl hl.1 (Nat.le_of_ble_eq_true rfl) ⟨Nat.le_of_ble_eq_true rfl, Nat.le_of_ble_eq_true rfl⟩ ⟨Nat.le_refl _, Nat.le_refl _⟩ dL_hangs_426 (fun r132 g133 H locs h134 hH => ?_)
                      rw [h134.2] at hH
                      rw [h134.1, kp4 (by omega) hkk]
                      refine lv_aload_n hx hb dL_hangs_429 rfl (lv_at hl 9 rfl) ?_
                      refine lv_iload hx hb dL_hangs_430 (lv_at hl 2 rfl) ?_
                      refine lv_iload hx hb dL_hangs_432 (lv_at hl 0 rfl) ?_
                      refine lv_iload hx hb dL_hangs_434 (lv_at hl 1 rfl) ?_
                      refine z_callVi X hH (c_X5_cost l D k a g (nI i) (g 0 (13 + 11 * i + 1)) (g 0 (13 + 11 * i + 4))) k_L_46 (rv_X5 X hH) [.int (g 0 (13 + 11 * i + 5))] rfl rfl hl.1 (Nat.le_of_ble_eq_true rfl) ⟨Nat.le_of_ble_eq_true rfl, Nat.le_of_ble_eq_true rfl⟩ ⟨Nat.le_refl _, Nat.le_refl _⟩ dL_hangs_436 (fun r135 g136 H locs h137 hH => ?_)
                      rw [h137.2] at hH
                      rw [h137.1, kco (by omega) (okW_w hway) (okN_i hmade.1 hmade.2)]
                      refine lv_icmp_ne (tgt := 446) hx hb dL_hangs_439 (by decide) (fun q => absurd (hguess c131 (g 0) c130) q) (fun c138 => ?_)
                      refine J442 _ _ _ ?_ ?_
                      · exact hH
                      · exact lv_sub hl [2, 3, 4, 5, 6, 7, 8, 9, 10] rfl
                refine lv_iload hx hb dL_hangs_285 (lv_at hl 1 rfl) ?_
                refine lv_iload_n hx hb dL_hangs_287 rfl (lv_at hl 13 rfl) ?_
                refine lv_aload_n hx hb dL_hangs_288 rfl (lv_at hl 12 rfl) ?_
                refine lv_iload hx hb dL_hangs_289 (lv_at hl 5 rfl) ?_
                refine lv_iconst (v := 1) hx hb dL_hangs_291 (by decide) ?_
                refine z_callVi X hH (c_X5_plan l D k a g hf (nI i) 1) k_L_34 (rv_X5 X hH) [.int (nI mm), .int (fWhy (g 0) i (nI mm))] rfl rfl hl.1 (Nat.le_of_ble_eq_true rfl) ⟨Nat.le_of_ble_eq_true rfl, Nat.le_of_ble_eq_true rfl⟩ ⟨Nat.le_refl _, Nat.le_refl _⟩ dL_hangs_292 (fun r139 g140 H locs h141 hH => ?_)
                rw [h141.2] at hH
                rw [h141.1, kp1 (by omega) hkk]
                refine i_icmp_ge (tgt := 302) hx hb dL_hangs_295 (by decide) (fun c142 => ?_) (fun c142 => ?_)
                · refine lv_iload_n hx hb dL_hangs_302 rfl (lv_at hl 13 rfl) ?_
                  refine lv_aload_n hx hb dL_hangs_303 rfl (lv_at hl 12 rfl) ?_
                  refine lv_iload hx hb dL_hangs_304 (lv_at hl 5 rfl) ?_
                  refine lv_iconst (v := 2) hx hb dL_hangs_306 (by decide) ?_
                  refine z_callVi X hH (c_X5_plan l D k a g hf (nI i) 2) k_L_34 (rv_X5 X hH) [.int (nI mm), .int (fWhy (g 0) i (nI mm))] rfl rfl hl.1 (Nat.le_of_ble_eq_true rfl) ⟨Nat.le_of_ble_eq_true rfl, Nat.le_of_ble_eq_true rfl⟩ ⟨Nat.le_refl _, Nat.le_refl _⟩ dL_hangs_307 (fun r143 g144 H locs h145 hH => ?_)
                  rw [h145.2] at hH
                  rw [h145.1, kp2 (by omega) hkk]
                  refine i_icmp_le (tgt := 317) hx hb dL_hangs_310 (by decide) (fun c146 => ?_) (fun c146 => ?_)
                  · refine lv_iload hx hb dL_hangs_317 (lv_at hl 3 rfl) ?_
                    refine b_ifeq (P := fChanged (g 0) i = true) (tgt := 326) hx hb dL_hangs_319 (by decide) (fun c147 => ?_) (fun c147 => ?_)
                    · refine lv_iload hx hb dL_hangs_326 (lv_at hl 4 rfl) ?_
                      refine b_ifeq (P := fOld (g 0) i = true) (tgt := 335) hx hb dL_hangs_328 (by decide) (fun c148 => ?_) (fun c148 => ?_)
                      · refine lv_iconst (v := 0) hx hb dL_hangs_335 (by decide) ?_
                        refine lv_icmp_ne (tgt := 446) hx hb dL_hangs_336 (by decide) (fun q => absurd (by rw [fWhy, if_neg hkk, if_neg c142, if_neg c146, if_neg c147, if_neg c148]) q) (fun c149 => ?_)
                        refine J339 _ _ _ ?_ ?_
                        · exact hH
                        · exact lv_sub hl [0, 2, 5, 6, 7, 8, 9, 10, 11, 12, 13] rfl
                      · refine lv_iconst (v := 5) hx hb dL_hangs_331 (by decide) ?_
                        refine lv_goto (tgt := 336) hx hb dL_hangs_332 (by decide) ?_
                        refine lv_icmp_ne (tgt := 446) hx hb dL_hangs_336 (by decide) (fun q => absurd (by rw [fWhy, if_neg hkk, if_neg c142, if_neg c146, if_neg c147, if_pos c148]) q) (fun c150 => ?_)
                        refine J339 _ _ _ ?_ ?_
                        · exact hH
                        · exact lv_sub hl [0, 2, 5, 6, 7, 8, 9, 10, 11, 12, 13] rfl
                    · refine lv_iconst (v := 4) hx hb dL_hangs_322 (by decide) ?_
                      refine lv_goto (tgt := 336) hx hb dL_hangs_323 (by decide) ?_
                      refine lv_icmp_ne (tgt := 446) hx hb dL_hangs_336 (by decide) (fun q => absurd (by rw [fWhy, if_neg hkk, if_neg c142, if_neg c146, if_pos c147]) q) (fun c151 => ?_)
                      refine J339 _ _ _ ?_ ?_
                      · exact hH
                      · exact lv_sub hl [0, 2, 5, 6, 7, 8, 9, 10, 11, 12, 13] rfl
                  · refine lv_iconst (v := 3) hx hb dL_hangs_313 (by decide) ?_
                    refine lv_goto (tgt := 336) hx hb dL_hangs_314 (by decide) ?_
                    refine lv_icmp_ne (tgt := 446) hx hb dL_hangs_336 (by decide) (fun q => absurd (by rw [fWhy, if_neg hkk, if_neg c142, if_pos c146]) q) (fun c152 => ?_)
                    refine J339 _ _ _ ?_ ?_
                    · exact hH
                    · exact lv_sub hl [0, 2, 5, 6, 7, 8, 9, 10, 11, 12, 13] rfl
                · refine lv_iconst (v := 2) hx hb dL_hangs_298 (by decide) ?_
                  refine lv_goto (tgt := 336) hx hb dL_hangs_299 (by decide) ?_
                  refine lv_icmp_ne (tgt := 446) hx hb dL_hangs_336 (by decide) (fun q => absurd (by rw [fWhy, if_neg hkk, if_pos c142]) q) (fun c153 => ?_)
                  refine J339 _ _ _ ?_ ?_
                  · exact hH
                  · exact lv_sub hl [0, 2, 5, 6, 7, 8, 9, 10, 11, 12, 13] rfl
              refine lv_iload hx hb dL_hangs_236 (lv_at hl 0 rfl) ?_
              refine lv_iconst (v := 3) hx hb dL_hangs_238 (by decide) ?_
              refine i_icmp_ge (tgt := 446) hx hb dL_hangs_239 (by decide) (fun q => absurd hw3 q) (fun c154 => ?_)
              refine lv_aload_n hx hb dL_hangs_242 rfl (lv_at hl 12 rfl) ?_
              refine lv_iload hx hb dL_hangs_243 (lv_at hl 5 rfl) ?_
              refine lv_iconst (v := 1) hx hb dL_hangs_245 (by decide) ?_
              refine z_callVi X hH (c_X5_plan l D k a g hf (nI i) 1) k_L_34 (rv_X5 X hH) [] rfl rfl hl.1 (Nat.le_of_ble_eq_true rfl) ⟨Nat.le_of_ble_eq_true rfl, Nat.le_of_ble_eq_true rfl⟩ ⟨Nat.le_refl _, Nat.le_refl _⟩ dL_hangs_246 (fun r155 g156 H locs h157 hH => ?_)
              rw [h157.2] at hH
              rw [h157.1, kp1 (by omega) hkk]
              refine lv_aload_n hx hb dL_hangs_249 rfl (lv_at hl 12 rfl) ?_
              refine lv_iload hx hb dL_hangs_250 (lv_at hl 5 rfl) ?_
              refine lv_iconst (v := 2) hx hb dL_hangs_252 (by decide) ?_
              refine z_callVi X hH (c_X5_plan l D k a g hf (nI i) 2) k_L_34 (rv_X5 X hH) [.int (g 0 (13 + 11 * i + 2))] rfl rfl hl.1 (Nat.le_of_ble_eq_true rfl) ⟨Nat.le_of_ble_eq_true rfl, Nat.le_of_ble_eq_true rfl⟩ ⟨Nat.le_refl _, Nat.le_refl _⟩ dL_hangs_253 (fun r158 g159 H locs h160 hH => ?_)
              rw [h160.2] at hH
              rw [h160.1, kp2 (by omega) hkk]
              refine i_icmp_gt (tgt := 446) hx hb dL_hangs_256 (by decide) (fun q => absurd q hlohi) (fun c161 => ?_)
              refine lv_aload_n hx hb dL_hangs_259 rfl (lv_at hl 12 rfl) ?_
              refine lv_iload hx hb dL_hangs_260 (lv_at hl 5 rfl) ?_
              refine lv_bipush (v := 6) hx hb dL_hangs_262 (by decide) ?_
              refine z_callVi X hH (c_X5_plan l D k a g hf (nI i) 6) k_L_34 (rv_X5 X hH) [] rfl rfl hl.1 (Nat.le_of_ble_eq_true rfl) ⟨Nat.le_of_ble_eq_true rfl, Nat.le_of_ble_eq_true rfl⟩ ⟨Nat.le_refl _, Nat.le_refl _⟩ dL_hangs_264 (fun r162 g163 H locs h164 hH => ?_)
              rw [h164.2] at hH
              rw [h164.1, kp6 (by omega) hkk]
              refine lv_iload hx hb dL_hangs_267 (lv_at hl 3 rfl) ?_
              refine b_ifne (P := fChanged (g 0) i = true) (tgt := 277) hx hb dL_hangs_269 (by decide) (fun c165 => ?_) (fun c165 => ?_)
              · refine lv_iconst (v := 1) hx hb dL_hangs_277 (by decide) ?_
                refine lv_goto (tgt := 282) hx hb dL_hangs_278 (by decide) ?_
                refine lv_icmp_ne (tgt := 446) hx hb dL_hangs_282 (by decide) (fun q => absurd (if_pos (Or.inl c165)) q) (fun c166 => ?_)
                refine J285 _ _ _ ?_ ?_
                · exact hH
                · exact lv_sub hl [0, 1, 2, 3, 4, 5, 6, 7, 8, 9, 10, 11, 12, 13] rfl
              · refine lv_iload hx hb dL_hangs_272 (lv_at hl 4 rfl) ?_
                refine b_ifeq (P := fOld (g 0) i = true) (tgt := 281) hx hb dL_hangs_274 (by decide) (fun c167 => ?_) (fun c167 => ?_)
                · refine lv_iconst (v := 0) hx hb dL_hangs_281 (by decide) ?_
                  refine lv_icmp_ne (tgt := 446) hx hb dL_hangs_282 (by decide) (fun q => absurd (if_neg (fun w => w.elim c165 c167)) q) (fun c168 => ?_)
                  refine J285 _ _ _ ?_ ?_
                  · exact hH
                  · exact lv_sub hl [0, 1, 2, 3, 4, 5, 6, 7, 8, 9, 10, 11, 12, 13] rfl
                · refine lv_iconst (v := 1) hx hb dL_hangs_277 (by decide) ?_
                  refine lv_goto (tgt := 282) hx hb dL_hangs_278 (by decide) ?_
                  refine lv_icmp_ne (tgt := 446) hx hb dL_hangs_282 (by decide) (fun q => absurd (if_pos (Or.inr c167)) q) (fun c169 => ?_)
                  refine J285 _ _ _ ?_ ?_
                  · exact hH
                  · exact lv_sub hl [0, 1, 2, 3, 4, 5, 6, 7, 8, 9, 10, 11, 12, 13] rfl
            refine lv_iinc (v := (fK (g 0) i) + 1) (lv' := [(2, .int ((fK (g 0) i) + 1)), (13, .int ((if fOld (g 0) i = true then 1 else 0))), (9, .int (g 0 (13 + 11 * i + 1))), (10, .int (fWhy (g 0) i (nI mm))), (11, .int (g 0 (13 + 11 * i + 4))), (12, .int ((if fChanged (g 0) i = true then 1 else 0))), (8, .int (nI i)), (7, .int 1), (6, .int (zLg (g 0) i)), (5, .int ((fO (g 0) i).1)), (4, .int (fS (g 0) i)), (3, .int (fP (g 0) i)), (0, .ref (a 6 0)), (1, .int (nI mm))]) hx hb dL_hangs_209 hl (k := 11) rfl (z_incI _) (by decide) rfl (fun ls hl => ?_)
            refine lv_iload_n hx hb dL_hangs_212 rfl (lv_at hl 11 rfl) ?_
            refine lv_aload_n hx hb dL_hangs_213 rfl (lv_at hl 12 rfl) ?_
            refine lv_iload hx hb dL_hangs_214 (lv_at hl 6 rfl) ?_
            refine lv_bipush (v := 7) hx hb dL_hangs_216 (by decide) ?_
            refine z_callVi X hH (c_X5_plan l D k a g hf (nI i) 7) k_L_34 (rv_X5 X hH) [.int (fP (g 0) i)] rfl rfl hl.1 (Nat.le_of_ble_eq_true rfl) ⟨Nat.le_of_ble_eq_true rfl, Nat.le_of_ble_eq_true rfl⟩ ⟨Nat.le_refl _, Nat.le_refl _⟩ dL_hangs_218 (fun r170 g171 H locs h172 hH => ?_)
            rw [h172.2] at hH
            rw [h172.1, kp7 (by omega) hkk]
            refine lv_iadd hx hb dL_hangs_221 ?_
            refine lv_istore_n (lv' := [(3, .int ((fP (g 0) i) + (g 0 (13 + 11 * i + 8)))), (2, .int ((fK (g 0) i) + 1)), (13, .int ((if fOld (g 0) i = true then 1 else 0))), (9, .int (g 0 (13 + 11 * i + 1))), (10, .int (fWhy (g 0) i (nI mm))), (11, .int (g 0 (13 + 11 * i + 4))), (12, .int ((if fChanged (g 0) i = true then 1 else 0))), (8, .int (nI i)), (7, .int 1), (6, .int (zLg (g 0) i)), (5, .int ((fO (g 0) i).1)), (4, .int (fS (g 0) i)), (0, .ref (a 6 0)), (1, .int (nI mm))]) hx hb dL_hangs_222 rfl hl (by decide) rfl (fun ls hl => ?_)
            refine lv_iload hx hb dL_hangs_223 (lv_at hl 11 rfl) ?_
            refine lv_aload_n hx hb dL_hangs_225 rfl (lv_at hl 12 rfl) ?_
            refine lv_iload hx hb dL_hangs_226 (lv_at hl 7 rfl) ?_
            refine lv_bipush (v := 6) hx hb dL_hangs_228 (by decide) ?_
            refine z_callVi X hH (c_X5_plan l D k a g hf (nI i) 6) k_L_34 (rv_X5 X hH) [.int (fS (g 0) i)] rfl rfl hl.1 (Nat.le_of_ble_eq_true rfl) ⟨Nat.le_of_ble_eq_true rfl, Nat.le_of_ble_eq_true rfl⟩ ⟨Nat.le_refl _, Nat.le_refl _⟩ dL_hangs_230 (fun r173 g174 H locs h175 hH => ?_)
            rw [h175.2] at hH
            rw [h175.1, kp6 (by omega) hkk]
            refine lv_iadd hx hb dL_hangs_233 ?_
            refine lv_istore (lv' := [(4, .int ((fS (g 0) i) + (if fChanged (g 0) i = true ∨ fOld (g 0) i = true then 1 else 0))), (3, .int ((fP (g 0) i) + (g 0 (13 + 11 * i + 8)))), (2, .int ((fK (g 0) i) + 1)), (13, .int ((if fOld (g 0) i = true then 1 else 0))), (9, .int (g 0 (13 + 11 * i + 1))), (10, .int (fWhy (g 0) i (nI mm))), (11, .int (g 0 (13 + 11 * i + 4))), (12, .int ((if fChanged (g 0) i = true then 1 else 0))), (8, .int (nI i)), (7, .int 1), (6, .int (zLg (g 0) i)), (5, .int ((fO (g 0) i).1)), (0, .ref (a 6 0)), (1, .int (nI mm))]) hx hb dL_hangs_234 hl (by decide) rfl (fun ls hl => ?_)
            refine J236 _ _ _ ?_ ?_
            · exact hH
            · rw [show (fS (g 0) (i + 1) : Int32) = (fS (g 0) i) + (if fChanged (g 0) i = true ∨ fOld (g 0) i = true then 1 else 0) from by exact fS_k hkk, show (fP (g 0) (i + 1) : Int32) = (fP (g 0) i) + (g 0 (13 + 11 * i + 8)) from by exact fP_k hkk (hI.1.1 i (by omega)).2, show (fK (g 0) (i + 1) : Int32) = (fK (g 0) i) + 1 from by rw [fK, if_neg hkk]]; exact lv_sub hl [4, 5, 6, 7, 3, 8, 9, 10, 11, 0, 1, 2, 12, 13] rfl
          refine lv_aload_n hx hb dL_hangs_186 rfl (lv_at hl 11 rfl) ?_
          refine lv_iload hx hb dL_hangs_187 (lv_at hl 4 rfl) ?_
          refine lv_iconst (v := 5) hx hb dL_hangs_189 (by decide) ?_
          refine z_callVi X hH (c_X5_plan l D k a g hf (nI i) 5) k_L_34 (rv_X5 X hH) [] rfl rfl hl.1 (Nat.le_of_ble_eq_true rfl) ⟨Nat.le_of_ble_eq_true rfl, Nat.le_of_ble_eq_true rfl⟩ ⟨Nat.le_refl _, Nat.le_refl _⟩ dL_hangs_190 (fun r176 g177 H locs h178 hH => ?_)
          rw [h178.2] at hH
          rw [h178.1, kp5 (by omega) hkk]
          refine lv_aload_n hx hb dL_hangs_193 rfl (lv_at hl 11 rfl) ?_
          refine lv_bipush (v := 12) hx hb dL_hangs_194 (by decide) ?_
          refine z_callVi X hH (c_X5_count l D k a g 12) k_L_43 (rv_X5 X hH) [.int (g 0 145 - g 0 (13 + 11 * i + 6))] rfl rfl hl.1 (Nat.le_of_ble_eq_true rfl) ⟨Nat.le_of_ble_eq_true rfl, Nat.le_of_ble_eq_true rfl⟩ ⟨Nat.le_refl _, Nat.le_refl _⟩ dL_hangs_196 (fun r179 g180 H locs h181 hH => ?_)
          rw [h181.2] at hH
          rw [h181.1, kcn12]
          refine i_icmp_le (tgt := 206) hx hb dL_hangs_199 (by decide) (fun c182 => ?_) (fun c182 => ?_)
          · refine lv_iconst (v := 0) hx hb dL_hangs_206 (by decide) ?_
            refine lv_istore (lv' := [(13, .int 0), (9, .int (g 0 (13 + 11 * i + 1))), (10, .int (fWhy (g 0) i (nI mm))), (11, .int (g 0 (13 + 11 * i + 4))), (12, .int ((if fChanged (g 0) i = true then 1 else 0))), (8, .int (nI i)), (7, .int 1), (6, .int (zLg (g 0) i)), (5, .int ((fO (g 0) i).1)), (4, .int (fS (g 0) i)), (3, .int (fP (g 0) i)), (2, .int (fK (g 0) i)), (0, .ref (a 6 0)), (1, .int (nI mm))]) hx hb dL_hangs_207 hl (by decide) rfl (fun ls hl => ?_)
            refine J209 _ _ _ ?_ ?_
            · exact hH
            · rw [show ((if fOld (g 0) i = true then 1 else 0) : Int32) = 0 from by rw [if_neg (fun q => c182 (fOld_iff.mp q))]]; exact lv_sub hl [0, 1, 2, 3, 4, 5, 6, 7, 8, 9, 10, 11, 12, 13] rfl
          · refine lv_iconst (v := 1) hx hb dL_hangs_202 (by decide) ?_
            refine lv_goto (tgt := 207) hx hb dL_hangs_203 (by decide) ?_
            refine lv_istore (lv' := [(13, .int 1), (9, .int (g 0 (13 + 11 * i + 1))), (10, .int (fWhy (g 0) i (nI mm))), (11, .int (g 0 (13 + 11 * i + 4))), (12, .int ((if fChanged (g 0) i = true then 1 else 0))), (8, .int (nI i)), (7, .int 1), (6, .int (zLg (g 0) i)), (5, .int ((fO (g 0) i).1)), (4, .int (fS (g 0) i)), (3, .int (fP (g 0) i)), (2, .int (fK (g 0) i)), (0, .ref (a 6 0)), (1, .int (nI mm))]) hx hb dL_hangs_207 hl (by decide) rfl (fun ls hl => ?_)
            refine J209 _ _ _ ?_ ?_
            · exact hH
            · rw [show ((if fOld (g 0) i = true then 1 else 0) : Int32) = 1 from by rw [if_pos (fOld_iff.mpr c182)]]; exact lv_sub hl [0, 1, 2, 3, 4, 5, 6, 7, 8, 9, 10, 11, 12, 13] rfl
        refine lv_aload_n hx hb dL_hangs_32 rfl (lv_at hl 7 rfl) ?_
        refine lv_iload hx hb dL_hangs_33 (lv_at hl 0 rfl) ?_
        refine lv_iconst (v := 0) hx hb dL_hangs_35 (by decide) ?_
        refine z_callVi X hH (c_X5_plan l D k a g hf (nI i) 0) k_L_34 (rv_X5 X hH) [] rfl rfl hl.1 (Nat.le_of_ble_eq_true rfl) ⟨Nat.le_of_ble_eq_true rfl, Nat.le_of_ble_eq_true rfl⟩ ⟨Nat.le_refl _, Nat.le_refl _⟩ dL_hangs_36 (fun r183 g184 H locs h185 hH => ?_)
        rw [h185.2] at hH
        rw [h185.1, kp0 (by omega) hkk]
        refine lv_istore (lv' := [(9, .int (g 0 (13 + 11 * i + 1))), (8, .int (nI i)), (7, .int 1), (6, .int (zLg (g 0) i)), (5, .int ((fO (g 0) i).1)), (4, .int (fS (g 0) i)), (3, .int (fP (g 0) i)), (2, .int (fK (g 0) i)), (0, .ref (a 6 0)), (1, .int (nI mm))]) hx hb dL_hangs_39 hl (by decide) rfl (fun ls hl => ?_)
        refine lv_aload_n hx hb dL_hangs_41 rfl (lv_at hl 8 rfl) ?_
        refine lv_iload hx hb dL_hangs_42 (lv_at hl 1 rfl) ?_
        refine lv_iload_n hx hb dL_hangs_44 rfl (lv_at hl 9 rfl) ?_
        refine z_callVi X hH (c_X5_reason l D k a g (nI i) (nI mm)) k_L_37 (rv_X5 X hH) [] rfl rfl hl.1 (Nat.le_of_ble_eq_true rfl) ⟨Nat.le_of_ble_eq_true rfl, Nat.le_of_ble_eq_true rfl⟩ ⟨Nat.le_refl _, Nat.le_refl _⟩ dL_hangs_45 (fun r186 g187 H locs h188 hH => ?_)
        rw [h188.2] at hH
        rw [h188.1, kre (by omega) (okN_m hm)]
        refine lv_istore (lv' := [(10, .int (fWhy (g 0) i (nI mm))), (9, .int (g 0 (13 + 11 * i + 1))), (8, .int (nI i)), (7, .int 1), (6, .int (zLg (g 0) i)), (5, .int ((fO (g 0) i).1)), (4, .int (fS (g 0) i)), (3, .int (fP (g 0) i)), (2, .int (fK (g 0) i)), (0, .ref (a 6 0)), (1, .int (nI mm))]) hx hb dL_hangs_48 hl (by decide) rfl (fun ls hl => ?_)
        refine lv_iload hx hb dL_hangs_50 (lv_at hl 1 rfl) ?_
        refine i_if_ge (tgt := 98) hx hb dL_hangs_52 (by decide) (fun c189 => ?_) (fun q => absurd q (by exact hw0))
        refine lv_aload_n hx hb dL_hangs_98 rfl (lv_at hl 9 rfl) ?_
        refine lv_iload hx hb dL_hangs_99 (lv_at hl 2 rfl) ?_
        refine lv_iconst (v := 3) hx hb dL_hangs_101 (by decide) ?_
        refine z_callVi X hH (c_X5_plan l D k a g hf (nI i) 3) k_L_34 (rv_X5 X hH) [] rfl rfl hl.1 (Nat.le_of_ble_eq_true rfl) ⟨Nat.le_of_ble_eq_true rfl, Nat.le_of_ble_eq_true rfl⟩ ⟨Nat.le_refl _, Nat.le_refl _⟩ dL_hangs_102 (fun r190 g191 H locs h192 hH => ?_)
        rw [h192.2] at hH
        rw [h192.1, kp3 (by omega) hkk]
        refine lv_istore (lv' := [(11, .int (g 0 (13 + 11 * i + 4))), (10, .int (fWhy (g 0) i (nI mm))), (9, .int (g 0 (13 + 11 * i + 1))), (8, .int (nI i)), (7, .int 1), (6, .int (zLg (g 0) i)), (5, .int ((fO (g 0) i).1)), (4, .int (fS (g 0) i)), (3, .int (fP (g 0) i)), (2, .int (fK (g 0) i)), (0, .ref (a 6 0)), (1, .int (nI mm))]) hx hb dL_hangs_105 hl (by decide) rfl (fun ls hl => ?_)
        refine lv_aload_n hx hb dL_hangs_107 rfl (lv_at hl 10 rfl) ?_
        refine lv_iload hx hb dL_hangs_108 (lv_at hl 3 rfl) ?_
        refine lv_iconst (v := 3) hx hb dL_hangs_110 (by decide) ?_
        refine n_idiv (A := i) (B := 3) hx hb (i / 3) rfl (by omega) (by omega) (by omega) dL_hangs_111 ?_
        refine lv_iconst (v := 0) hx hb dL_hangs_112 (by decide) ?_
        refine z_callVi X hH (c_X5_tableOf l D k a g (nI (i / 3)) 0) k_L_40 (rv_X5 X hH) [] rfl rfl hl.1 (Nat.le_of_ble_eq_true rfl) ⟨Nat.le_of_ble_eq_true rfl, Nat.le_of_ble_eq_true rfl⟩ ⟨Nat.le_refl _, Nat.le_refl _⟩ dL_hangs_113 (fun r193 g194 H locs h195 hH => ?_)
        rw [h195.2] at hH
        rw [h195.1, kto0 (by omega)]
        refine lv_aload_n hx hb dL_hangs_116 rfl (lv_at hl 10 rfl) ?_
        refine lv_iload hx hb dL_hangs_117 (lv_at hl 3 rfl) ?_
        refine lv_bipush (v := 10) hx hb dL_hangs_119 (by decide) ?_
        refine z_callVi X hH (c_X5_plan l D k a g hf (nI i) 10) k_L_34 (rv_X5 X hH) [.int (g 0 ((i / 3)))] rfl rfl hl.1 (Nat.le_of_ble_eq_true rfl) ⟨Nat.le_of_ble_eq_true rfl, Nat.le_of_ble_eq_true rfl⟩ ⟨Nat.le_refl _, Nat.le_refl _⟩ dL_hangs_121 (fun r196 g197 H locs h198 hH => ?_)
        rw [h198.2] at hH
        rw [h198.1, kp10 (by omega) hkk]
        refine i_icmp_le (tgt := 148) hx hb dL_hangs_124 (by decide) (fun c199 => ?_) (fun c199 => ?_)
        · refine lv_aload_n hx hb dL_hangs_148 rfl (lv_at hl 10 rfl) ?_
          refine lv_iload hx hb dL_hangs_149 (lv_at hl 3 rfl) ?_
          refine lv_bipush (v := 10) hx hb dL_hangs_151 (by decide) ?_
          refine z_callVi X hH (c_X5_plan l D k a g hf (nI i) 10) k_L_34 (rv_X5 X hH) [] rfl rfl hl.1 (Nat.le_of_ble_eq_true rfl) ⟨Nat.le_of_ble_eq_true rfl, Nat.le_of_ble_eq_true rfl⟩ ⟨Nat.le_refl _, Nat.le_refl _⟩ dL_hangs_153 (fun r200 g201 H locs h202 hH => ?_)
          rw [h202.2] at hH
          rw [h202.1, kp10 (by omega) hkk]
          refine lv_aload_n hx hb dL_hangs_156 rfl (lv_at hl 10 rfl) ?_
          refine lv_iload hx hb dL_hangs_157 (lv_at hl 3 rfl) ?_
          refine lv_iconst (v := 3) hx hb dL_hangs_159 (by decide) ?_
          refine n_idiv (A := i) (B := 3) hx hb (i / 3) rfl (by omega) (by omega) (by omega) dL_hangs_160 ?_
          refine lv_iconst (v := 0) hx hb dL_hangs_161 (by decide) ?_
          refine z_callVi X hH (c_X5_tableOf l D k a g (nI (i / 3)) 0) k_L_40 (rv_X5 X hH) [.int (g 0 (13 + 11 * i + 10))] rfl rfl hl.1 (Nat.le_of_ble_eq_true rfl) ⟨Nat.le_of_ble_eq_true rfl, Nat.le_of_ble_eq_true rfl⟩ ⟨Nat.le_refl _, Nat.le_refl _⟩ dL_hangs_162 (fun r203 g204 H locs h205 hH => ?_)
          rw [h205.2] at hH
          rw [h205.1, kto0 (by omega)]
          refine lv_isub hx hb dL_hangs_165 ?_
          refine lv_aload_n hx hb dL_hangs_166 rfl (lv_at hl 10 rfl) ?_
          refine lv_iload hx hb dL_hangs_167 (lv_at hl 3 rfl) ?_
          refine lv_bipush (v := 10) hx hb dL_hangs_169 (by decide) ?_
          refine z_callVi X hH (c_X5_plan l D k a g hf (nI i) 10) k_L_34 (rv_X5 X hH) [.int ((g 0 (13 + 11 * i + 10)) - (g 0 ((i / 3))))] rfl rfl hl.1 (Nat.le_of_ble_eq_true rfl) ⟨Nat.le_of_ble_eq_true rfl, Nat.le_of_ble_eq_true rfl⟩ ⟨Nat.le_refl _, Nat.le_refl _⟩ dL_hangs_171 (fun r206 g207 H locs h208 hH => ?_)
          rw [h208.2] at hH
          rw [h208.1, kp10 (by omega) hkk]
          refine lv_iconst (v := 2) hx hb dL_hangs_174 (by decide) ?_
          refine lv_idiv hx hb dL_hangs_175 (by decide) ?_
          refine i_icmp_le (tgt := 183) hx hb dL_hangs_176 (by decide) (fun c209 => ?_) (fun c209 => ?_)
          · refine lv_iconst (v := 0) hx hb dL_hangs_183 (by decide) ?_
            refine lv_istore (lv' := [(12, .int 0), (11, .int (g 0 (13 + 11 * i + 4))), (10, .int (fWhy (g 0) i (nI mm))), (9, .int (g 0 (13 + 11 * i + 1))), (8, .int (nI i)), (7, .int 1), (6, .int (zLg (g 0) i)), (5, .int ((fO (g 0) i).1)), (4, .int (fS (g 0) i)), (3, .int (fP (g 0) i)), (2, .int (fK (g 0) i)), (0, .ref (a 6 0)), (1, .int (nI mm))]) hx hb dL_hangs_184 hl (by decide) rfl (fun ls hl => ?_)
            refine J186 _ _ _ ?_ ?_
            · exact hH
            · rw [show ((if fChanged (g 0) i = true then 1 else 0) : Int32) = 0 from by rw [if_neg (fun q => c209 ((fChanged_of (fAbs_le hRb hp10 c199)).mp q))]]; exact lv_sub hl [3, 2, 1, 0, 4, 5, 6, 7, 8, 9, 10, 11, 12] rfl
          · refine lv_iconst (v := 1) hx hb dL_hangs_179 (by decide) ?_
            refine lv_goto (tgt := 184) hx hb dL_hangs_180 (by decide) ?_
            refine lv_istore (lv' := [(12, .int 1), (11, .int (g 0 (13 + 11 * i + 4))), (10, .int (fWhy (g 0) i (nI mm))), (9, .int (g 0 (13 + 11 * i + 1))), (8, .int (nI i)), (7, .int 1), (6, .int (zLg (g 0) i)), (5, .int ((fO (g 0) i).1)), (4, .int (fS (g 0) i)), (3, .int (fP (g 0) i)), (2, .int (fK (g 0) i)), (0, .ref (a 6 0)), (1, .int (nI mm))]) hx hb dL_hangs_184 hl (by decide) rfl (fun ls hl => ?_)
            refine J186 _ _ _ ?_ ?_
            · exact hH
            · rw [show ((if fChanged (g 0) i = true then 1 else 0) : Int32) = 1 from by rw [if_pos ((fChanged_of (fAbs_le hRb hp10 c199)).mpr c209)]]; exact lv_sub hl [3, 2, 1, 0, 4, 5, 6, 7, 8, 9, 10, 11, 12] rfl
        · refine lv_aload_n hx hb dL_hangs_127 rfl (lv_at hl 10 rfl) ?_
          refine lv_iload hx hb dL_hangs_128 (lv_at hl 3 rfl) ?_
          refine lv_iconst (v := 3) hx hb dL_hangs_130 (by decide) ?_
          refine n_idiv (A := i) (B := 3) hx hb (i / 3) rfl (by omega) (by omega) (by omega) dL_hangs_131 ?_
          refine lv_iconst (v := 0) hx hb dL_hangs_132 (by decide) ?_
          refine z_callVi X hH (c_X5_tableOf l D k a g (nI (i / 3)) 0) k_L_40 (rv_X5 X hH) [] rfl rfl hl.1 (Nat.le_of_ble_eq_true rfl) ⟨Nat.le_of_ble_eq_true rfl, Nat.le_of_ble_eq_true rfl⟩ ⟨Nat.le_refl _, Nat.le_refl _⟩ dL_hangs_133 (fun r210 g211 H locs h212 hH => ?_)
          rw [h212.2] at hH
          rw [h212.1, kto0 (by omega)]
          refine lv_aload_n hx hb dL_hangs_136 rfl (lv_at hl 10 rfl) ?_
          refine lv_iload hx hb dL_hangs_137 (lv_at hl 3 rfl) ?_
          refine lv_bipush (v := 10) hx hb dL_hangs_139 (by decide) ?_
          refine z_callVi X hH (c_X5_plan l D k a g hf (nI i) 10) k_L_34 (rv_X5 X hH) [.int (g 0 ((i / 3)))] rfl rfl hl.1 (Nat.le_of_ble_eq_true rfl) ⟨Nat.le_of_ble_eq_true rfl, Nat.le_of_ble_eq_true rfl⟩ ⟨Nat.le_refl _, Nat.le_refl _⟩ dL_hangs_141 (fun r213 g214 H locs h215 hH => ?_)
          rw [h215.2] at hH
          rw [h215.1, kp10 (by omega) hkk]
          refine lv_isub hx hb dL_hangs_144 ?_
          refine lv_goto (tgt := 166) hx hb dL_hangs_145 (by decide) ?_
          refine lv_aload_n hx hb dL_hangs_166 rfl (lv_at hl 10 rfl) ?_
          refine lv_iload hx hb dL_hangs_167 (lv_at hl 3 rfl) ?_
          refine lv_bipush (v := 10) hx hb dL_hangs_169 (by decide) ?_
          refine z_callVi X hH (c_X5_plan l D k a g hf (nI i) 10) k_L_34 (rv_X5 X hH) [.int ((g 0 ((i / 3))) - (g 0 (13 + 11 * i + 10)))] rfl rfl hl.1 (Nat.le_of_ble_eq_true rfl) ⟨Nat.le_of_ble_eq_true rfl, Nat.le_of_ble_eq_true rfl⟩ ⟨Nat.le_refl _, Nat.le_refl _⟩ dL_hangs_171 (fun r216 g217 H locs h218 hH => ?_)
          rw [h218.2] at hH
          rw [h218.1, kp10 (by omega) hkk]
          refine lv_iconst (v := 2) hx hb dL_hangs_174 (by decide) ?_
          refine lv_idiv hx hb dL_hangs_175 (by decide) ?_
          refine i_icmp_le (tgt := 183) hx hb dL_hangs_176 (by decide) (fun c219 => ?_) (fun c219 => ?_)
          · refine lv_iconst (v := 0) hx hb dL_hangs_183 (by decide) ?_
            refine lv_istore (lv' := [(12, .int 0), (11, .int (g 0 (13 + 11 * i + 4))), (10, .int (fWhy (g 0) i (nI mm))), (9, .int (g 0 (13 + 11 * i + 1))), (8, .int (nI i)), (7, .int 1), (6, .int (zLg (g 0) i)), (5, .int ((fO (g 0) i).1)), (4, .int (fS (g 0) i)), (3, .int (fP (g 0) i)), (2, .int (fK (g 0) i)), (0, .ref (a 6 0)), (1, .int (nI mm))]) hx hb dL_hangs_184 hl (by decide) rfl (fun ls hl => ?_)
            refine J186 _ _ _ ?_ ?_
            · exact hH
            · rw [show ((if fChanged (g 0) i = true then 1 else 0) : Int32) = 0 from by rw [if_neg (fun q => c219 ((fChanged_of (fAbs_gt hRb hp10 c199)).mp q))]]; exact lv_sub hl [3, 2, 1, 0, 4, 5, 6, 7, 8, 9, 10, 11, 12] rfl
          · refine lv_iconst (v := 1) hx hb dL_hangs_179 (by decide) ?_
            refine lv_goto (tgt := 184) hx hb dL_hangs_180 (by decide) ?_
            refine lv_istore (lv' := [(12, .int 1), (11, .int (g 0 (13 + 11 * i + 4))), (10, .int (fWhy (g 0) i (nI mm))), (9, .int (g 0 (13 + 11 * i + 1))), (8, .int (nI i)), (7, .int 1), (6, .int (zLg (g 0) i)), (5, .int ((fO (g 0) i).1)), (4, .int (fS (g 0) i)), (3, .int (fP (g 0) i)), (2, .int (fK (g 0) i)), (0, .ref (a 6 0)), (1, .int (nI mm))]) hx hb dL_hangs_184 hl (by decide) rfl (fun ls hl => ?_)
            refine J186 _ _ _ ?_ ?_
            · exact hH
            · rw [show ((if fChanged (g 0) i = true then 1 else 0) : Int32) = 1 from by rw [if_pos ((fChanged_of (fAbs_gt hRb hp10 c199)).mpr c219)]]; exact lv_sub hl [3, 2, 1, 0, 4, 5, 6, 7, 8, 9, 10, 11, 12] rfl
  refine Lp20 (12) 0 (by omega) _ _ _ ?_ ?_
  · exact hH
  · rw [show (nI 0 : Int32) = 0 from by rfl, show (zLg (g 0) 0 : Int32) = (-1) from by exact if_pos rfl, show ((fO (g 0) 0).1 : Int32) = (-4) from by rfl, show (fS (g 0) 0 : Int32) = 0 from by rfl, show (fP (g 0) 0 : Int32) = 0 from by rfl, show (fK (g 0) 0 : Int32) = 0 from by rfl]; exact lv_sub hl [0, 1, 2, 3, 4, 5, 6, 7, 8] rfl
