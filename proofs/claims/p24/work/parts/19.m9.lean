set_option maxRecDepth 100000 in
set_option maxHeartbeats 4000000 in
theorem c_X5_reach (l : Launch) (D : va_G) (k : Nat → ClassId) (a : Nat → Nat → Nat) (g : Mem) (sh wa : Int32) : zI l yX5_reach cX5_reach 5 .int 4 97 D k a [.ref (a 6 0), .int (sh), .int (wa)] (g) (fun r g' => r = (kReach (g 0) sh wa) ∧ g' = (g)) := by
  refine zI_of (own := RX5) (by decide +kernel) rfl (Nat.le_of_ble_eq_true rfl) ?_
  intro p e s m args below meth c X Q hret hH ls hl
  obtain ⟨hx, hb, hml, hown, hts⟩ := X.1
  have hl : lv_has ls 5 [(0, .ref (a 6 0)), (1, .int (sh)), (2, .int (wa))] := hl
  have hH : zH D k a s (g) s.heap [] := hH
  have hH : zH D k a s (zUp g 0 (g 0)) s.heap [] := by rw [zUp_id]; exact hH
  refine lv_iload_n hx hb dX5_reach_0 rfl (lv_at hl 1 rfl) ?_
  refine z_callSi X hH (c_X5_isShape l D k a (zUp g 0 (g 0)) sh) k_X5_62 [] rfl rfl hl.1 (Nat.le_of_ble_eq_true rfl) ⟨Nat.le_of_ble_eq_true rfl, Nat.le_of_ble_eq_true rfl⟩ ⟨Nat.le_refl _, Nat.le_refl _⟩ dX5_reach_1 (fun r1 g2 H locs h3 hH => ?_)
  rw [h3.2] at hH
  rw [h3.1]
  refine b_ifne (P := ¬ sh < 0 ∧ sh < 12) (tgt := 9) hx hb dX5_reach_4 (by decide) (fun c4 => ?_) (fun c4 => ?_)
  · obtain ⟨z, hz, rfl⟩ := zIx (B := 12) (b := 12) rfl (by decide) c4
    have hz1 : iN (nI z) = z := iNn (by omega)
    refine lv_iload_n hx hb dX5_reach_9 rfl (lv_at hl 2 rfl) ?_
    refine z_callSi X hH (c_X5_isWay l D k a (zUp g 0 (g 0)) wa) k_X5_110 [] rfl rfl hl.1 (Nat.le_of_ble_eq_true rfl) ⟨Nat.le_of_ble_eq_true rfl, Nat.le_of_ble_eq_true rfl⟩ ⟨Nat.le_refl _, Nat.le_refl _⟩ dX5_reach_10 (fun r5 g6 H locs h7 hH => ?_)
    rw [h7.2] at hH
    rw [h7.1]
    refine b_ifne (P := ¬ wa < 0 ∧ wa < 3) (tgt := 19) hx hb dX5_reach_13 (by decide) (fun c8 => ?_) (fun c8 => ?_)
    · refine lv_iconst (v := 0) hx hb dX5_reach_19 (by decide) ?_
      refine lv_istore_n (lv' := [(3, .int 0), (0, .ref (a 6 0)), (1, .int (nI z)), (2, .int (wa))]) hx hb dX5_reach_20 rfl hl (by decide) rfl (fun ls hl => ?_)
      refine lv_iload_n hx hb dX5_reach_21 rfl (lv_at hl 2 rfl) ?_
      refine lv_iconst (v := 3) hx hb dX5_reach_22 (by decide) ?_
      refine n_irem (A := z) (B := 3) hx hb (z % 3) rfl (by omega) (by omega) (by omega) dX5_reach_23 ?_
      refine z_callSi X hH (c_X5_leastNumberOf l D k a (zUp g 0 (g 0)) (z % 3) (by omega)) k_X5_201 [] rfl rfl hl.1 (Nat.le_of_ble_eq_true rfl) ⟨Nat.le_of_ble_eq_true rfl, Nat.le_of_ble_eq_true rfl⟩ ⟨Nat.le_refl _, Nat.le_refl _⟩ dX5_reach_24 (fun r9 g10 H locs h11 hH => ?_)
      rw [h11.2] at hH
      rw [h11.1]
      refine lv_istore (lv' := [(4, .int ((if z % 3 = 0 then 0 else 1))), (3, .int 0), (0, .ref (a 6 0)), (1, .int (nI z)), (2, .int (wa))]) hx hb dX5_reach_27 hl (by decide) rfl (fun ls hl => ?_)
      by_cases h3 : z % 3 = 0
      · rw [if_pos h3] at hl
        have Lp29 : ∀ (jx q : Nat), q + jx = 201 → ∀ (H : Heap) (locs : List Loc) (ls : Array Slot), zH D k a s (zUp g 0 (g 0)) H locs → lv_has ls 5 [(4, .int (nI (0 + q))), (3, .int (fReach (g 0) z wa 0 q)), (0, .ref (a 6 0)), (1, .int (nI z)), (2, .int (wa))] → W p l e (zRoom 4 97) s m args below meth c H locs 0 0 Q (F0 m 29 ls []) := by
          intro jx
          induction jx with
          | zero =>
            intro q hix H locs ls hH hl
            obtain rfl : q = 201 := by omega
            refine lv_iload hx hb dX5_reach_29 (lv_at hl 0 rfl) ?_
            refine lv_sipush (v := 200) hx hb dX5_reach_31 (by decide) ?_
            refine n_icmp_gt (A := 0 + 201) (B := 200) (tgt := 60) hx hb (by omega) (by omega) dX5_reach_34 (by decide) (fun c12 => ?_) (fun q => absurd q (by omega))
            refine lv_iload_n hx hb dX5_reach_60 rfl (lv_at hl 1 rfl) ?_
            exact hret _ _ _ _ _ _ rfl ⟨by simp only [kReach, c4, hz1, c8, if_pos h3, c12, okS, okT, okW, okN, hasP, zAct, if_true, if_false, not_true_eq_false, not_false_eq_true, and_self, or_true, true_or, or_false, false_or, and_true, true_and, and_false, false_and, or_self, Bool.false_eq_true, z10], zUp_id _ _⟩ hH dX5_reach_61
          | succ jx ih =>
            intro q hix H locs ls hH hl
            have hi29 : q < 201 := by omega
            refine lv_iload hx hb dX5_reach_29 (lv_at hl 0 rfl) ?_
            refine lv_sipush (v := 200) hx hb dX5_reach_31 (by decide) ?_
            refine n_icmp_gt (A := 0 + q) (B := 200) (tgt := 60) hx hb (by omega) (by omega) dX5_reach_34 (by decide) (fun q => absurd q (by omega)) (fun c13 => ?_)
            refine lv_aload_n hx hb dX5_reach_37 rfl (lv_at hl 2 rfl) ?_
            refine gf_X5_now X hH q_213 dX5_reach_38 ?_
            refine lv_iload_n hx hb dX5_reach_41 rfl (lv_at hl 3 rfl) ?_
            refine lv_iload hx hb dX5_reach_42 (lv_at hl 0 rfl) ?_
            refine z_callVi X hH (c_X3_cheapestWay l D k a g (g 0) (z) (by omega) (nI (0 + q))) k_X5_157 (rv_X3 X hH (by omega)) [] rfl rfl hl.1 (Nat.le_of_ble_eq_true rfl) ⟨Nat.le_of_ble_eq_true rfl, Nat.le_of_ble_eq_true rfl⟩ ⟨Nat.le_refl _, Nat.le_refl _⟩ dX5_reach_44 (fun r14 g15 H locs h16 hH => ?_)
            rw [h16.2] at hH
            rw [h16.1]
            refine lv_iload_n hx hb dX5_reach_47 rfl (lv_at hl 4 rfl) ?_
            refine lv_icmp_ne (tgt := 54) hx hb dX5_reach_48 (by decide) (fun c17 => ?_) (fun c17 => ?_)
            · refine lv_iinc (v := nI (0 + q + 1)) (lv' := [(4, .int (nI (0 + q + 1))), (3, .int (fReach (g 0) z wa 0 q)), (0, .ref (a 6 0)), (1, .int (nI z)), (2, .int (wa))]) hx hb dX5_reach_54 hl (k := 0) rfl (z_inc1 _) (by decide) rfl (fun ls hl => ?_)
              refine lv_goto (tgt := 29) hx hb dX5_reach_57 (by decide) ?_
              refine ih (q + 1) (by omega) _ _ _ ?_ ?_
              · exact hH
              · rw [show (nI (0 + (q + 1)) : Int32) = nI (0 + q + 1) from by rfl, show (fReach (g 0) z wa 0 (q + 1) : Int32) = fReach (g 0) z wa 0 q from by simp only [fReach, c17, if_true, if_false]]; exact lv_sub hl [0, 1, 2, 3, 4] rfl
            · refine lv_iinc (v := (fReach (g 0) z wa 0 q) + 1) (lv' := [(3, .int ((fReach (g 0) z wa 0 q) + 1)), (4, .int (nI (0 + q))), (0, .ref (a 6 0)), (1, .int (nI z)), (2, .int (wa))]) hx hb dX5_reach_51 hl (k := 1) rfl (z_incI _) (by decide) rfl (fun ls hl => ?_)
              refine lv_iinc (v := nI (0 + q + 1)) (lv' := [(4, .int (nI (0 + q + 1))), (3, .int ((fReach (g 0) z wa 0 q) + 1)), (0, .ref (a 6 0)), (1, .int (nI z)), (2, .int (wa))]) hx hb dX5_reach_54 hl (k := 1) rfl (z_inc1 _) (by decide) rfl (fun ls hl => ?_)
              refine lv_goto (tgt := 29) hx hb dX5_reach_57 (by decide) ?_
              refine ih (q + 1) (by omega) _ _ _ ?_ ?_
              · exact hH
              · rw [show (nI (0 + (q + 1)) : Int32) = nI (0 + q + 1) from by rfl, show (fReach (g 0) z wa 0 (q + 1) : Int32) = (fReach (g 0) z wa 0 q) + 1 from by simp only [fReach, c17, if_true, if_false]]; exact lv_sub hl [0, 1, 2, 3, 4] rfl
        refine Lp29 (201) 0 (by omega) _ _ _ ?_ ?_
        · exact hH
        · rw [show (nI (0 + 0) : Int32) = 0 from by rfl, show (fReach (g 0) z wa 0 0 : Int32) = 0 from by rfl]; exact lv_sub hl [0, 1, 2, 3, 4] rfl
      · rw [if_neg h3] at hl
        have Lp29 : ∀ (jx q : Nat), q + jx = 200 → ∀ (H : Heap) (locs : List Loc) (ls : Array Slot), zH D k a s (zUp g 0 (g 0)) H locs → lv_has ls 5 [(4, .int (nI (1 + q))), (3, .int (fReach (g 0) z wa 1 q)), (0, .ref (a 6 0)), (1, .int (nI z)), (2, .int (wa))] → W p l e (zRoom 4 97) s m args below meth c H locs 0 0 Q (F0 m 29 ls []) := by
          intro jx
          induction jx with
          | zero =>
            intro q hix H locs ls hH hl
            obtain rfl : q = 200 := by omega
            refine lv_iload hx hb dX5_reach_29 (lv_at hl 0 rfl) ?_
            refine lv_sipush (v := 200) hx hb dX5_reach_31 (by decide) ?_
            refine n_icmp_gt (A := 1 + 200) (B := 200) (tgt := 60) hx hb (by omega) (by omega) dX5_reach_34 (by decide) (fun c18 => ?_) (fun q => absurd q (by omega))
            refine lv_iload_n hx hb dX5_reach_60 rfl (lv_at hl 1 rfl) ?_
            exact hret _ _ _ _ _ _ rfl ⟨by simp only [kReach, c4, hz1, c8, if_neg h3, c18, okS, okT, okW, okN, hasP, zAct, if_true, if_false, not_true_eq_false, not_false_eq_true, and_self, or_true, true_or, or_false, false_or, and_true, true_and, and_false, false_and, or_self, Bool.false_eq_true, z10], zUp_id _ _⟩ hH dX5_reach_61
          | succ jx ih =>
            intro q hix H locs ls hH hl
            have hi29 : q < 200 := by omega
            refine lv_iload hx hb dX5_reach_29 (lv_at hl 0 rfl) ?_
            refine lv_sipush (v := 200) hx hb dX5_reach_31 (by decide) ?_
            refine n_icmp_gt (A := 1 + q) (B := 200) (tgt := 60) hx hb (by omega) (by omega) dX5_reach_34 (by decide) (fun q => absurd q (by omega)) (fun c19 => ?_)
            refine lv_aload_n hx hb dX5_reach_37 rfl (lv_at hl 2 rfl) ?_
            refine gf_X5_now X hH q_213 dX5_reach_38 ?_
            refine lv_iload_n hx hb dX5_reach_41 rfl (lv_at hl 3 rfl) ?_
            refine lv_iload hx hb dX5_reach_42 (lv_at hl 0 rfl) ?_
            refine z_callVi X hH (c_X3_cheapestWay l D k a g (g 0) (z) (by omega) (nI (1 + q))) k_X5_157 (rv_X3 X hH (by omega)) [] rfl rfl hl.1 (Nat.le_of_ble_eq_true rfl) ⟨Nat.le_of_ble_eq_true rfl, Nat.le_of_ble_eq_true rfl⟩ ⟨Nat.le_refl _, Nat.le_refl _⟩ dX5_reach_44 (fun r20 g21 H locs h22 hH => ?_)
            rw [h22.2] at hH
            rw [h22.1]
            refine lv_iload_n hx hb dX5_reach_47 rfl (lv_at hl 4 rfl) ?_
            refine lv_icmp_ne (tgt := 54) hx hb dX5_reach_48 (by decide) (fun c23 => ?_) (fun c23 => ?_)
            · refine lv_iinc (v := nI (1 + q + 1)) (lv' := [(4, .int (nI (1 + q + 1))), (3, .int (fReach (g 0) z wa 1 q)), (0, .ref (a 6 0)), (1, .int (nI z)), (2, .int (wa))]) hx hb dX5_reach_54 hl (k := 0) rfl (z_inc1 _) (by decide) rfl (fun ls hl => ?_)
              refine lv_goto (tgt := 29) hx hb dX5_reach_57 (by decide) ?_
              refine ih (q + 1) (by omega) _ _ _ ?_ ?_
              · exact hH
              · rw [show (nI (1 + (q + 1)) : Int32) = nI (1 + q + 1) from by rfl, show (fReach (g 0) z wa 1 (q + 1) : Int32) = fReach (g 0) z wa 1 q from by simp only [fReach, c23, if_true, if_false]]; exact lv_sub hl [0, 1, 2, 3, 4] rfl
            · refine lv_iinc (v := (fReach (g 0) z wa 1 q) + 1) (lv' := [(3, .int ((fReach (g 0) z wa 1 q) + 1)), (4, .int (nI (1 + q))), (0, .ref (a 6 0)), (1, .int (nI z)), (2, .int (wa))]) hx hb dX5_reach_51 hl (k := 1) rfl (z_incI _) (by decide) rfl (fun ls hl => ?_)
              refine lv_iinc (v := nI (1 + q + 1)) (lv' := [(4, .int (nI (1 + q + 1))), (3, .int ((fReach (g 0) z wa 1 q) + 1)), (0, .ref (a 6 0)), (1, .int (nI z)), (2, .int (wa))]) hx hb dX5_reach_54 hl (k := 1) rfl (z_inc1 _) (by decide) rfl (fun ls hl => ?_)
              refine lv_goto (tgt := 29) hx hb dX5_reach_57 (by decide) ?_
              refine ih (q + 1) (by omega) _ _ _ ?_ ?_
              · exact hH
              · rw [show (nI (1 + (q + 1)) : Int32) = nI (1 + q + 1) from by rfl, show (fReach (g 0) z wa 1 (q + 1) : Int32) = (fReach (g 0) z wa 1 q) + 1 from by simp only [fReach, c23, if_true, if_false]]; exact lv_sub hl [0, 1, 2, 3, 4] rfl
        refine Lp29 (200) 0 (by omega) _ _ _ ?_ ?_
        · exact hH
        · rw [show (nI (1 + 0) : Int32) = 1 from by rfl, show (fReach (g 0) z wa 1 0 : Int32) = 0 from by rfl]; exact lv_sub hl [0, 1, 2, 3, 4] rfl
    · refine lv_bipush (v := (-2)) hx hb dX5_reach_16 (by decide) ?_
      exact hret _ _ _ _ _ _ rfl ⟨by simp only [kReach, c4, hz1, c8, okS, okT, okW, okN, hasP, zAct, if_true, if_false, not_true_eq_false, not_false_eq_true, and_self, or_true, true_or, or_false, false_or, and_true, true_and, and_false, false_and, or_self, Bool.false_eq_true, z10], zUp_id _ _⟩ hH dX5_reach_18
  · refine lv_iconst (v := (-1)) hx hb dX5_reach_7 (by decide) ?_
    exact hret _ _ _ _ _ _ rfl ⟨by simp only [kReach, c4, okS, okT, okW, okN, hasP, zAct, if_true, if_false, not_true_eq_false, not_false_eq_true, and_self, or_true, true_or, or_false, false_or, and_true, true_and, and_false, false_and, or_self, Bool.false_eq_true, z10], zUp_id _ _⟩ hH dX5_reach_8
set_option maxRecDepth 100000 in
set_option maxHeartbeats 4000000 in
theorem c_X5_undo (l : Launch) (D : va_G) (k : Nat → ClassId) (a : Nat → Nat → Nat) (g : Mem) (x : Nat) (hx4 : x < 4) (e6 : g 6 0 = nI x) (hf : zFl (g (2 + (x + 3) % 4))) (hjk : ∀ j, 160 ≤ j → g 0 j = g (2 + (x + 3) % 4) j) : zI l yX5_undo cX5_undo 1 .int 3 64 D k a [.ref (a 6 0)] (g) (fun r g' => r = (kUndo g) ∧ g' = (kUndoG g)) := by
  refine zI_of (own := RX5) (by decide +kernel) rfl (Nat.le_of_ble_eq_true rfl) ?_
  intro p e s m args below meth c X Q hret hH ls hl
  obtain ⟨hx, hb, hml, hown, hts⟩ := X.1
  have hl : lv_has ls 1 [(0, .ref (a 6 0))] := hl
  have hH : zH D k a s (g) s.heap [] := hH
  refine lv_aload_n hx hb dX5_undo_0 rfl (lv_at hl 0 rfl) ?_
  refine gf_X5_history X hH q_215 dX5_undo_1 ?_
  refine gf_X0_size X hH q_171 dX5_undo_4 ?_
  refine lv_if_ne (tgt := 13) hx hb dX5_undo_7 (by decide) (fun c1 => ?_) (fun c1 => ?_)
  · refine lv_aload_n hx hb dX5_undo_13 rfl (lv_at hl 0 rfl) ?_
    refine gf_X5_history X hH q_215 dX5_undo_14 ?_
    refine lv_aload_n hx hb dX5_undo_17 rfl (lv_at hl 0 rfl) ?_
    refine gf_X5_now X hH q_213 dX5_undo_18 ?_
    refine z_callVv X hH (c_X0_takeBack l D k a g x hx4 e6 hf hjk) k_X5_147 (rv_X0 X hH) [] rfl rfl hl.1 (Nat.le_of_ble_eq_true rfl) ⟨Nat.le_of_ble_eq_true rfl, Nat.le_of_ble_eq_true rfl⟩ ⟨Nat.le_refl _, Nat.le_refl _⟩ dX5_undo_21 (fun g2 H locs h3 hH => ?_)
    rw [h3] at hH
    have hH : zH D k a s (zUp (zUp g 6 (upd (upd (g 6) 0 (nI ((x + 3) % 4))) 1 (g 6 1 - 1))) 0 (g (2 + (x + 3) % 4))) H locs := hH
    refine lv_aload_n hx hb dX5_undo_24 rfl (lv_at hl 0 rfl) ?_
    refine gf_X5_history X hH q_215 dX5_undo_25 ?_
    refine gf_X0_size X hH q_171 dX5_undo_28 ?_
    rw [show (zUp (zUp g 6 (upd (upd (g 6) 0 (nI ((x + 3) % 4))) 1 (g 6 1 - 1))) 0 (g (2 + (x + 3) % 4))) 6 1 = g 6 1 - 1 from ((congrFun ((zUp_n _ _ (by omega)).trans (zUp_s _ _ _)) 1).trans (zu_s _ _ _))]
    exact hret _ _ _ _ _ _ rfl ⟨by rw [kUndo, if_neg c1], by rw [kUndoG, if_neg c1]; exact (zBack_x hx4 e6).symm⟩ hH dX5_undo_31
  · refine lv_bipush (v := (-4)) hx hb dX5_undo_10 (by decide) ?_
    exact hret _ _ _ _ _ _ rfl ⟨by rw [kUndo, if_pos c1], by rw [kUndoG, if_pos c1]⟩ hH dX5_undo_12
set_option maxRecDepth 100000 in
set_option maxHeartbeats 4000000 in
theorem c_X5_restore (l : Launch) (D : va_G) (k : Nat → ClassId) (a : Nat → Nat → Nat) (g : Mem) (x : Nat) (hx4 : x < 4) (e6 : g 6 0 = nI x) (hf : zFl (g 0)) (hjk : ∀ j, 160 ≤ j → g (2 + x) j = g 0 j) (hf1 : zFl (g 1)) (hjk1 : ∀ j, 160 ≤ j → g 0 j = g 1 j) : zI l yX5_restore cX5_restore 1 .int 3 64 D k a [.ref (a 6 0)] (g) (fun r g' => r = (kRest g) ∧ g' = (kRestG g)) := by
  refine zI_of (own := RX5) (by decide +kernel) rfl (Nat.le_of_ble_eq_true rfl) ?_
  intro p e s m args below meth c X Q hret hH ls hl
  obtain ⟨hx, hb, hml, hown, hts⟩ := X.1
  have hl : lv_has ls 1 [(0, .ref (a 6 0))] := hl
  have hH : zH D k a s (g) s.heap [] := hH
  refine lv_aload_n hx hb dX5_restore_0 rfl (lv_at hl 0 rfl) ?_
  refine gf_X5_hasSnapshot X hH q_217 dX5_restore_1 ?_
  refine lv_if_ne (tgt := 10) hx hb dX5_restore_4 (by decide) (fun c1 => ?_) (fun c1 => ?_)
  · refine lv_aload_n hx hb dX5_restore_10 rfl (lv_at hl 0 rfl) ?_
    refine gf_X5_history X hH q_215 dX5_restore_11 ?_
    refine lv_aload_n hx hb dX5_restore_14 rfl (lv_at hl 0 rfl) ?_
    refine gf_X5_now X hH q_213 dX5_restore_15 ?_
    refine z_callVv X hH (c_X0_record l D k a g x hx4 e6 hf hjk) k_X5_54 (rv_X0 X hH) [] rfl rfl hl.1 (Nat.le_of_ble_eq_true rfl) ⟨Nat.le_of_ble_eq_true rfl, Nat.le_of_ble_eq_true rfl⟩ ⟨Nat.le_refl _, Nat.le_refl _⟩ dX5_restore_18 (fun g2 H locs h3 hH => ?_)
    rw [h3] at hH
    have hH : zH D k a s (zUp (zUp g (2 + x) (g 0)) 6 (upd (upd (g 6) 0 (nI ((x + 1) % 4))) 1 (if 4 < g 6 1 + 1 then 4 else g 6 1 + 1))) H locs := hH
    refine lv_aload_n hx hb dX5_restore_21 rfl (lv_at hl 0 rfl) ?_
    refine gf_X5_now X hH q_213 dX5_restore_22 ?_
    refine lv_aload_n hx hb dX5_restore_25 rfl (lv_at hl 0 rfl) ?_
    refine gf_X5_snapshot X hH q_214 dX5_restore_26 ?_
    refine z_callVv X (by rw [zUp_id]; exact hH) (c_X3_copyFrom l D k a (zUp (zUp g (2 + x) (g 0)) 6 (upd (upd (g 6) 0 (nI ((x + 1) % 4))) 1 (if 4 < g 6 1 + 1 then 4 else g 6 1 + 1))) ((zUp (zUp g (2 + x) (g 0)) 6 (upd (upd (g 6) 0 (nI ((x + 1) % 4))) 1 (if 4 < g 6 1 + 1 then 4 else g 6 1 + 1))) 0) (0) (1) (by omega) (by omega) (by omega) (by rw [show (zUp (zUp g (2 + x) (g 0)) 6 (upd (upd (g 6) 0 (nI ((x + 1) % 4))) 1 (if 4 < g 6 1 + 1 then 4 else g 6 1 + 1))) 1 = g 1 from ((zUp_n _ _ (by omega)).trans (zUp_n _ _ (by omega)))]; exact hf1)) k_X5_150 (rv_X3 X hH (by omega)) [] rfl rfl hl.1 (Nat.le_of_ble_eq_true rfl) ⟨Nat.le_of_ble_eq_true rfl, Nat.le_of_ble_eq_true rfl⟩ ⟨Nat.le_refl _, Nat.le_refl _⟩ dX5_restore_29 (fun g4 H locs h5 hH => ?_)
    rw [h5] at hH
    rw [show cpAll ((zUp (zUp g (2 + x) (g 0)) 6 (upd (upd (g 6) 0 (nI ((x + 1) % 4))) 1 (if 4 < g 6 1 + 1 then 4 else g 6 1 + 1))) 0) ((zUp (zUp g (2 + x) (g 0)) 6 (upd (upd (g 6) 0 (nI ((x + 1) % 4))) 1 (if 4 < g 6 1 + 1 then 4 else g 6 1 + 1))) 1) = g 1 from by rw [show (zUp (zUp g (2 + x) (g 0)) 6 (upd (upd (g 6) 0 (nI ((x + 1) % 4))) 1 (if 4 < g 6 1 + 1 then 4 else g 6 1 + 1))) 0 = g 0 from ((zUp_n _ _ (by omega)).trans (zUp_n _ _ (by omega))), show (zUp (zUp g (2 + x) (g 0)) 6 (upd (upd (g 6) 0 (nI ((x + 1) % 4))) 1 (if 4 < g 6 1 + 1 then 4 else g 6 1 + 1))) 1 = g 1 from ((zUp_n _ _ (by omega)).trans (zUp_n _ _ (by omega)))]; exact cpAll_eq hjk1] at hH
    refine lv_aload_n hx hb dX5_restore_32 rfl (lv_at hl 0 rfl) ?_
    refine gf_X5_now X hH q_213 dX5_restore_33 ?_
    refine z_callVi X (by rw [zNow (show (zUp (zUp (zUp g (2 + x) (g 0)) 6 (upd (upd (g 6) 0 (nI ((x + 1) % 4))) 1 (if 4 < g 6 1 + 1 then 4 else g 6 1 + 1))) 0 (g 1)) 0 = g 1 from (zUp_s _ _ _))]; exact hH) (c_X3_keptPlans l D k a (zUp (zUp (zUp g (2 + x) (g 0)) 6 (upd (upd (g 6) 0 (nI ((x + 1) % 4))) 1 (if 4 < g 6 1 + 1 then 4 else g 6 1 + 1))) 0 (g 1)) (g 1)) k_X5_107 (rv_X3 X hH (by omega)) [] rfl rfl hl.1 (Nat.le_of_ble_eq_true rfl) ⟨Nat.le_of_ble_eq_true rfl, Nat.le_of_ble_eq_true rfl⟩ ⟨Nat.le_refl _, Nat.le_refl _⟩ dX5_restore_36 (fun r6 g7 H locs h8 hH => ?_)
    rw [h8.2, zNow (show (zUp (zUp (zUp g (2 + x) (g 0)) 6 (upd (upd (g 6) 0 (nI ((x + 1) % 4))) 1 (if 4 < g 6 1 + 1 then 4 else g 6 1 + 1))) 0 (g 1)) 0 = g 1 from (zUp_s _ _ _))] at hH
    rw [h8.1]
    exact hret _ _ _ _ _ _ rfl ⟨by rw [kRest, if_neg c1], by rw [kRestG, if_neg c1]; rw [zRec_x hx4 e6]; rfl⟩ hH dX5_restore_39
  · refine lv_bipush (v := (-4)) hx hb dX5_restore_7 (by decide) ?_
    exact hret _ _ _ _ _ _ rfl ⟨by rw [kRest, if_pos c1], by rw [kRestG, if_pos c1]⟩ hH dX5_restore_9
