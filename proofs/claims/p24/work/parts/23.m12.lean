set_option maxRecDepth 100000 in
set_option maxHeartbeats 4000000 in
theorem c_X2_readNumber (l : Launch) (D : va_G) (k : Nat → ClassId) (a : Nat → Nat → Nat) (g : Mem) (u w t n : V) (L A : Nat) (eL : u 2 = nI L) (hL : L ≤ 80) (hA : A ≤ L) (lo hi : Int32) (hlo : lo = 0 ∨ lo = 1) : zI l yX2_readNumber cX2_readNumber 5 .int 5 107 D k a [.ref (a 6 3), .int (lo), .int (hi)] (zT g (upd u 4 (nI A)) w t n) (fun r g' => r = ((fNum (g 7) L A lo hi).1) ∧ g' = (zT g (upd u 4 (nI ((fNum (g 7) L A lo hi).2))) w t n)) := by
  refine zI_of (own := RX2) (by decide +kernel) rfl (Nat.le_of_ble_eq_true rfl) ?_
  intro p e s m args below meth c X Q hret hH ls hl
  obtain ⟨hx, hb, hml, hown, hts⟩ := X.1
  have hl : lv_has ls 5 [(0, .ref (a 6 3)), (1, .int (lo)), (2, .int (hi))] := hl
  have hH : zH D k a s (zT g (upd u 4 (nI A)) w t n) s.heap [] := hH
  obtain ⟨-, -, -, -, -, -, -, -, -, hr0, hr1, hr2, hr3, hr4, hr5, hr6⟩ := X.2.2.2
  refine lv_aload_n hx hb dX2_readNumber_0 rfl (lv_at hl 0 rfl) ?_
  refine va_ldcS hx hb hown hr5 dX2_readNumber_1 ?_
  refine z_callVi X hH (c_X2_pass l D k a g u w t n L (A) eL hL (by omega) 5 (by decide)) k_X2_41 (rv_X2 X hH) [] rfl rfl hl.1 (Nat.le_of_ble_eq_true rfl) ⟨Nat.le_of_ble_eq_true rfl, Nat.le_of_ble_eq_true rfl⟩ ⟨Nat.le_refl _, Nat.le_refl _⟩ dX2_readNumber_3 (fun r1 g2 H locs h3 hH => ?_)
  rw [h3.2] at hH
  rw [h3.1]
  have b4 := fPass_z (x := g 7) (L := L) (A := A) 5 (by decide) (by omega)
  refine b_ifne (P := (fPass (g 7) L A (zCs 5)).1 = true) (tgt := 11) hx hb dX2_readNumber_6 (by decide) (fun c5 => ?_) (fun c5 => ?_)
  · refine lv_aload_n hx hb dX2_readNumber_11 rfl (lv_at hl 0 rfl) ?_
    refine z_callVi X hH (c_X2_digit l D k a g u w t n L ((fPass (g 7) L A (zCs 5)).2) eL hL (by omega)) k_X2_71 (rv_X2 X hH) [] rfl rfl hl.1 (Nat.le_of_ble_eq_true rfl) ⟨Nat.le_of_ble_eq_true rfl, Nat.le_of_ble_eq_true rfl⟩ ⟨Nat.le_refl _, Nat.le_refl _⟩ dX2_readNumber_12 (fun r6 g7 H locs h8 hH => ?_)
    rw [h8.2] at hH
    rw [h8.1]
    refine lv_istore_n (lv' := [(3, .int (fDigit (g 7) L ((fPass (g 7) L A (zCs 5)).2))), (0, .ref (a 6 3)), (1, .int (lo)), (2, .int (hi))]) hx hb dX2_readNumber_15 rfl hl (by decide) rfl (fun ls hl => ?_)
    refine lv_iload_n hx hb dX2_readNumber_16 rfl (lv_at hl 0 rfl) ?_
    refine lv_iload_n hx hb dX2_readNumber_17 rfl (lv_at hl 2 rfl) ?_
    refine i_icmp_lt (tgt := 26) hx hb dX2_readNumber_18 (by decide) (fun c9 => ?_) (fun c9 => ?_)
    · refine lv_iconst (v := (-1)) hx hb dX2_readNumber_26 (by decide) ?_
      exact hret _ _ _ _ _ _ rfl ⟨by simp only [fNum, c5, c9, okS, okT, okW, okN, hasP, zAct, if_true, if_false, not_true_eq_false, not_false_eq_true, and_self, or_true, true_or, or_false, false_or, and_true, true_and, and_false, false_and, or_self, Bool.false_eq_true, z10], by simp only [fNum, c5, c9, okS, okT, okW, okN, hasP, zAct, if_true, if_false, not_true_eq_false, not_false_eq_true, and_self, or_true, true_or, or_false, false_or, and_true, true_and, and_false, false_and, or_self, Bool.false_eq_true, z10]⟩ hH dX2_readNumber_27
    · refine lv_iload_n hx hb dX2_readNumber_21 rfl (lv_at hl 0 rfl) ?_
      refine lv_iload_n hx hb dX2_readNumber_22 rfl (lv_at hl 3 rfl) ?_
      refine i_icmp_le (tgt := 28) hx hb dX2_readNumber_23 (by decide) (fun c10 => ?_) (fun c10 => ?_)
      · refine lv_aload_n hx hb dX2_readNumber_28 rfl (lv_at hl 1 rfl) ?_
        refine lv_dup hx hb dX2_readNumber_29 rfl ?_
        refine gt_X2_at X hH q_196 dX2_readNumber_30 ?_
        rw [show (upd u 4 (nI ((fPass (g 7) L A (zCs 5)).2))) 4 = nI ((fPass (g 7) L A (zCs 5)).2) from (zu_s _ _ _)]
        refine lv_iconst (v := 1) hx hb dX2_readNumber_33 (by decide) ?_
        refine n_iadd (A := (fPass (g 7) L A (zCs 5)).2) (B := 1) hx hb ((fPass (g 7) L A (zCs 5)).2 + 1) (by omega) dX2_readNumber_34 ?_
        refine pt_X2_at X hH q_196 dX2_readNumber_35 (fun H locs hH => ?_)
        rw [zu_u] at hH
        have hF : fNum (g 7) L A lo hi = fNumL (g 7) L hi (L - ((fPass (g 7) L A (zCs 5)).2 + 1)) ((fPass (g 7) L A (zCs 5)).2 + 1) (fDigit (g 7) L ((fPass (g 7) L A (zCs 5)).2)) := by rw [fNum, if_pos c5, if_neg c9, if_neg c10]
        have hlt := fDigit_lt (z01 hlo c9)
        have Lp : ∀ (kx B : Nat) (d : Int32), L - B = kx → B ≤ L → fNumL (g 7) L hi kx B d = fNum (g 7) L A lo hi → ∀ (H : Heap) (locs : List Loc) (ls : Array Slot), zH D k a s (zT g (upd u 4 (nI B)) w t n) H locs → lv_has ls 5 [(3, .int (d)), (0, .ref (a 6 3)), (1, .int (lo)), (2, .int (hi))] → W p l e (zRoom 5 107) s m args below meth c H locs 0 0 Q (F0 m 38 ls []) := by
          intro kx
          induction kx with
          | zero =>
            intro B d hB hB2 hv H locs ls hH hl
            have hA2 : B = L := by omega
            refine lv_aload_n hx hb dX2_readNumber_38 rfl (lv_at hl 1 rfl) ?_
            refine gt_X2_at X hH q_196 dX2_readNumber_39 ?_
            rw [show (upd u 4 (nI B)) 4 = nI B from (zu_s _ _ _)]
            refine lv_aload_n hx hb dX2_readNumber_42 rfl (lv_at hl 1 rfl) ?_
            refine gt_X2_length X hH q_186 dX2_readNumber_43 ?_
            rw [show (upd u 4 (nI B)) 2 = u 2 from (zu_n _ _ (by omega))]
            rw [eL]
            refine n_icmp_ge (A := B) (B := L) (tgt := 95) hx hb (by omega) (by omega) dX2_readNumber_46 (by decide) (fun c11 => ?_) (fun q => absurd q (by omega))
            refine lv_iload_n hx hb dX2_readNumber_95 rfl (lv_at hl 0 rfl) ?_
            exact hret _ _ _ _ _ _ rfl ⟨by rw [← hv]; rfl, by rw [← hv]; rfl⟩ hH dX2_readNumber_96
          | succ kx ih =>
            intro B d hB hB2 hv H locs ls hH hl
            have hB3 : B < L := by omega
            refine lv_aload_n hx hb dX2_readNumber_38 rfl (lv_at hl 1 rfl) ?_
            refine gt_X2_at X hH q_196 dX2_readNumber_39 ?_
            rw [show (upd u 4 (nI B)) 4 = nI B from (zu_s _ _ _)]
            refine lv_aload_n hx hb dX2_readNumber_42 rfl (lv_at hl 1 rfl) ?_
            refine gt_X2_length X hH q_186 dX2_readNumber_43 ?_
            rw [show (upd u 4 (nI B)) 2 = u 2 from (zu_n _ _ (by omega))]
            rw [eL]
            refine n_icmp_ge (A := B) (B := L) (tgt := 95) hx hb (by omega) (by omega) dX2_readNumber_46 (by decide) (fun q => absurd q (by omega)) (fun c12 => ?_)
            refine lv_iload_n hx hb dX2_readNumber_49 rfl (lv_at hl 0 rfl) ?_
            refine i_if_le (tgt := 95) hx hb dX2_readNumber_50 (by decide) (fun c13 => ?_) (fun c13 => ?_)
            · refine lv_iload_n hx hb dX2_readNumber_95 rfl (lv_at hl 0 rfl) ?_
              exact hret _ _ _ _ _ _ rfl ⟨by rw [← hv]; simp only [fNumL, hB3, c13, if_true, if_false], by rw [← hv]; simp only [fNumL, hB3, c13, if_true, if_false]⟩ hH dX2_readNumber_96
            · refine lv_bipush (v := 10) hx hb dX2_readNumber_53 (by decide) ?_
              refine lv_iload_n hx hb dX2_readNumber_55 rfl (lv_at hl 0 rfl) ?_
              refine lv_imul hx hb dX2_readNumber_56 ?_
              refine lv_aload_n hx hb dX2_readNumber_57 rfl (lv_at hl 1 rfl) ?_
              refine z_callVi X hH (c_X2_digit l D k a g u w t n L (B) eL hL (by omega)) k_X2_71 (rv_X2 X hH) [.int (10 * d)] rfl rfl hl.1 (Nat.le_of_ble_eq_true rfl) ⟨Nat.le_of_ble_eq_true rfl, Nat.le_of_ble_eq_true rfl⟩ ⟨Nat.le_refl _, Nat.le_refl _⟩ dX2_readNumber_58 (fun r14 g15 H locs h16 hH => ?_)
              rw [h16.2] at hH
              rw [h16.1]
              refine lv_iadd hx hb dX2_readNumber_61 ?_
              refine lv_istore (lv' := [(4, .int ((10 * d) + (fDigit (g 7) L B))), (3, .int (d)), (0, .ref (a 6 3)), (1, .int (lo)), (2, .int (hi))]) hx hb dX2_readNumber_62 hl (by decide) rfl (fun ls hl => ?_)
              refine lv_aload_n hx hb dX2_readNumber_64 rfl (lv_at hl 2 rfl) ?_
              refine z_callVi X hH (c_X2_digit l D k a g u w t n L (B) eL hL (by omega)) k_X2_71 (rv_X2 X hH) [] rfl rfl hl.1 (Nat.le_of_ble_eq_true rfl) ⟨Nat.le_of_ble_eq_true rfl, Nat.le_of_ble_eq_true rfl⟩ ⟨Nat.le_refl _, Nat.le_refl _⟩ dX2_readNumber_65 (fun r17 g18 H locs h19 hH => ?_)
              rw [h19.2] at hH
              rw [h19.1]
              refine i_if_lt (tgt := 77) hx hb dX2_readNumber_68 (by decide) (fun c20 => ?_) (fun c20 => ?_)
              · refine lv_iload_n hx hb dX2_readNumber_77 rfl (lv_at hl 1 rfl) ?_
                exact hret _ _ _ _ _ _ rfl ⟨by rw [← hv]; simp only [fNumL, hB3, c13, c20, if_true, if_false], by rw [← hv]; simp only [fNumL, hB3, c13, c20, if_true, if_false]⟩ hH dX2_readNumber_78
              · refine lv_iload hx hb dX2_readNumber_71 (lv_at hl 0 rfl) ?_
                refine lv_iload_n hx hb dX2_readNumber_73 rfl (lv_at hl 4 rfl) ?_
                refine i_icmp_le (tgt := 79) hx hb dX2_readNumber_74 (by decide) (fun c21 => ?_) (fun c21 => ?_)
                · refine lv_iload hx hb dX2_readNumber_79 (lv_at hl 0 rfl) ?_
                  refine lv_istore_n (lv' := [(3, .int ((10 * d) + (fDigit (g 7) L B))), (4, .int ((10 * d) + (fDigit (g 7) L B))), (0, .ref (a 6 3)), (1, .int (lo)), (2, .int (hi))]) hx hb dX2_readNumber_81 rfl hl (by decide) rfl (fun ls hl => ?_)
                  refine lv_aload_n hx hb dX2_readNumber_82 rfl (lv_at hl 2 rfl) ?_
                  refine lv_dup hx hb dX2_readNumber_83 rfl ?_
                  refine gt_X2_at X hH q_196 dX2_readNumber_84 ?_
                  rw [show (upd u 4 (nI B)) 4 = nI B from (zu_s _ _ _)]
                  refine lv_iconst (v := 1) hx hb dX2_readNumber_87 (by decide) ?_
                  refine n_iadd (A := B) (B := 1) hx hb (B + 1) (by omega) dX2_readNumber_88 ?_
                  refine pt_X2_at X hH q_196 dX2_readNumber_89 (fun H locs hH => ?_)
                  rw [zu_u] at hH
                  refine lv_goto (tgt := 38) hx hb dX2_readNumber_92 (by decide) ?_
                  exact ih (B + 1) _ (by omega) (by omega) (by rw [← hv]; simp only [fNumL, hB3, c13, c20, c21, if_true, if_false]) _ _ _ hH (lv_sub hl [0, 2, 3, 4] rfl)
                · refine lv_iload_n hx hb dX2_readNumber_77 rfl (lv_at hl 1 rfl) ?_
                  exact hret _ _ _ _ _ _ rfl ⟨by rw [← hv]; simp only [fNumL, hB3, c13, c20, c21, if_true, if_false], by rw [← hv]; simp only [fNumL, hB3, c13, c20, c21, if_true, if_false]⟩ hH dX2_readNumber_78
        exact Lp (L - ((fPass (g 7) L A (zCs 5)).2 + 1)) ((fPass (g 7) L A (zCs 5)).2 + 1) _ rfl (by omega) hF.symm _ _ _ hH (lv_sub hl [0, 1, 2, 3] rfl)
      · refine lv_iconst (v := (-1)) hx hb dX2_readNumber_26 (by decide) ?_
        exact hret _ _ _ _ _ _ rfl ⟨by simp only [fNum, c5, c9, c10, okS, okT, okW, okN, hasP, zAct, if_true, if_false, not_true_eq_false, not_false_eq_true, and_self, or_true, true_or, or_false, false_or, and_true, true_and, and_false, false_and, or_self, Bool.false_eq_true, z10], by simp only [fNum, c5, c9, c10, okS, okT, okW, okN, hasP, zAct, if_true, if_false, not_true_eq_false, not_false_eq_true, and_self, or_true, true_or, or_false, false_or, and_true, true_and, and_false, false_and, or_self, Bool.false_eq_true, z10]⟩ hH dX2_readNumber_27
  · refine lv_iconst (v := (-1)) hx hb dX2_readNumber_9 (by decide) ?_
    exact hret _ _ _ _ _ _ rfl ⟨by simp only [fNum, c5, okS, okT, okW, okN, hasP, zAct, if_true, if_false, not_true_eq_false, not_false_eq_true, and_self, or_true, true_or, or_false, false_or, and_true, true_and, and_false, false_and, or_self, Bool.false_eq_true, z10], by simp only [fNum, c5, okS, okT, okW, okN, hasP, zAct, if_true, if_false, not_true_eq_false, not_false_eq_true, and_self, or_true, true_or, or_false, false_or, and_true, true_and, and_false, false_and, or_self, Bool.false_eq_true, z10]⟩ hH dX2_readNumber_10
theorem z30 : ((3 : Int32) = 0) = False := eq_false (by decide)
set_option maxRecDepth 100000 in
set_option maxHeartbeats 4000000 in
theorem c_X2_readLine (l : Launch) (D : va_G) (k : Nat → ClassId) (a : Nat → Nat → Nat) (g : Mem) (u w t n : V) (L A : Nat) (eL : u 2 = nI L) (hL : L ≤ 80) (hA : A ≤ L) (N : Nat) (hN : N < 11) : zI l yX2_readLine cX2_readLine 5 .boolean 7 147 D k a [.ref (a 6 3), .int (nI N)] (zT g (upd u 4 (nI A)) w t n) (fun r g' => r = (if (fLine (g 7) L A).1 = true then 1 else 0) ∧ g' = (zT g (upd u 4 (nI ((fLine (g 7) L A).2.1))) ((if (fLine (g 7) L A).1 = true then upd w N (fLine (g 7) L A).2.2.1 else w)) ((if (fLine (g 7) L A).1 = true then upd t N (fLine (g 7) L A).2.2.2.1 else t)) ((if (fLine (g 7) L A).1 = true then upd n N (fLine (g 7) L A).2.2.2.2 else n)))) := by
  refine zI_of (own := RX2) (by decide +kernel) rfl (Nat.le_of_ble_eq_true rfl) ?_
  intro p e s m args below meth c X Q hret hH ls hl
  obtain ⟨hx, hb, hml, hown, hts⟩ := X.1
  have hl : lv_has ls 5 [(0, .ref (a 6 3)), (1, .int (nI N))] := hl
  have hH : zH D k a s (zT g (upd u 4 (nI A)) w t n) s.heap [] := hH
  refine lv_aload_n hx hb dX2_readLine_0 rfl (lv_at hl 0 rfl) ?_
  refine z_callVi X hH (c_X2_readWord l D k a g u w t n L (A) eL hL (by omega)) k_X2_45 (rv_X2 X hH) [] rfl rfl hl.1 (Nat.le_of_ble_eq_true rfl) ⟨Nat.le_of_ble_eq_true rfl, Nat.le_of_ble_eq_true rfl⟩ ⟨Nat.le_refl _, Nat.le_refl _⟩ dX2_readLine_1 (fun r1 g2 H locs h3 hH => ?_)
  rw [h3.2] at hH
  rw [h3.1]
  have b1 := fWord_b (x := g 7) hA
  refine lv_istore_n (lv' := [(2, .int ((fWord (g 7) L A).1)), (0, .ref (a 6 3)), (1, .int (nI N))]) hx hb dX2_readLine_4 rfl hl (by decide) rfl (fun ls hl => ?_)
  refine lv_iload_n hx hb dX2_readLine_5 rfl (lv_at hl 0 rfl) ?_
  refine lv_iconst (v := (-1)) hx hb dX2_readLine_6 (by decide) ?_
  refine lv_icmp_ne (tgt := 12) hx hb dX2_readLine_7 (by decide) (fun c4 => ?_) (fun c4 => ?_)
  · refine lv_aload_n hx hb dX2_readLine_12 rfl (lv_at hl 1 rfl) ?_
    refine lv_iconst (v := 0) hx hb dX2_readLine_13 (by decide) ?_
    refine lv_iconst (v := 3) hx hb dX2_readLine_14 (by decide) ?_
    refine z_callVi X hH (c_X2_readNumber l D k a g u w t n L ((fWord (g 7) L A).2) eL hL (by omega) 0 3 (Or.inl rfl)) k_X2_49 (rv_X2 X hH) [] rfl rfl hl.1 (Nat.le_of_ble_eq_true rfl) ⟨Nat.le_of_ble_eq_true rfl, Nat.le_of_ble_eq_true rfl⟩ ⟨Nat.le_refl _, Nat.le_refl _⟩ dX2_readLine_15 (fun r5 g6 H locs h7 hH => ?_)
    rw [h7.2] at hH
    rw [h7.1]
    have b2 := fNum_b (x := g 7) (lo := 0) (hi := 3) (Or.inl rfl) b1.2
    refine lv_istore_n (lv' := [(3, .int ((fNum (g 7) L ((fWord (g 7) L A).2) 0 3).1)), (2, .int ((fWord (g 7) L A).1)), (0, .ref (a 6 3)), (1, .int (nI N))]) hx hb dX2_readLine_18 rfl hl (by decide) rfl (fun ls hl => ?_)
    refine lv_iload_n hx hb dX2_readLine_19 rfl (lv_at hl 0 rfl) ?_
    refine lv_iconst (v := (-1)) hx hb dX2_readLine_20 (by decide) ?_
    refine lv_icmp_ne (tgt := 26) hx hb dX2_readLine_21 (by decide) (fun c8 => ?_) (fun c8 => ?_)
    · refine lv_aload_n hx hb dX2_readLine_26 rfl (lv_at hl 2 rfl) ?_
      refine lv_iload_n hx hb dX2_readLine_27 rfl (lv_at hl 1 rfl) ?_
      refine lv_if_eq (tgt := 36) hx hb dX2_readLine_28 (by decide) (fun c9 => ?_) (fun c9 => ?_)
      · refine lv_iconst (v := 0) hx hb dX2_readLine_36 (by decide) ?_
        have hlo : fLo (fWord (g 7) L A).1 = 0 := by simp only [fLo, c9, if_true, if_false, z30]
        rw [show (0 : Int32) = fLo (fWord (g 7) L A).1 from hlo.symm]
        refine lv_goto (tgt := 41) hx hb dX2_readLine_37 (by decide) ?_
        refine lv_sipush (v := 9999) hx hb dX2_readLine_41 (by decide) ?_
        refine z_callVi X hH (c_X2_readNumber l D k a g u w t n L ((fNum (g 7) L ((fWord (g 7) L A).2) 0 3).2) eL hL (by omega) (fLo (fWord (g 7) L A).1) 9999 (fLo_01 _)) k_X2_49 (rv_X2 X hH) [] rfl rfl hl.1 (Nat.le_of_ble_eq_true rfl) ⟨Nat.le_of_ble_eq_true rfl, Nat.le_of_ble_eq_true rfl⟩ ⟨Nat.le_refl _, Nat.le_refl _⟩ dX2_readLine_44 (fun r10 g11 H locs h12 hH => ?_)
        rw [h12.2] at hH
        rw [h12.1]
        have b3 := fNum_b (x := g 7) (hi := 9999) (fLo_01 (fWord (g 7) L A).1) b2.2
        refine lv_istore (lv' := [(4, .int ((fNum (g 7) L ((fNum (g 7) L ((fWord (g 7) L A).2) 0 3).2) (fLo (fWord (g 7) L A).1) 9999).1)), (3, .int ((fNum (g 7) L ((fWord (g 7) L A).2) 0 3).1)), (2, .int ((fWord (g 7) L A).1)), (0, .ref (a 6 3)), (1, .int (nI N))]) hx hb dX2_readLine_47 hl (by decide) rfl (fun ls hl => ?_)
        refine lv_iload hx hb dX2_readLine_49 (lv_at hl 0 rfl) ?_
        refine lv_iconst (v := (-1)) hx hb dX2_readLine_51 (by decide) ?_
        refine lv_icmp_ne (tgt := 57) hx hb dX2_readLine_52 (by decide) (fun c13 => ?_) (fun c13 => ?_)
        · refine lv_aload_n hx hb dX2_readLine_57 rfl (lv_at hl 3 rfl) ?_
          refine gf_X2_words X hH q_188 dX2_readLine_58 ?_
          refine lv_iload_n hx hb dX2_readLine_61 rfl (lv_at hl 4 rfl) ?_
          refine lv_iload_n hx hb dX2_readLine_62 rfl (lv_at hl 2 rfl) ?_
          refine st_words X hH (N) (by omega) dX2_readLine_63 (fun H locs hH => ?_)
          refine lv_aload_n hx hb dX2_readLine_64 rfl (lv_at hl 3 rfl) ?_
          refine gf_X2_tables X hH q_190 dX2_readLine_65 ?_
          refine lv_iload_n hx hb dX2_readLine_68 rfl (lv_at hl 4 rfl) ?_
          refine lv_iload_n hx hb dX2_readLine_69 rfl (lv_at hl 1 rfl) ?_
          refine st_tables X hH (N) (by omega) dX2_readLine_70 (fun H locs hH => ?_)
          refine lv_aload_n hx hb dX2_readLine_71 rfl (lv_at hl 3 rfl) ?_
          refine gf_X2_numbers X hH q_192 dX2_readLine_72 ?_
          refine lv_iload_n hx hb dX2_readLine_75 rfl (lv_at hl 4 rfl) ?_
          refine lv_iload hx hb dX2_readLine_76 (lv_at hl 0 rfl) ?_
          refine st_numbers X hH (N) (by omega) dX2_readLine_78 (fun H locs hH => ?_)
          refine lv_iconst (v := 1) hx hb dX2_readLine_79 (by decide) ?_
          exact hret _ _ _ _ _ _ rfl ⟨by simp only [fLine, c4, c8, c13, okS, okT, okW, okN, hasP, zAct, if_true, if_false, not_true_eq_false, not_false_eq_true, and_self, or_true, true_or, or_false, false_or, and_true, true_and, and_false, false_and, or_self, Bool.false_eq_true, z10], by simp only [fLine, c4, c8, c13, okS, okT, okW, okN, hasP, zAct, if_true, if_false, not_true_eq_false, not_false_eq_true, and_self, or_true, true_or, or_false, false_or, and_true, true_and, and_false, false_and, or_self, Bool.false_eq_true, z10]⟩ hH dX2_readLine_80
        · refine lv_iconst (v := 0) hx hb dX2_readLine_55 (by decide) ?_
          exact hret _ _ _ _ _ _ rfl ⟨by simp only [fLine, c4, c8, c13, okS, okT, okW, okN, hasP, zAct, if_true, if_false, not_true_eq_false, not_false_eq_true, and_self, or_true, true_or, or_false, false_or, and_true, true_and, and_false, false_and, or_self, Bool.false_eq_true, z10], by simp only [fLine, c4, c8, c13, okS, okT, okW, okN, hasP, zAct, if_true, if_false, not_true_eq_false, not_false_eq_true, and_self, or_true, true_or, or_false, false_or, and_true, true_and, and_false, false_and, or_self, Bool.false_eq_true, z10]⟩ hH dX2_readLine_56
      · refine lv_iload_n hx hb dX2_readLine_31 rfl (lv_at hl 1 rfl) ?_
        refine lv_iconst (v := 3) hx hb dX2_readLine_32 (by decide) ?_
        refine lv_icmp_ne (tgt := 40) hx hb dX2_readLine_33 (by decide) (fun c14 => ?_) (fun c14 => ?_)
        · refine lv_iconst (v := 1) hx hb dX2_readLine_40 (by decide) ?_
          have hlo : fLo (fWord (g 7) L A).1 = 1 := by simp only [fLo, c9, c14, if_true, if_false, z30]
          rw [show (1 : Int32) = fLo (fWord (g 7) L A).1 from hlo.symm]
          refine lv_sipush (v := 9999) hx hb dX2_readLine_41 (by decide) ?_
          refine z_callVi X hH (c_X2_readNumber l D k a g u w t n L ((fNum (g 7) L ((fWord (g 7) L A).2) 0 3).2) eL hL (by omega) (fLo (fWord (g 7) L A).1) 9999 (fLo_01 _)) k_X2_49 (rv_X2 X hH) [] rfl rfl hl.1 (Nat.le_of_ble_eq_true rfl) ⟨Nat.le_of_ble_eq_true rfl, Nat.le_of_ble_eq_true rfl⟩ ⟨Nat.le_refl _, Nat.le_refl _⟩ dX2_readLine_44 (fun r15 g16 H locs h17 hH => ?_)
          rw [h17.2] at hH
          rw [h17.1]
          have b3 := fNum_b (x := g 7) (hi := 9999) (fLo_01 (fWord (g 7) L A).1) b2.2
          refine lv_istore (lv' := [(4, .int ((fNum (g 7) L ((fNum (g 7) L ((fWord (g 7) L A).2) 0 3).2) (fLo (fWord (g 7) L A).1) 9999).1)), (3, .int ((fNum (g 7) L ((fWord (g 7) L A).2) 0 3).1)), (2, .int ((fWord (g 7) L A).1)), (0, .ref (a 6 3)), (1, .int (nI N))]) hx hb dX2_readLine_47 hl (by decide) rfl (fun ls hl => ?_)
          refine lv_iload hx hb dX2_readLine_49 (lv_at hl 0 rfl) ?_
          refine lv_iconst (v := (-1)) hx hb dX2_readLine_51 (by decide) ?_
          refine lv_icmp_ne (tgt := 57) hx hb dX2_readLine_52 (by decide) (fun c18 => ?_) (fun c18 => ?_)
          · refine lv_aload_n hx hb dX2_readLine_57 rfl (lv_at hl 3 rfl) ?_
            refine gf_X2_words X hH q_188 dX2_readLine_58 ?_
            refine lv_iload_n hx hb dX2_readLine_61 rfl (lv_at hl 4 rfl) ?_
            refine lv_iload_n hx hb dX2_readLine_62 rfl (lv_at hl 2 rfl) ?_
            refine st_words X hH (N) (by omega) dX2_readLine_63 (fun H locs hH => ?_)
            refine lv_aload_n hx hb dX2_readLine_64 rfl (lv_at hl 3 rfl) ?_
            refine gf_X2_tables X hH q_190 dX2_readLine_65 ?_
            refine lv_iload_n hx hb dX2_readLine_68 rfl (lv_at hl 4 rfl) ?_
            refine lv_iload_n hx hb dX2_readLine_69 rfl (lv_at hl 1 rfl) ?_
            refine st_tables X hH (N) (by omega) dX2_readLine_70 (fun H locs hH => ?_)
            refine lv_aload_n hx hb dX2_readLine_71 rfl (lv_at hl 3 rfl) ?_
            refine gf_X2_numbers X hH q_192 dX2_readLine_72 ?_
            refine lv_iload_n hx hb dX2_readLine_75 rfl (lv_at hl 4 rfl) ?_
            refine lv_iload hx hb dX2_readLine_76 (lv_at hl 0 rfl) ?_
            refine st_numbers X hH (N) (by omega) dX2_readLine_78 (fun H locs hH => ?_)
            refine lv_iconst (v := 1) hx hb dX2_readLine_79 (by decide) ?_
            exact hret _ _ _ _ _ _ rfl ⟨by simp only [fLine, c4, c8, c18, okS, okT, okW, okN, hasP, zAct, if_true, if_false, not_true_eq_false, not_false_eq_true, and_self, or_true, true_or, or_false, false_or, and_true, true_and, and_false, false_and, or_self, Bool.false_eq_true, z10], by simp only [fLine, c4, c8, c18, okS, okT, okW, okN, hasP, zAct, if_true, if_false, not_true_eq_false, not_false_eq_true, and_self, or_true, true_or, or_false, false_or, and_true, true_and, and_false, false_and, or_self, Bool.false_eq_true, z10]⟩ hH dX2_readLine_80
          · refine lv_iconst (v := 0) hx hb dX2_readLine_55 (by decide) ?_
            exact hret _ _ _ _ _ _ rfl ⟨by simp only [fLine, c4, c8, c18, okS, okT, okW, okN, hasP, zAct, if_true, if_false, not_true_eq_false, not_false_eq_true, and_self, or_true, true_or, or_false, false_or, and_true, true_and, and_false, false_and, or_self, Bool.false_eq_true, z10], by simp only [fLine, c4, c8, c18, okS, okT, okW, okN, hasP, zAct, if_true, if_false, not_true_eq_false, not_false_eq_true, and_self, or_true, true_or, or_false, false_or, and_true, true_and, and_false, false_and, or_self, Bool.false_eq_true, z10]⟩ hH dX2_readLine_56
        · refine lv_iconst (v := 0) hx hb dX2_readLine_36 (by decide) ?_
          have hlo : fLo (fWord (g 7) L A).1 = 0 := by simp only [fLo, c9, c14, if_true, if_false, z30]
          rw [show (0 : Int32) = fLo (fWord (g 7) L A).1 from hlo.symm]
          refine lv_goto (tgt := 41) hx hb dX2_readLine_37 (by decide) ?_
          refine lv_sipush (v := 9999) hx hb dX2_readLine_41 (by decide) ?_
          refine z_callVi X hH (c_X2_readNumber l D k a g u w t n L ((fNum (g 7) L ((fWord (g 7) L A).2) 0 3).2) eL hL (by omega) (fLo (fWord (g 7) L A).1) 9999 (fLo_01 _)) k_X2_49 (rv_X2 X hH) [] rfl rfl hl.1 (Nat.le_of_ble_eq_true rfl) ⟨Nat.le_of_ble_eq_true rfl, Nat.le_of_ble_eq_true rfl⟩ ⟨Nat.le_refl _, Nat.le_refl _⟩ dX2_readLine_44 (fun r19 g20 H locs h21 hH => ?_)
          rw [h21.2] at hH
          rw [h21.1]
          have b3 := fNum_b (x := g 7) (hi := 9999) (fLo_01 (fWord (g 7) L A).1) b2.2
          refine lv_istore (lv' := [(4, .int ((fNum (g 7) L ((fNum (g 7) L ((fWord (g 7) L A).2) 0 3).2) (fLo (fWord (g 7) L A).1) 9999).1)), (3, .int ((fNum (g 7) L ((fWord (g 7) L A).2) 0 3).1)), (2, .int ((fWord (g 7) L A).1)), (0, .ref (a 6 3)), (1, .int (nI N))]) hx hb dX2_readLine_47 hl (by decide) rfl (fun ls hl => ?_)
          refine lv_iload hx hb dX2_readLine_49 (lv_at hl 0 rfl) ?_
          refine lv_iconst (v := (-1)) hx hb dX2_readLine_51 (by decide) ?_
          refine lv_icmp_ne (tgt := 57) hx hb dX2_readLine_52 (by decide) (fun c22 => ?_) (fun c22 => ?_)
          · refine lv_aload_n hx hb dX2_readLine_57 rfl (lv_at hl 3 rfl) ?_
            refine gf_X2_words X hH q_188 dX2_readLine_58 ?_
            refine lv_iload_n hx hb dX2_readLine_61 rfl (lv_at hl 4 rfl) ?_
            refine lv_iload_n hx hb dX2_readLine_62 rfl (lv_at hl 2 rfl) ?_
            refine st_words X hH (N) (by omega) dX2_readLine_63 (fun H locs hH => ?_)
            refine lv_aload_n hx hb dX2_readLine_64 rfl (lv_at hl 3 rfl) ?_
            refine gf_X2_tables X hH q_190 dX2_readLine_65 ?_
            refine lv_iload_n hx hb dX2_readLine_68 rfl (lv_at hl 4 rfl) ?_
            refine lv_iload_n hx hb dX2_readLine_69 rfl (lv_at hl 1 rfl) ?_
            refine st_tables X hH (N) (by omega) dX2_readLine_70 (fun H locs hH => ?_)
            refine lv_aload_n hx hb dX2_readLine_71 rfl (lv_at hl 3 rfl) ?_
            refine gf_X2_numbers X hH q_192 dX2_readLine_72 ?_
            refine lv_iload_n hx hb dX2_readLine_75 rfl (lv_at hl 4 rfl) ?_
            refine lv_iload hx hb dX2_readLine_76 (lv_at hl 0 rfl) ?_
            refine st_numbers X hH (N) (by omega) dX2_readLine_78 (fun H locs hH => ?_)
            refine lv_iconst (v := 1) hx hb dX2_readLine_79 (by decide) ?_
            exact hret _ _ _ _ _ _ rfl ⟨by simp only [fLine, c4, c8, c22, okS, okT, okW, okN, hasP, zAct, if_true, if_false, not_true_eq_false, not_false_eq_true, and_self, or_true, true_or, or_false, false_or, and_true, true_and, and_false, false_and, or_self, Bool.false_eq_true, z10], by simp only [fLine, c4, c8, c22, okS, okT, okW, okN, hasP, zAct, if_true, if_false, not_true_eq_false, not_false_eq_true, and_self, or_true, true_or, or_false, false_or, and_true, true_and, and_false, false_and, or_self, Bool.false_eq_true, z10]⟩ hH dX2_readLine_80
          · refine lv_iconst (v := 0) hx hb dX2_readLine_55 (by decide) ?_
            exact hret _ _ _ _ _ _ rfl ⟨by simp only [fLine, c4, c8, c22, okS, okT, okW, okN, hasP, zAct, if_true, if_false, not_true_eq_false, not_false_eq_true, and_self, or_true, true_or, or_false, false_or, and_true, true_and, and_false, false_and, or_self, Bool.false_eq_true, z10], by simp only [fLine, c4, c8, c22, okS, okT, okW, okN, hasP, zAct, if_true, if_false, not_true_eq_false, not_false_eq_true, and_self, or_true, true_or, or_false, false_or, and_true, true_and, and_false, false_and, or_self, Bool.false_eq_true, z10]⟩ hH dX2_readLine_56
    · refine lv_iconst (v := 0) hx hb dX2_readLine_24 (by decide) ?_
      exact hret _ _ _ _ _ _ rfl ⟨by simp only [fLine, c4, c8, okS, okT, okW, okN, hasP, zAct, if_true, if_false, not_true_eq_false, not_false_eq_true, and_self, or_true, true_or, or_false, false_or, and_true, true_and, and_false, false_and, or_self, Bool.false_eq_true, z10], by simp only [fLine, c4, c8, okS, okT, okW, okN, hasP, zAct, if_true, if_false, not_true_eq_false, not_false_eq_true, and_self, or_true, true_or, or_false, false_or, and_true, true_and, and_false, false_and, or_self, Bool.false_eq_true, z10]⟩ hH dX2_readLine_25
  · refine lv_iconst (v := 0) hx hb dX2_readLine_10 (by decide) ?_
    exact hret _ _ _ _ _ _ rfl ⟨by simp only [fLine, c4, okS, okT, okW, okN, hasP, zAct, if_true, if_false, not_true_eq_false, not_false_eq_true, and_self, or_true, true_or, or_false, false_or, and_true, true_and, and_false, false_and, or_self, Bool.false_eq_true, z10], by simp only [fLine, c4, okS, okT, okW, okN, hasP, zAct, if_true, if_false, not_true_eq_false, not_false_eq_true, and_self, or_true, true_or, or_false, false_or, and_true, true_and, and_false, false_and, or_self, Bool.false_eq_true, z10]⟩ hH dX2_readLine_11
