set_option maxRecDepth 100000 in
set_option maxHeartbeats 4000000 in
theorem c_X2_sign (l : Launch) (D : va_G) (k : Nat → ClassId) (a : Nat → Nat → Nat) (g : Mem) (u w t n : V) (L A : Nat) (eL : u 2 = nI L) (hL : L ≤ 80) (hA : A ≤ L) : zI l yX2_sign cX2_sign 1 .int 0 0 D k a [.ref (a 6 3)] (zT g (upd u 4 (nI A)) w t n) (fun r g' => r = (fSign (g 7) L A) ∧ g' = (zT g (upd u 4 (nI A)) w t n)) := by
  refine zI_of (own := RX2) (by decide +kernel) rfl (Nat.le_of_ble_eq_true rfl) ?_
  intro p e s m args below meth c X Q hret hH ls hl
  obtain ⟨hx, hb, hml, hown, hts⟩ := X.1
  have hl : lv_has ls 1 [(0, .ref (a 6 3))] := hl
  have hH : zH D k a s (zT g (upd u 4 (nI A)) w t n) s.heap [] := hH
  refine lv_aload_n hx hb dX2_sign_0 rfl (lv_at hl 0 rfl) ?_
  refine gt_X2_at X hH q_196 dX2_sign_1 ?_
  rw [show (upd u 4 (nI A)) 4 = nI A from (zu_s _ _ _)]
  refine i_if_lt (tgt := 39) hx hb dX2_sign_4 (by decide) (fun q => absurd q (nI_pos (by omega))) (fun _ => ?_)
  refine lv_aload_n hx hb dX2_sign_7 rfl (lv_at hl 0 rfl) ?_
  refine gt_X2_at X hH q_196 dX2_sign_8 ?_
  rw [show (upd u 4 (nI A)) 4 = nI A from (zu_s _ _ _)]
  refine lv_aload_n hx hb dX2_sign_11 rfl (lv_at hl 0 rfl) ?_
  refine gt_X2_length X hH q_186 dX2_sign_12 ?_
  rw [show (upd u 4 (nI A)) 2 = u 2 from (zu_n _ _ (by omega))]
  rw [eL]
  refine n_icmp_ge (A := A) (B := L) (tgt := 39) hx hb (by omega) (by omega) dX2_sign_15 (by decide) (fun c1 => ?_) (fun c1 => ?_)
  · refine lv_iconst (v := (-1)) hx hb dX2_sign_39 (by decide) ?_
    exact hret _ _ _ _ _ _ rfl ⟨by rw [fSign, if_neg (by omega)], rfl⟩ hH dX2_sign_40
  · refine lv_aload_n hx hb dX2_sign_18 rfl (lv_at hl 0 rfl) ?_
    refine gt_X2_at X hH q_196 dX2_sign_19 ?_
    rw [show (upd u 4 (nI A)) 4 = nI A from (zu_s _ _ _)]
    refine lv_bipush (v := 80) hx hb dX2_sign_22 (by decide) ?_
    refine n_icmp_ge (A := A) (B := 80) (tgt := 39) hx hb (by omega) (by omega) dX2_sign_24 (by decide) (fun q => absurd q (by omega)) (fun c2 => ?_)
    refine lv_aload_n hx hb dX2_sign_27 rfl (lv_at hl 0 rfl) ?_
    refine gf_X2_signs X hH q_185 dX2_sign_28 ?_
    refine lv_aload_n hx hb dX2_sign_31 rfl (lv_at hl 0 rfl) ?_
    refine gt_X2_at X hH q_196 dX2_sign_32 ?_
    rw [show (upd u 4 (nI A)) 4 = nI A from (zu_s _ _ _)]
    refine at_signs X hH (A) (by omega) dX2_sign_35 ?_
    refine lv_goto (tgt := 40) hx hb dX2_sign_36 (by decide) ?_
    exact hret _ _ _ _ _ _ rfl ⟨by rw [fSign, if_pos (by omega)], rfl⟩ hH dX2_sign_40
set_option maxRecDepth 100000 in
set_option maxHeartbeats 4000000 in
theorem c_X2_digit (l : Launch) (D : va_G) (k : Nat → ClassId) (a : Nat → Nat → Nat) (g : Mem) (u w t n : V) (L A : Nat) (eL : u 2 = nI L) (hL : L ≤ 80) (hA : A ≤ L) : zI l yX2_digit cX2_digit 2 .int 1 20 D k a [.ref (a 6 3)] (zT g (upd u 4 (nI A)) w t n) (fun r g' => r = (fDigit (g 7) L A) ∧ g' = (zT g (upd u 4 (nI A)) w t n)) := by
  refine zI_of (own := RX2) (by decide +kernel) rfl (Nat.le_of_ble_eq_true rfl) ?_
  intro p e s m args below meth c X Q hret hH ls hl
  obtain ⟨hx, hb, hml, hown, hts⟩ := X.1
  have hl : lv_has ls 2 [(0, .ref (a 6 3))] := hl
  have hH : zH D k a s (zT g (upd u 4 (nI A)) w t n) s.heap [] := hH
  refine lv_aload_n hx hb dX2_digit_0 rfl (lv_at hl 0 rfl) ?_
  refine z_callVi X hH (c_X2_sign l D k a g u w t n L (A) eL hL (by omega)) k_X2_53 (rv_X2 X hH) [] rfl rfl hl.1 (Nat.le_of_ble_eq_true rfl) ⟨Nat.le_of_ble_eq_true rfl, Nat.le_of_ble_eq_true rfl⟩ ⟨Nat.le_refl _, Nat.le_refl _⟩ dX2_digit_1 (fun r1 g2 H locs h3 hH => ?_)
  rw [h3.2] at hH
  rw [h3.1]
  refine lv_istore_n (lv' := [(1, .int (fSign (g 7) L A)), (0, .ref (a 6 3))]) hx hb dX2_digit_4 rfl hl (by decide) rfl (fun ls hl => ?_)
  refine lv_iload_n hx hb dX2_digit_5 rfl (lv_at hl 0 rfl) ?_
  refine lv_bipush (v := 48) hx hb dX2_digit_6 (by decide) ?_
  refine i_icmp_lt (tgt := 24) hx hb dX2_digit_8 (by decide) (fun c4 => ?_) (fun c4 => ?_)
  · refine lv_iconst (v := (-1)) hx hb dX2_digit_24 (by decide) ?_
    exact hret _ _ _ _ _ _ rfl ⟨by simp only [fDigit, c4, if_true, if_false], rfl⟩ hH dX2_digit_25
  · refine lv_iload_n hx hb dX2_digit_11 rfl (lv_at hl 0 rfl) ?_
    refine lv_bipush (v := 57) hx hb dX2_digit_12 (by decide) ?_
    refine i_icmp_gt (tgt := 24) hx hb dX2_digit_14 (by decide) (fun c5 => ?_) (fun c5 => ?_)
    · refine lv_iconst (v := (-1)) hx hb dX2_digit_24 (by decide) ?_
      exact hret _ _ _ _ _ _ rfl ⟨by simp only [fDigit, c4, c5, if_true, if_false], rfl⟩ hH dX2_digit_25
    · refine lv_iload_n hx hb dX2_digit_17 rfl (lv_at hl 0 rfl) ?_
      refine lv_bipush (v := 48) hx hb dX2_digit_18 (by decide) ?_
      refine lv_isub hx hb dX2_digit_20 ?_
      refine lv_goto (tgt := 25) hx hb dX2_digit_21 (by decide) ?_
      exact hret _ _ _ _ _ _ rfl ⟨by simp only [fDigit, c4, c5, if_true, if_false], rfl⟩ hH dX2_digit_25
set_option maxRecDepth 100000 in
set_option maxHeartbeats 4000000 in
theorem c_X2_pass (l : Launch) (D : va_G) (k : Nat → ClassId) (a : Nat → Nat → Nat) (g : Mem) (u w t n : V) (L A : Nat) (eL : u 2 = nI L) (hL : L ≤ 80) (hA : A ≤ L) (si : Nat) (hsi : si < 7) : zI l yX2_pass cX2_pass 3 .boolean 4 85 D k a [.ref (a 6 3), .ref (a 9 si)] (zT g (upd u 4 (nI A)) w t n) (fun r g' => r = (if (fPass (g 7) L A (zCs si)).1 = true then 1 else 0) ∧ g' = (zT g (upd u 4 (nI ((fPass (g 7) L A (zCs si)).2))) w t n)) := by
  refine zI_of (own := RX2) (by decide +kernel) rfl (Nat.le_of_ble_eq_true rfl) ?_
  intro p e s m args below meth c X Q hret hH ls hl
  obtain ⟨hx, hb, hml, hown, hts⟩ := X.1
  have hl : lv_has ls 3 [(0, .ref (a 6 3)), (1, .ref (a 9 si))] := hl
  have hH : zH D k a s (zT g (upd u 4 (nI A)) w t n) s.heap [] := hH
  have hln := zLn_4 si hsi
  refine lv_iconst (v := 0) hx hb dX2_pass_0 (by decide) ?_
  refine lv_istore_n (lv' := [(2, .int 0), (0, .ref (a 6 3)), (1, .ref (a 9 si))]) hx hb dX2_pass_1 rfl hl (by decide) rfl (fun ls hl => ?_)
  have Lp : ∀ (jx i : Nat), i + jx = zLn si → A + i ≤ L → fPass (g 7) L A (zCs si) = fPass (g 7) L (A + i) ((zCs si).drop i) → ∀ (H : Heap) (locs : List Loc) (ls : Array Slot), zH D k a s (zT g (upd u 4 (nI (A + i))) w t n) H locs → lv_has ls 3 [(2, .int (nI i)), (0, .ref (a 6 3)), (1, .ref (a 9 si))] → W p l e (zRoom 4 85) s m args below meth c H locs 0 0 Q (F0 m 2 ls []) := by
    intro jx
    induction jx with
    | zero =>
      intro i hix hAi hv H locs ls hH hl
      have hi : i = zLn si := by omega
      have hv2 : fPass (g 7) L A (zCs si) = (true, A + i) := by rw [hv, hi, show (zCs si).drop (zLn si) = [] from zCs_e si hsi]; rfl
      refine lv_iload_n hx hb dX2_pass_2 rfl (lv_at hl 0 rfl) ?_
      refine lv_aload_n hx hb dX2_pass_3 rfl (lv_at hl 2 rfl) ?_
      refine z_callVi X hH (c_J0_length_8abf5 l D k a (zT g (upd u 4 (nI (A + i))) w t n) (si) hsi) k_X2_74 (vk_recv X.2.2.2.2.2.2.2.1 hsi hH.2) [.int (nI i)] rfl rfl hl.1 (Nat.le_of_ble_eq_true rfl) ⟨Nat.le_of_ble_eq_true rfl, Nat.le_of_ble_eq_true rfl⟩ ⟨Nat.le_refl _, Nat.le_refl _⟩ dX2_pass_4 (fun r1 g2 H locs h3 hH => ?_)
      rw [h3.2] at hH
      rw [h3.1]
      refine n_icmp_ge (A := i) (B := zLn si) (tgt := 40) hx hb (by omega) (by omega) dX2_pass_7 (by decide) (fun c4 => ?_) (fun q => absurd q (by omega))
      refine lv_iconst (v := 1) hx hb dX2_pass_40 (by decide) ?_
      exact hret _ _ _ _ _ _ rfl ⟨by rw [hv2]; rfl, by rw [hv2]⟩ hH dX2_pass_41
    | succ jx ih =>
      intro i hix hAi hv H locs ls hH hl
      have hi : i < zLn si := by omega
      rw [show (zCs si).drop i = zCh si i :: (zCs si).drop (i + 1) from zCs_d si hsi i hi] at hv
      refine lv_iload_n hx hb dX2_pass_2 rfl (lv_at hl 0 rfl) ?_
      refine lv_aload_n hx hb dX2_pass_3 rfl (lv_at hl 2 rfl) ?_
      refine z_callVi X hH (c_J0_length_8abf5 l D k a (zT g (upd u 4 (nI (A + i))) w t n) (si) hsi) k_X2_74 (vk_recv X.2.2.2.2.2.2.2.1 hsi hH.2) [.int (nI i)] rfl rfl hl.1 (Nat.le_of_ble_eq_true rfl) ⟨Nat.le_of_ble_eq_true rfl, Nat.le_of_ble_eq_true rfl⟩ ⟨Nat.le_refl _, Nat.le_refl _⟩ dX2_pass_4 (fun r5 g6 H locs h7 hH => ?_)
      rw [h7.2] at hH
      rw [h7.1]
      refine n_icmp_ge (A := i) (B := zLn si) (tgt := 40) hx hb (by omega) (by omega) dX2_pass_7 (by decide) (fun q => absurd q (by omega)) (fun c8 => ?_)
      refine lv_aload_n hx hb dX2_pass_10 rfl (lv_at hl 1 rfl) ?_
      refine z_callVi X hH (c_X2_sign l D k a g u w t n L (A + i) eL hL (by omega)) k_X2_53 (rv_X2 X hH) [] rfl rfl hl.1 (Nat.le_of_ble_eq_true rfl) ⟨Nat.le_of_ble_eq_true rfl, Nat.le_of_ble_eq_true rfl⟩ ⟨Nat.le_refl _, Nat.le_refl _⟩ dX2_pass_11 (fun r9 g10 H locs h11 hH => ?_)
      rw [h11.2] at hH
      rw [h11.1]
      refine lv_aload_n hx hb dX2_pass_14 rfl (lv_at hl 2 rfl) ?_
      refine lv_iload_n hx hb dX2_pass_15 rfl (lv_at hl 0 rfl) ?_
      refine z_callVi X hH (c_J0_charAt_5068e l D k a (zT g (upd u 4 (nI (A + i))) w t n) (si) hsi (i) (by omega)) k_X2_78 (vk_recv X.2.2.2.2.2.2.2.1 hsi hH.2) [.int (fSign (g 7) L (A + i))] rfl rfl hl.1 (Nat.le_of_ble_eq_true rfl) ⟨Nat.le_of_ble_eq_true rfl, Nat.le_of_ble_eq_true rfl⟩ ⟨Nat.le_refl _, Nat.le_refl _⟩ dX2_pass_16 (fun r12 g13 H locs h14 hH => ?_)
      rw [h14.2] at hH
      rw [h14.1]
      refine lv_icmp_eq (tgt := 24) hx hb dX2_pass_19 (by decide) (fun c15 => ?_) (fun c15 => ?_)
      · refine lv_aload_n hx hb dX2_pass_24 rfl (lv_at hl 1 rfl) ?_
        refine lv_dup hx hb dX2_pass_25 rfl ?_
        refine gt_X2_at X hH q_196 dX2_pass_26 ?_
        rw [show (upd u 4 (nI (A + i))) 4 = nI (A + i) from (zu_s _ _ _)]
        refine lv_iconst (v := 1) hx hb dX2_pass_29 (by decide) ?_
        refine n_iadd (A := A + i) (B := 1) hx hb (A + i + 1) (by omega) dX2_pass_30 ?_
        refine pt_X2_at X hH q_196 dX2_pass_31 (fun H locs hH => ?_)
        rw [zu_u] at hH
        refine lv_iinc (v := nI (i + 1)) (lv' := [(2, .int (nI (i + 1))), (0, .ref (a 6 3)), (1, .ref (a 9 si))]) hx hb dX2_pass_34 hl (k := 0) rfl (z_inc1 _) (by decide) rfl (fun ls hl => ?_)
        refine lv_goto (tgt := 2) hx hb dX2_pass_37 (by decide) ?_
        exact ih (i + 1) (by omega) (Nat.succ_le_of_lt (fSign_lt (x := g 7) (L := L) (A := A + i) (by rw [c15]; exact zCh_ne si hsi i hi))) (by rw [hv, fPass, if_pos c15]; rfl) _ _ _ hH (lv_sub hl [0, 1, 2] rfl)
      · refine lv_iconst (v := 0) hx hb dX2_pass_22 (by decide) ?_
        exact hret _ _ _ _ _ _ rfl ⟨by rw [hv, fPass, if_neg c15]; rfl, by rw [hv, fPass, if_neg c15]⟩ hH dX2_pass_23
  exact Lp (zLn si) 0 (by omega) hA rfl _ _ _ hH (lv_sub hl [0, 1, 2] rfl)
set_option maxRecDepth 100000 in
set_option maxHeartbeats 4000000 in
theorem c_X2_readKeyOrKeys (l : Launch) (D : va_G) (k : Nat → ClassId) (a : Nat → Nat → Nat) (g : Mem) (u w t n : V) (L A : Nat) (eL : u 2 = nI L) (hL : L ≤ 80) (hA : A ≤ L) : zI l yX2_readKeyOrKeys cX2_readKeyOrKeys 1 .int 5 107 D k a [.ref (a 6 3)] (zT g (upd u 4 (nI A)) w t n) (fun r g' => r = ((fKey (g 7) L A).1) ∧ g' = (zT g (upd u 4 (nI ((fKey (g 7) L A).2))) w t n)) := by
  refine zI_of (own := RX2) (by decide +kernel) rfl (Nat.le_of_ble_eq_true rfl) ?_
  intro p e s m args below meth c X Q hret hH ls hl
  obtain ⟨hx, hb, hml, hown, hts⟩ := X.1
  have hl : lv_has ls 1 [(0, .ref (a 6 3))] := hl
  have hH : zH D k a s (zT g (upd u 4 (nI A)) w t n) s.heap [] := hH
  obtain ⟨-, -, -, -, -, -, -, -, -, hr0, hr1, hr2, hr3, hr4, hr5, hr6⟩ := X.2.2.2
  refine lv_aload_n hx hb dX2_readKeyOrKeys_0 rfl (lv_at hl 0 rfl) ?_
  refine va_ldcS hx hb hown hr0 dX2_readKeyOrKeys_1 ?_
  refine z_callVi X hH (c_X2_pass l D k a g u w t n L (A) eL hL (by omega) 0 (by decide)) k_X2_41 (rv_X2 X hH) [] rfl rfl hl.1 (Nat.le_of_ble_eq_true rfl) ⟨Nat.le_of_ble_eq_true rfl, Nat.le_of_ble_eq_true rfl⟩ ⟨Nat.le_refl _, Nat.le_refl _⟩ dX2_readKeyOrKeys_3 (fun r1 g2 H locs h3 hH => ?_)
  rw [h3.2] at hH
  rw [h3.1]
  have b4 := fPass_z (x := g 7) (L := L) (A := A) 0 (by decide) (by omega)
  refine b_ifne (P := (fPass (g 7) L A (zCs 0)).1 = true) (tgt := 11) hx hb dX2_readKeyOrKeys_6 (by decide) (fun c5 => ?_) (fun c5 => ?_)
  · refine lv_aload_n hx hb dX2_readKeyOrKeys_11 rfl (lv_at hl 0 rfl) ?_
    refine va_ldcS hx hb hown hr1 dX2_readKeyOrKeys_12 ?_
    refine z_callVi X hH (c_X2_pass l D k a g u w t n L ((fPass (g 7) L A (zCs 0)).2) eL hL (by omega) 1 (by decide)) k_X2_41 (rv_X2 X hH) [] rfl rfl hl.1 (Nat.le_of_ble_eq_true rfl) ⟨Nat.le_of_ble_eq_true rfl, Nat.le_of_ble_eq_true rfl⟩ ⟨Nat.le_refl _, Nat.le_refl _⟩ dX2_readKeyOrKeys_14 (fun r6 g7 H locs h8 hH => ?_)
    rw [h8.2] at hH
    rw [h8.1]
    have b9 := fPass_z (x := g 7) (L := L) (A := ((fPass (g 7) L A (zCs 0)).2)) 1 (by decide) (by omega)
    refine b_ifeq (P := (fPass (g 7) L ((fPass (g 7) L A (zCs 0)).2) (zCs 1)).1 = true) (tgt := 24) hx hb dX2_readKeyOrKeys_17 (by decide) (fun c10 => ?_) (fun c10 => ?_)
    · refine lv_iconst (v := 0) hx hb dX2_readKeyOrKeys_24 (by decide) ?_
      exact hret _ _ _ _ _ _ rfl ⟨by simp only [fKey, c5, c10, okS, okT, okW, okN, hasP, zAct, if_true, if_false, not_true_eq_false, not_false_eq_true, and_self, or_true, true_or, or_false, false_or, and_true, true_and, and_false, false_and, or_self, Bool.false_eq_true, z10], by simp only [fKey, c5, c10, okS, okT, okW, okN, hasP, zAct, if_true, if_false, not_true_eq_false, not_false_eq_true, and_self, or_true, true_or, or_false, false_or, and_true, true_and, and_false, false_and, or_self, Bool.false_eq_true, z10]⟩ hH dX2_readKeyOrKeys_25
    · refine lv_iconst (v := 4) hx hb dX2_readKeyOrKeys_20 (by decide) ?_
      refine lv_goto (tgt := 25) hx hb dX2_readKeyOrKeys_21 (by decide) ?_
      exact hret _ _ _ _ _ _ rfl ⟨by simp only [fKey, c5, c10, okS, okT, okW, okN, hasP, zAct, if_true, if_false, not_true_eq_false, not_false_eq_true, and_self, or_true, true_or, or_false, false_or, and_true, true_and, and_false, false_and, or_self, Bool.false_eq_true, z10], by simp only [fKey, c5, c10, okS, okT, okW, okN, hasP, zAct, if_true, if_false, not_true_eq_false, not_false_eq_true, and_self, or_true, true_or, or_false, false_or, and_true, true_and, and_false, false_and, or_self, Bool.false_eq_true, z10]⟩ hH dX2_readKeyOrKeys_25
  · refine lv_iconst (v := (-1)) hx hb dX2_readKeyOrKeys_9 (by decide) ?_
    exact hret _ _ _ _ _ _ rfl ⟨by simp only [fKey, c5, okS, okT, okW, okN, hasP, zAct, if_true, if_false, not_true_eq_false, not_false_eq_true, and_self, or_true, true_or, or_false, false_or, and_true, true_and, and_false, false_and, or_self, Bool.false_eq_true, z10], by simp only [fKey, c5, okS, okT, okW, okN, hasP, zAct, if_true, if_false, not_true_eq_false, not_false_eq_true, and_self, or_true, true_or, or_false, false_or, and_true, true_and, and_false, false_and, or_self, Bool.false_eq_true, z10]⟩ hH dX2_readKeyOrKeys_10
set_option maxRecDepth 100000 in
set_option maxHeartbeats 4000000 in
theorem c_X2_readWord (l : Launch) (D : va_G) (k : Nat → ClassId) (a : Nat → Nat → Nat) (g : Mem) (u w t n : V) (L A : Nat) (eL : u 2 = nI L) (hL : L ≤ 80) (hA : A ≤ L) : zI l yX2_readWord cX2_readWord 1 .int 6 127 D k a [.ref (a 6 3)] (zT g (upd u 4 (nI A)) w t n) (fun r g' => r = ((fWord (g 7) L A).1) ∧ g' = (zT g (upd u 4 (nI ((fWord (g 7) L A).2))) w t n)) := by
  refine zI_of (own := RX2) (by decide +kernel) rfl (Nat.le_of_ble_eq_true rfl) ?_
  intro p e s m args below meth c X Q hret hH ls hl
  obtain ⟨hx, hb, hml, hown, hts⟩ := X.1
  have hl : lv_has ls 1 [(0, .ref (a 6 3))] := hl
  have hH : zH D k a s (zT g (upd u 4 (nI A)) w t n) s.heap [] := hH
  obtain ⟨-, -, -, -, -, -, -, -, -, hr0, hr1, hr2, hr3, hr4, hr5, hr6⟩ := X.2.2.2
  refine lv_aload_n hx hb dX2_readWord_0 rfl (lv_at hl 0 rfl) ?_
  refine z_callVi X hH (c_X2_sign l D k a g u w t n L (A) eL hL (by omega)) k_X2_53 (rv_X2 X hH) [] rfl rfl hl.1 (Nat.le_of_ble_eq_true rfl) ⟨Nat.le_of_ble_eq_true rfl, Nat.le_of_ble_eq_true rfl⟩ ⟨Nat.le_refl _, Nat.le_refl _⟩ dX2_readWord_1 (fun r1 g2 H locs h3 hH => ?_)
  rw [h3.2] at hH
  rw [h3.1]
  by_cases c4 : fSign (g 7) L A = 107
  · refine lv_tableIn (off := 56) (tgt := 60) hx hb dX2_readWord_4 (by rw [c4]; decide) (by rw [c4]; decide) (by rw [c4]; rfl) (by decide) ?_
    refine lv_aload_n hx hb dX2_readWord_60 rfl (lv_at hl 0 rfl) ?_
    refine z_callVi X hH (c_X2_readKeyOrKeys l D k a g u w t n L (A) eL hL (by omega)) k_X2_56 (rv_X2 X hH) [] rfl rfl hl.1 (Nat.le_of_ble_eq_true rfl) ⟨Nat.le_of_ble_eq_true rfl, Nat.le_of_ble_eq_true rfl⟩ ⟨Nat.le_refl _, Nat.le_refl _⟩ dX2_readWord_61 (fun r5 g6 H locs h7 hH => ?_)
    rw [h7.2] at hH
    rw [h7.1]
    exact hret _ _ _ _ _ _ rfl ⟨by simp [fWord, fWd, c4], by simp [fWord, fWd, c4]⟩ hH dX2_readWord_64
  by_cases c8 : fSign (g 7) L A = 108
  · refine lv_tableIn (off := 106) (tgt := 110) hx hb dX2_readWord_4 (by rw [c8]; decide) (by rw [c8]; decide) (by rw [c8]; rfl) (by decide) ?_
    refine lv_iconst (v := (-1)) hx hb dX2_readWord_110 (by decide) ?_
    exact hret _ _ _ _ _ _ rfl ⟨by simp [fWord, fWd, c4, c8], by simp [fWord, fWd, c4, c8]⟩ hH dX2_readWord_111
  by_cases c9 : fSign (g 7) L A = 109
  · refine lv_tableIn (off := 106) (tgt := 110) hx hb dX2_readWord_4 (by rw [c9]; decide) (by rw [c9]; decide) (by rw [c9]; rfl) (by decide) ?_
    refine lv_iconst (v := (-1)) hx hb dX2_readWord_110 (by decide) ?_
    exact hret _ _ _ _ _ _ rfl ⟨by simp [fWord, fWd, c4, c8, c9], by simp [fWord, fWd, c4, c8, c9]⟩ hH dX2_readWord_111
  by_cases c10 : fSign (g 7) L A = 110
  · refine lv_tableIn (off := 106) (tgt := 110) hx hb dX2_readWord_4 (by rw [c10]; decide) (by rw [c10]; decide) (by rw [c10]; rfl) (by decide) ?_
    refine lv_iconst (v := (-1)) hx hb dX2_readWord_110 (by decide) ?_
    exact hret _ _ _ _ _ _ rfl ⟨by simp [fWord, fWd, c4, c8, c9, c10], by simp [fWord, fWd, c4, c8, c9, c10]⟩ hH dX2_readWord_111
  by_cases c11 : fSign (g 7) L A = 111
  · refine lv_tableIn (off := 106) (tgt := 110) hx hb dX2_readWord_4 (by rw [c11]; decide) (by rw [c11]; decide) (by rw [c11]; rfl) (by decide) ?_
    refine lv_iconst (v := (-1)) hx hb dX2_readWord_110 (by decide) ?_
    exact hret _ _ _ _ _ _ rfl ⟨by simp [fWord, fWd, c4, c8, c9, c10, c11], by simp [fWord, fWd, c4, c8, c9, c10, c11]⟩ hH dX2_readWord_111
  by_cases c12 : fSign (g 7) L A = 112
  · refine lv_tableIn (off := 106) (tgt := 110) hx hb dX2_readWord_4 (by rw [c12]; decide) (by rw [c12]; decide) (by rw [c12]; rfl) (by decide) ?_
    refine lv_iconst (v := (-1)) hx hb dX2_readWord_110 (by decide) ?_
    exact hret _ _ _ _ _ _ rfl ⟨by simp [fWord, fWd, c4, c8, c9, c10, c11, c12], by simp [fWord, fWd, c4, c8, c9, c10, c11, c12]⟩ hH dX2_readWord_111
  by_cases c13 : fSign (g 7) L A = 113
  · refine lv_tableIn (off := 106) (tgt := 110) hx hb dX2_readWord_4 (by rw [c13]; decide) (by rw [c13]; decide) (by rw [c13]; rfl) (by decide) ?_
    refine lv_iconst (v := (-1)) hx hb dX2_readWord_110 (by decide) ?_
    exact hret _ _ _ _ _ _ rfl ⟨by simp [fWord, fWd, c4, c8, c9, c10, c11, c12, c13], by simp [fWord, fWd, c4, c8, c9, c10, c11, c12, c13]⟩ hH dX2_readWord_111
  by_cases c14 : fSign (g 7) L A = 114
  · refine lv_tableIn (off := 91) (tgt := 95) hx hb dX2_readWord_4 (by rw [c14]; decide) (by rw [c14]; decide) (by rw [c14]; rfl) (by decide) ?_
    refine lv_aload_n hx hb dX2_readWord_95 rfl (lv_at hl 0 rfl) ?_
    refine va_ldcS hx hb hown hr4 dX2_readWord_96 ?_
    refine z_callVi X hH (c_X2_pass l D k a g u w t n L (A) eL hL (by omega) 4 (by decide)) k_X2_41 (rv_X2 X hH) [] rfl rfl hl.1 (Nat.le_of_ble_eq_true rfl) ⟨Nat.le_of_ble_eq_true rfl, Nat.le_of_ble_eq_true rfl⟩ ⟨Nat.le_refl _, Nat.le_refl _⟩ dX2_readWord_98 (fun r15 g16 H locs h17 hH => ?_)
    rw [h17.2] at hH
    rw [h17.1]
    refine b_ifeq (P := (fPass (g 7) L A (zCs 4)).1 = true) (tgt := 108) hx hb dX2_readWord_101 (by decide) (fun c18 => ?_) (fun c18 => ?_)
    · refine lv_iconst (v := (-1)) hx hb dX2_readWord_108 (by decide) ?_
      exact hret _ _ _ _ _ _ rfl ⟨by simp [fWord, fWd, c4, c8, c9, c10, c11, c12, c13, c14, c18], by simp [fWord, fWd, c4, c8, c9, c10, c11, c12, c13, c14, c18]⟩ hH dX2_readWord_109
    · refine lv_iconst (v := 3) hx hb dX2_readWord_104 (by decide) ?_
      refine lv_goto (tgt := 109) hx hb dX2_readWord_105 (by decide) ?_
      exact hret _ _ _ _ _ _ rfl ⟨by simp [fWord, fWd, c4, c8, c9, c10, c11, c12, c13, c14, c18], by simp [fWord, fWd, c4, c8, c9, c10, c11, c12, c13, c14, c18]⟩ hH dX2_readWord_109
  by_cases c19 : fSign (g 7) L A = 115
  · refine lv_tableIn (off := 61) (tgt := 65) hx hb dX2_readWord_4 (by rw [c19]; decide) (by rw [c19]; decide) (by rw [c19]; rfl) (by decide) ?_
    refine lv_aload_n hx hb dX2_readWord_65 rfl (lv_at hl 0 rfl) ?_
    refine va_ldcS hx hb hown hr2 dX2_readWord_66 ?_
    refine z_callVi X hH (c_X2_pass l D k a g u w t n L (A) eL hL (by omega) 2 (by decide)) k_X2_41 (rv_X2 X hH) [] rfl rfl hl.1 (Nat.le_of_ble_eq_true rfl) ⟨Nat.le_of_ble_eq_true rfl, Nat.le_of_ble_eq_true rfl⟩ ⟨Nat.le_refl _, Nat.le_refl _⟩ dX2_readWord_68 (fun r20 g21 H locs h22 hH => ?_)
    rw [h22.2] at hH
    rw [h22.1]
    refine b_ifeq (P := (fPass (g 7) L A (zCs 2)).1 = true) (tgt := 78) hx hb dX2_readWord_71 (by decide) (fun c23 => ?_) (fun c23 => ?_)
    · refine lv_iconst (v := (-1)) hx hb dX2_readWord_78 (by decide) ?_
      exact hret _ _ _ _ _ _ rfl ⟨by simp [fWord, fWd, c4, c8, c9, c10, c11, c12, c13, c14, c19, c23], by simp [fWord, fWd, c4, c8, c9, c10, c11, c12, c13, c14, c19, c23]⟩ hH dX2_readWord_79
    · refine lv_iconst (v := 1) hx hb dX2_readWord_74 (by decide) ?_
      refine lv_goto (tgt := 79) hx hb dX2_readWord_75 (by decide) ?_
      exact hret _ _ _ _ _ _ rfl ⟨by simp [fWord, fWd, c4, c8, c9, c10, c11, c12, c13, c14, c19, c23], by simp [fWord, fWd, c4, c8, c9, c10, c11, c12, c13, c14, c19, c23]⟩ hH dX2_readWord_79
  by_cases c24 : fSign (g 7) L A = 116
  · refine lv_tableIn (off := 76) (tgt := 80) hx hb dX2_readWord_4 (by rw [c24]; decide) (by rw [c24]; decide) (by rw [c24]; rfl) (by decide) ?_
    refine lv_aload_n hx hb dX2_readWord_80 rfl (lv_at hl 0 rfl) ?_
    refine va_ldcS hx hb hown hr3 dX2_readWord_81 ?_
    refine z_callVi X hH (c_X2_pass l D k a g u w t n L (A) eL hL (by omega) 3 (by decide)) k_X2_41 (rv_X2 X hH) [] rfl rfl hl.1 (Nat.le_of_ble_eq_true rfl) ⟨Nat.le_of_ble_eq_true rfl, Nat.le_of_ble_eq_true rfl⟩ ⟨Nat.le_refl _, Nat.le_refl _⟩ dX2_readWord_83 (fun r25 g26 H locs h27 hH => ?_)
    rw [h27.2] at hH
    rw [h27.1]
    refine b_ifeq (P := (fPass (g 7) L A (zCs 3)).1 = true) (tgt := 93) hx hb dX2_readWord_86 (by decide) (fun c28 => ?_) (fun c28 => ?_)
    · refine lv_iconst (v := (-1)) hx hb dX2_readWord_93 (by decide) ?_
      exact hret _ _ _ _ _ _ rfl ⟨by simp [fWord, fWd, c4, c8, c9, c10, c11, c12, c13, c14, c19, c24, c28], by simp [fWord, fWd, c4, c8, c9, c10, c11, c12, c13, c14, c19, c24, c28]⟩ hH dX2_readWord_94
    · refine lv_iconst (v := 2) hx hb dX2_readWord_89 (by decide) ?_
      refine lv_goto (tgt := 94) hx hb dX2_readWord_90 (by decide) ?_
      exact hret _ _ _ _ _ _ rfl ⟨by simp [fWord, fWd, c4, c8, c9, c10, c11, c12, c13, c14, c19, c24, c28], by simp [fWord, fWd, c4, c8, c9, c10, c11, c12, c13, c14, c19, c24, c28]⟩ hH dX2_readWord_94
  refine lv_tableOut (tgt := 110) hx hb dX2_readWord_4 (by have q0 := lv_neT (a := 107) c4 (by decide); have q1 := lv_neT (a := 108) c8 (by decide); have q2 := lv_neT (a := 109) c9 (by decide); have q3 := lv_neT (a := 110) c10 (by decide); have q4 := lv_neT (a := 111) c11 (by decide); have q5 := lv_neT (a := 112) c12 (by decide); have q6 := lv_neT (a := 113) c13 (by decide); have q7 := lv_neT (a := 114) c14 (by decide); have q8 := lv_neT (a := 115) c19 (by decide); have q9 := lv_neT (a := 116) c24 (by decide); omega) (by decide) ?_
  refine lv_iconst (v := (-1)) hx hb dX2_readWord_110 (by decide) ?_
  exact hret _ _ _ _ _ _ rfl ⟨by simp [fWord, fWd, c4, c8, c9, c10, c11, c12, c13, c14, c19, c24], by simp [fWord, fWd, c4, c8, c9, c10, c11, c12, c13, c14, c19, c24]⟩ hH dX2_readWord_111
