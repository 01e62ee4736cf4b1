set_option maxRecDepth 100000 in
set_option maxHeartbeats 4000000 in
theorem c_X5_hasPlan (l : Launch) (D : va_G) (k : Nat → ClassId) (a : Nat → Nat → Nat) (g : Mem) (v : V) (sh : Int32) : zI l yX5_hasPlan cX5_hasPlan 2 .boolean 1 20 D k a [.ref (a 6 0), .int (sh)] (zUp g 0 v) (fun r g' => r = (if hasP v sh then 1 else 0) ∧ g' = (zUp g 0 v)) := by
  refine zI_of (own := RX5) (by decide +kernel) rfl (Nat.le_of_ble_eq_true rfl) ?_
  intro p e s m args below meth c X Q hret hH ls hl
  obtain ⟨hx, hb, hml, hown, hts⟩ := X.1
  have hl : lv_has ls 2 [(0, .ref (a 6 0)), (1, .int (sh))] := hl
  have hH : zH D k a s (zUp g 0 v) s.heap [] := hH
  refine lv_iload_n hx hb dX5_hasPlan_0 rfl (lv_at hl 1 rfl) ?_
  refine z_callSi X hH (c_X5_isShape l D k a (zUp g 0 v) sh) k_X5_62 [] rfl rfl hl.1 (Nat.le_of_ble_eq_true rfl) ⟨Nat.le_of_ble_eq_true rfl, Nat.le_of_ble_eq_true rfl⟩ ⟨Nat.le_refl _, Nat.le_refl _⟩ dX5_hasPlan_1 (fun r1 g2 H locs h3 hH => ?_)
  rw [h3.2] at hH
  rw [h3.1]
  refine b_ifeq (P := ¬ sh < 0 ∧ sh < 12) (tgt := 26) hx hb dX5_hasPlan_4 (by decide) (fun c4 => ?_) (fun c4 => ?_)
  · refine lv_iconst (v := 0) hx hb dX5_hasPlan_26 (by decide) ?_
    exact hret _ _ _ _ _ _ rfl ⟨by simp only [c4, okS, okT, okW, okN, hasP, zAct, if_true, if_false, not_true_eq_false, not_false_eq_true, and_self, or_true, true_or, or_false, false_or, and_true, true_and, and_false, false_and, or_self, Bool.false_eq_true, z10], rfl⟩ hH dX5_hasPlan_27
  · obtain ⟨z, hz, rfl⟩ := zIx (B := 12) (b := 12) rfl (by decide) c4
    have hz1 : iN (nI z) = z := iNn (by omega)
    refine lv_aload_n hx hb dX5_hasPlan_7 rfl (lv_at hl 0 rfl) ?_
    refine gf_X5_now X hH q_213 dX5_hasPlan_8 ?_
    refine gf_X3_plans X hH (by omega) q_121 dX5_hasPlan_11 ?_
    refine lv_iload_n hx hb dX5_hasPlan_14 rfl (lv_at hl 1 rfl) ?_
    refine ar_plans X hH (by omega) (z) (by omega) dX5_hasPlan_15 ?_
    refine gn_X1_kept X hH (by omega) q_63 dX5_hasPlan_16 ?_
    refine lv_if_eq (tgt := 26) hx hb dX5_hasPlan_19 (by decide) (fun c5 => ?_) (fun c5 => ?_)
    · refine lv_iconst (v := 0) hx hb dX5_hasPlan_26 (by decide) ?_
      exact hret _ _ _ _ _ _ rfl ⟨by simp only [c4, hz1, c5, okS, okT, okW, okN, hasP, zAct, if_true, if_false, not_true_eq_false, not_false_eq_true, and_self, or_true, true_or, or_false, false_or, and_true, true_and, and_false, false_and, or_self, Bool.false_eq_true, z10], rfl⟩ hH dX5_hasPlan_27
    · refine lv_iconst (v := 1) hx hb dX5_hasPlan_22 (by decide) ?_
      refine lv_goto (tgt := 27) hx hb dX5_hasPlan_23 (by decide) ?_
      exact hret _ _ _ _ _ _ rfl ⟨by simp only [c4, hz1, c5, okS, okT, okW, okN, hasP, zAct, if_true, if_false, not_true_eq_false, not_false_eq_true, and_self, or_true, true_or, or_false, false_or, and_true, true_and, and_false, false_and, or_self, Bool.false_eq_true, z10], rfl⟩ hH dX5_hasPlan_27
set_option maxRecDepth 100000 in
set_option maxHeartbeats 4000000 in
theorem c_X5_table (l : Launch) (D : va_G) (k : Nat → ClassId) (a : Nat → Nat → Nat) (g : Mem) (x : Nat) (hx4 : x < 4) (e6 : g 6 0 = nI x) (hf : zFl (g 0)) (hjk : ∀ j, 160 ≤ j → g (2 + x) j = g 0 j) (ta bo ma : Int32) (hbo : bo = 0 ∨ bo = 1) : zI l yX5_table cX5_table 5 .int 3 64 D k a [.ref (a 6 0), .int (ta), .int (bo), .int (ma)] (g) (fun r g' => r = ((kTable (g 0) ta bo ma).1) ∧ g' = (zAct g (kTable (g 0) ta bo ma).2)) := by
  refine zI_of (own := RX5) (by decide +kernel) rfl (Nat.le_of_ble_eq_true rfl) ?_
  intro p e s m args below meth c X Q hret hH ls hl
  obtain ⟨hx, hb, hml, hown, hts⟩ := X.1
  have hl : lv_has ls 5 [(0, .ref (a 6 0)), (1, .int (ta)), (2, .int (bo)), (3, .int (ma))] := hl
  have hH : zH D k a s (g) s.heap [] := hH
  have hH : zH D k a s (zUp g 0 (g 0)) s.heap [] := by rw [zUp_id]; exact hH
  refine lv_iload_n hx hb dX5_table_0 rfl (lv_at hl 1 rfl) ?_
  refine z_callSi X hH (c_X5_isTable l D k a (zUp g 0 (g 0)) ta) k_X5_37 [] rfl rfl hl.1 (Nat.le_of_ble_eq_true rfl) ⟨Nat.le_of_ble_eq_true rfl, Nat.le_of_ble_eq_true rfl⟩ ⟨Nat.le_refl _, Nat.le_refl _⟩ dX5_table_1 (fun r1 g2 H locs h3 hH => ?_)
  rw [h3.2] at hH
  rw [h3.1]
  refine b_ifne (P := ¬ ta < 0 ∧ ta < 4) (tgt := 9) hx hb dX5_table_4 (by decide) (fun c4 => ?_) (fun c4 => ?_)
  · obtain ⟨q, hq, rfl⟩ := zIx (B := 4) (b := 4) rfl (by decide) c4
    have hq1 : iN (nI q) = q := iNn (by omega)
    refine lv_iload_n hx hb dX5_table_9 rfl (lv_at hl 3 rfl) ?_
    refine lv_iload_n hx hb dX5_table_10 rfl (lv_at hl 2 rfl) ?_
    refine lv_if_eq (tgt := 18) hx hb dX5_table_11 (by decide) (fun c5 => ?_) (fun c5 => ?_)
    · refine lv_iconst (v := 0) hx hb dX5_table_18 (by decide) ?_
      refine i_icmp_lt (tgt := 29) hx hb dX5_table_19 (by decide) (fun c6 => ?_) (fun c6 => ?_)
      · refine lv_bipush (v := (-2)) hx hb dX5_table_29 (by decide) ?_
        exact hret _ _ _ _ _ _ rfl ⟨by simp only [kTable, c4, hq1, c5, c6, okS, okT, okW, okN, hasP, zAct, if_true, if_false, not_true_eq_false, not_false_eq_true, and_self, or_true, true_or, or_false, false_or, and_true, true_and, and_false, false_and, or_self, Bool.false_eq_true, z10], by rw [zUp_id]; simp only [kTable, c4, hq1, c5, c6, okS, okT, okW, okN, hasP, zAct, if_true, if_false, not_true_eq_false, not_false_eq_true, and_self, or_true, true_or, or_false, false_or, and_true, true_and, and_false, false_and, or_self, Bool.false_eq_true, z10]⟩ hH dX5_table_31
      · refine lv_iload_n hx hb dX5_table_22 rfl (lv_at hl 3 rfl) ?_
        refine lv_sipush (v := 9999) hx hb dX5_table_23 (by decide) ?_
        refine i_icmp_le (tgt := 32) hx hb dX5_table_26 (by decide) (fun c7 => ?_) (fun c7 => ?_)
        · refine lv_iload_n hx hb dX5_table_32 rfl (lv_at hl 2 rfl) ?_
          refine lv_if_eq (tgt := 51) hx hb dX5_table_33 (by decide) (fun _ => ?_) (fun q => absurd c5 q)
          refine lv_aload_n hx hb dX5_table_51 rfl (lv_at hl 0 rfl) ?_
          refine gf_X5_now X hH q_213 dX5_table_52 ?_
          refine gf_X3_tables X hH (by omega) q_119 dX5_table_55 ?_
          refine lv_iload_n hx hb dX5_table_58 rfl (lv_at hl 1 rfl) ?_
          refine ar_tabs X hH (by omega) (q) (by omega) dX5_table_59 ?_
          refine gn_X4_rows X hH (by omega) q_36 dX5_table_60 ?_
          refine lv_istore (lv' := [(4, .int ((g 0) q)), (0, .ref (a 6 0)), (1, .int (nI q)), (2, .int (bo)), (3, .int (ma))]) hx hb dX5_table_63 hl (by decide) rfl (fun ls hl => ?_)
          refine lv_iload hx hb dX5_table_65 (lv_at hl 0 rfl) ?_
          refine lv_iload_n hx hb dX5_table_67 rfl (lv_at hl 4 rfl) ?_
          refine lv_icmp_ne (tgt := 74) hx hb dX5_table_68 (by decide) (fun c8 => ?_) (fun c8 => ?_)
          · refine lv_aload_n hx hb dX5_table_74 rfl (lv_at hl 1 rfl) ?_
            refine gf_X5_history X hH q_215 dX5_table_75 ?_
            refine lv_aload_n hx hb dX5_table_78 rfl (lv_at hl 1 rfl) ?_
            refine gf_X5_now X hH q_213 dX5_table_79 ?_
            refine z_callVv X (by rw [zUp_id] at hH; exact hH) (c_X0_record l D k a g x hx4 e6 hf hjk) k_X5_54 (rv_X0 X hH) [] rfl rfl hl.1 (Nat.le_of_ble_eq_true rfl) ⟨Nat.le_of_ble_eq_true rfl, Nat.le_of_ble_eq_true rfl⟩ ⟨Nat.le_refl _, Nat.le_refl _⟩ dX5_table_82 (fun g9 H locs h10 hH => ?_)
            rw [h10] at hH
            have hH : zH D k a s (zUp (zRecX g x) 0 (g 0)) H locs := by rw [zNow (zRecX_0 g x)]; exact hH
            refine lv_aload_n hx hb dX5_table_85 rfl (lv_at hl 1 rfl) ?_
            refine gf_X5_now X hH q_213 dX5_table_86 ?_
            refine lv_iload_n hx hb dX5_table_89 rfl (lv_at hl 2 rfl) ?_
            refine lv_iload_n hx hb dX5_table_90 rfl (lv_at hl 3 rfl) ?_
            refine lv_iload_n hx hb dX5_table_91 rfl (lv_at hl 4 rfl) ?_
            refine z_callVv X hH (c_X3_resize l D k a (zRecX g x) (g 0) (q) (by omega) bo ma) k_X5_58 (rv_X3 X hH (by omega)) [] rfl rfl hl.1 (Nat.le_of_ble_eq_true rfl) ⟨Nat.le_of_ble_eq_true rfl, Nat.le_of_ble_eq_true rfl⟩ ⟨Nat.le_refl _, Nat.le_refl _⟩ dX5_table_92 (fun g11 H locs h12 hH => ?_)
            rw [h12] at hH
            refine lv_iload hx hb dX5_table_95 (lv_at hl 0 rfl) ?_
            exact hret _ _ _ _ _ _ rfl ⟨by simp only [kTable, c4, hq1, c5, c6, c7, c8, okS, okT, okW, okN, hasP, zAct, if_true, if_false, not_true_eq_false, not_false_eq_true, and_self, or_true, true_or, or_false, false_or, and_true, true_and, and_false, false_and, or_self, Bool.false_eq_true, z10], by simp only [kTable, c4, hq1, c5, c6, c7, c8, okS, okT, okW, okN, hasP, zAct, if_true, if_false, not_true_eq_false, not_false_eq_true, and_self, or_true, true_or, or_false, false_or, and_true, true_and, and_false, false_and, or_self, Bool.false_eq_true, z10]; rw [zRec_x hx4 e6]⟩ hH dX5_table_97
          · refine lv_bipush (v := (-4)) hx hb dX5_table_71 (by decide) ?_
            exact hret _ _ _ _ _ _ rfl ⟨by simp only [kTable, c4, hq1, c5, c6, c7, c8, okS, okT, okW, okN, hasP, zAct, if_true, if_false, not_true_eq_false, not_false_eq_true, and_self, or_true, true_or, or_false, false_or, and_true, true_and, and_false, false_and, or_self, Bool.false_eq_true, z10], by rw [zUp_id]; simp only [kTable, c4, hq1, c5, c6, c7, c8, okS, okT, okW, okN, hasP, zAct, if_true, if_false, not_true_eq_false, not_false_eq_true, and_self, or_true, true_or, or_false, false_or, and_true, true_and, and_false, false_and, or_self, Bool.false_eq_true, z10]⟩ hH dX5_table_73
        · refine lv_bipush (v := (-2)) hx hb dX5_table_29 (by decide) ?_
          exact hret _ _ _ _ _ _ rfl ⟨by simp only [kTable, c4, hq1, c5, c6, c7, okS, okT, okW, okN, hasP, zAct, if_true, if_false, not_true_eq_false, not_false_eq_true, and_self, or_true, true_or, or_false, false_or, and_true, true_and, and_false, false_and, or_self, Bool.false_eq_true, z10], by rw [zUp_id]; simp only [kTable, c4, hq1, c5, c6, c7, okS, okT, okW, okN, hasP, zAct, if_true, if_false, not_true_eq_false, not_false_eq_true, and_self, or_true, true_or, or_false, false_or, and_true, true_and, and_false, false_and, or_self, Bool.false_eq_true, z10]⟩ hH dX5_table_31
    · refine lv_iconst (v := 1) hx hb dX5_table_14 (by decide) ?_
      refine lv_goto (tgt := 19) hx hb dX5_table_15 (by decide) ?_
      refine i_icmp_lt (tgt := 29) hx hb dX5_table_19 (by decide) (fun c13 => ?_) (fun c13 => ?_)
      · refine lv_bipush (v := (-2)) hx hb dX5_table_29 (by decide) ?_
        exact hret _ _ _ _ _ _ rfl ⟨by simp only [kTable, c4, hq1, c5, c13, okS, okT, okW, okN, hasP, zAct, if_true, if_false, not_true_eq_false, not_false_eq_true, and_self, or_true, true_or, or_false, false_or, and_true, true_and, and_false, false_and, or_self, Bool.false_eq_true, z10], by rw [zUp_id]; simp only [kTable, c4, hq1, c5, c13, okS, okT, okW, okN, hasP, zAct, if_true, if_false, not_true_eq_false, not_false_eq_true, and_self, or_true, true_or, or_false, false_or, and_true, true_and, and_false, false_and, or_self, Bool.false_eq_true, z10]⟩ hH dX5_table_31
      · refine lv_iload_n hx hb dX5_table_22 rfl (lv_at hl 3 rfl) ?_
        refine lv_sipush (v := 9999) hx hb dX5_table_23 (by decide) ?_
        refine i_icmp_le (tgt := 32) hx hb dX5_table_26 (by decide) (fun c14 => ?_) (fun c14 => ?_)
        · refine lv_iload_n hx hb dX5_table_32 rfl (lv_at hl 2 rfl) ?_
          refine lv_if_eq (tgt := 51) hx hb dX5_table_33 (by decide) (fun q => absurd q c5) (fun _ => ?_)
          refine lv_aload_n hx hb dX5_table_36 rfl (lv_at hl 0 rfl) ?_
          refine gf_X5_now X hH q_213 dX5_table_37 ?_
          refine gf_X3_tables X hH (by omega) q_119 dX5_table_40 ?_
          refine lv_iload_n hx hb dX5_table_43 rfl (lv_at hl 1 rfl) ?_
          refine ar_tabs X hH (by omega) (q) (by omega) dX5_table_44 ?_
          refine gn_X4_keys X hH (by omega) q_39 dX5_table_45 ?_
          refine lv_goto (tgt := 63) hx hb dX5_table_48 (by decide) ?_
          refine lv_istore (lv' := [(4, .int ((g 0) (4 + q))), (0, .ref (a 6 0)), (1, .int (nI q)), (2, .int (bo)), (3, .int (ma))]) hx hb dX5_table_63 hl (by decide) rfl (fun ls hl => ?_)
          refine lv_iload hx hb dX5_table_65 (lv_at hl 0 rfl) ?_
          refine lv_iload_n hx hb dX5_table_67 rfl (lv_at hl 4 rfl) ?_
          refine lv_icmp_ne (tgt := 74) hx hb dX5_table_68 (by decide) (fun c15 => ?_) (fun c15 => ?_)
          · refine lv_aload_n hx hb dX5_table_74 rfl (lv_at hl 1 rfl) ?_
            refine gf_X5_history X hH q_215 dX5_table_75 ?_
            refine lv_aload_n hx hb dX5_table_78 rfl (lv_at hl 1 rfl) ?_
            refine gf_X5_now X hH q_213 dX5_table_79 ?_
            refine z_callVv X (by rw [zUp_id] at hH; exact hH) (c_X0_record l D k a g x hx4 e6 hf hjk) k_X5_54 (rv_X0 X hH) [] rfl rfl hl.1 (Nat.le_of_ble_eq_true rfl) ⟨Nat.le_of_ble_eq_true rfl, Nat.le_of_ble_eq_true rfl⟩ ⟨Nat.le_refl _, Nat.le_refl _⟩ dX5_table_82 (fun g16 H locs h17 hH => ?_)
            rw [h17] at hH
            have hH : zH D k a s (zUp (zRecX g x) 0 (g 0)) H locs := by rw [zNow (zRecX_0 g x)]; exact hH
            refine lv_aload_n hx hb dX5_table_85 rfl (lv_at hl 1 rfl) ?_
            refine gf_X5_now X hH q_213 dX5_table_86 ?_
            refine lv_iload_n hx hb dX5_table_89 rfl (lv_at hl 2 rfl) ?_
            refine lv_iload_n hx hb dX5_table_90 rfl (lv_at hl 3 rfl) ?_
            refine lv_iload_n hx hb dX5_table_91 rfl (lv_at hl 4 rfl) ?_
            refine z_callVv X hH (c_X3_resize l D k a (zRecX g x) (g 0) (q) (by omega) bo ma) k_X5_58 (rv_X3 X hH (by omega)) [] rfl rfl hl.1 (Nat.le_of_ble_eq_true rfl) ⟨Nat.le_of_ble_eq_true rfl, Nat.le_of_ble_eq_true rfl⟩ ⟨Nat.le_refl _, Nat.le_refl _⟩ dX5_table_92 (fun g18 H locs h19 hH => ?_)
            rw [h19] at hH
            refine lv_iload hx hb dX5_table_95 (lv_at hl 0 rfl) ?_
            exact hret _ _ _ _ _ _ rfl ⟨by simp only [kTable, c4, hq1, c5, c13, c14, c15, okS, okT, okW, okN, hasP, zAct, if_true, if_false, not_true_eq_false, not_false_eq_true, and_self, or_true, true_or, or_false, false_or, and_true, true_and, and_false, false_and, or_self, Bool.false_eq_true, z10], by simp only [kTable, c4, hq1, c5, c13, c14, c15, okS, okT, okW, okN, hasP, zAct, if_true, if_false, not_true_eq_false, not_false_eq_true, and_self, or_true, true_or, or_false, false_or, and_true, true_and, and_false, false_and, or_self, Bool.false_eq_true, z10]; rw [zRec_x hx4 e6]⟩ hH dX5_table_97
          · refine lv_bipush (v := (-4)) hx hb dX5_table_71 (by decide) ?_
            exact hret _ _ _ _ _ _ rfl ⟨by simp only [kTable, c4, hq1, c5, c13, c14, c15, okS, okT, okW, okN, hasP, zAct, if_true, if_false, not_true_eq_false, not_false_eq_true, and_self, or_true, true_or, or_false, false_or, and_true, true_and, and_false, false_and, or_self, Bool.false_eq_true, z10], by rw [zUp_id]; simp only [kTable, c4, hq1, c5, c13, c14, c15, okS, okT, okW, okN, hasP, zAct, if_true, if_false, not_true_eq_false, not_false_eq_true, and_self, or_true, true_or, or_false, false_or, and_true, true_and, and_false, false_and, or_self, Bool.false_eq_true, z10]⟩ hH dX5_table_73
        · refine lv_bipush (v := (-2)) hx hb dX5_table_29 (by decide) ?_
          exact hret _ _ _ _ _ _ rfl ⟨by simp only [kTable, c4, hq1, c5, c13, c14, okS, okT, okW, okN, hasP, zAct, if_true, if_false, not_true_eq_false, not_false_eq_true, and_self, or_true, true_or, or_false, false_or, and_true, true_and, and_false, false_and, or_self, Bool.false_eq_true, z10], by rw [zUp_id]; simp only [kTable, c4, hq1, c5, c13, c14, okS, okT, okW, okN, hasP, zAct, if_true, if_false, not_true_eq_false, not_false_eq_true, and_self, or_true, true_or, or_false, false_or, and_true, true_and, and_false, false_and, or_self, Bool.false_eq_true, z10]⟩ hH dX5_table_31
  · refine lv_iconst (v := (-1)) hx hb dX5_table_7 (by decide) ?_
    exact hret _ _ _ _ _ _ rfl ⟨by simp only [kTable, c4, okS, okT, okW, okN, hasP, zAct, if_true, if_false, not_true_eq_false, not_false_eq_true, and_self, or_true, true_or, or_false, false_or, and_true, true_and, and_false, false_and, or_self, Bool.false_eq_true, z10], by rw [zUp_id]; simp only [kTable, c4, okS, okT, okW, okN, hasP, zAct, if_true, if_false, not_true_eq_false, not_false_eq_true, and_self, or_true, true_or, or_false, false_or, and_true, true_and, and_false, false_and, or_self, Bool.false_eq_true, z10]⟩ hH dX5_table_8
set_option maxRecDepth 100000 in
set_option maxHeartbeats 4000000 in
theorem c_X5_ask (l : Launch) (D : va_G) (k : Nat → ClassId) (a : Nat → Nat → Nat) (g : Mem) (x : Nat) (hx4 : x < 4) (e6 : g 6 0 = nI x) (hf : zFl (g 0)) (hjk : ∀ j, 160 ≤ j → g (2 + x) j = g 0 j) (sh nu : Int32) : zI l yX5_ask cX5_ask 3 .int 6 146 D k a [.ref (a 6 0), .int (sh), .int (nu)] (g) (fun r g' => r = ((kAsk (g 0) sh nu).1) ∧ g' = (zAct g (kAsk (g 0) sh nu).2)) := by
  refine zI_of (own := RX5) (by decide +kernel) rfl (Nat.le_of_ble_eq_true rfl) ?_
  intro p e s m args below meth c X Q hret hH ls hl
  obtain ⟨hx, hb, hml, hown, hts⟩ := X.1
  have hl : lv_has ls 3 [(0, .ref (a 6 0)), (1, .int (sh)), (2, .int (nu))] := hl
  have hH : zH D k a s (g) s.heap [] := hH
  have hH : zH D k a s (zUp g 0 (g 0)) s.heap [] := by rw [zUp_id]; exact hH
  refine lv_iload_n hx hb dX5_ask_0 rfl (lv_at hl 1 rfl) ?_
  refine z_callSi X hH (c_X5_isShape l D k a (zUp g 0 (g 0)) sh) k_X5_62 [] rfl rfl hl.1 (Nat.le_of_ble_eq_true rfl) ⟨Nat.le_of_ble_eq_true rfl, Nat.le_of_ble_eq_true rfl⟩ ⟨Nat.le_refl _, Nat.le_refl _⟩ dX5_ask_1 (fun r1 g2 H locs h3 hH => ?_)
  rw [h3.2] at hH
  rw [h3.1]
  refine b_ifne (P := ¬ sh < 0 ∧ sh < 12) (tgt := 9) hx hb dX5_ask_4 (by decide) (fun c4 => ?_) (fun c4 => ?_)
  · obtain ⟨z, hz, rfl⟩ := zIx (B := 12) (b := 12) rfl (by decide) c4
    have hz1 : iN (nI z) = z := iNn (by omega)
    refine lv_iload_n hx hb dX5_ask_9 rfl (lv_at hl 1 rfl) ?_
    refine lv_iconst (v := 3) hx hb dX5_ask_10 (by decide) ?_
    refine n_irem (A := z) (B := 3) hx hb (z % 3) rfl (by omega) (by omega) (by omega) dX5_ask_11 ?_
    refine lv_iload_n hx hb dX5_ask_12 rfl (lv_at hl 2 rfl) ?_
    refine z_callSi X hH (c_X5_isNumberOf l D k a (zUp g 0 (g 0)) (z % 3) (by omega) nu) k_X5_65 [] rfl rfl hl.1 (Nat.le_of_ble_eq_true rfl) ⟨Nat.le_of_ble_eq_true rfl, Nat.le_of_ble_eq_true rfl⟩ ⟨Nat.le_refl _, Nat.le_refl _⟩ dX5_ask_13 (fun r5 g6 H locs h7 hH => ?_)
    rw [h7.2] at hH
    rw [h7.1]
    refine b_ifne (P := ¬ nu < (if z % 3 = 0 then 0 else 1) ∧ ¬ 9999 < nu) (tgt := 22) hx hb dX5_ask_16 (by decide) (fun c8 => ?_) (fun c8 => ?_)
    · refine lv_aload_n hx hb dX5_ask_22 rfl (lv_at hl 0 rfl) ?_
      refine gf_X5_history X hH q_215 dX5_ask_23 ?_
      refine lv_aload_n hx hb dX5_ask_26 rfl (lv_at hl 0 rfl) ?_
      refine gf_X5_now X hH q_213 dX5_ask_27 ?_
      refine z_callVv X (by rw [zUp_id] at hH; exact hH) (c_X0_record l D k a g x hx4 e6 hf hjk) k_X5_54 (rv_X0 X hH) [] rfl rfl hl.1 (Nat.le_of_ble_eq_true rfl) ⟨Nat.le_of_ble_eq_true rfl, Nat.le_of_ble_eq_true rfl⟩ ⟨Nat.le_refl _, Nat.le_refl _⟩ dX5_ask_30 (fun g9 H locs h10 hH => ?_)
      rw [h10] at hH
      have hH : zH D k a s (zUp (zRecX g x) 0 (g 0)) H locs := by rw [zNow (zRecX_0 g x)]; exact hH
      refine lv_aload_n hx hb dX5_ask_33 rfl (lv_at hl 0 rfl) ?_
      refine gf_X5_now X hH q_213 dX5_ask_34 ?_
      refine lv_iload_n hx hb dX5_ask_37 rfl (lv_at hl 1 rfl) ?_
      refine lv_iload_n hx hb dX5_ask_38 rfl (lv_at hl 2 rfl) ?_
      refine z_callVi X hH (c_X3_answer l D k a (zRecX g x) (g 0) (z) (by omega) nu) k_X5_69 (rv_X3 X hH (by omega)) [] rfl rfl hl.1 (Nat.le_of_ble_eq_true rfl) ⟨Nat.le_of_ble_eq_true rfl, Nat.le_of_ble_eq_true rfl⟩ ⟨Nat.le_refl _, Nat.le_refl _⟩ dX5_ask_39 (fun r11 g12 H locs h13 hH => ?_)
      rw [h13.2] at hH
      rw [h13.1]
      exact hret _ _ _ _ _ _ rfl ⟨by simp only [kAsk, c4, hz1, c8, okS, okT, okW, okN, hasP, zAct, if_true, if_false, not_true_eq_false, not_false_eq_true, and_self, or_true, true_or, or_false, false_or, and_true, true_and, and_false, false_and, or_self, Bool.false_eq_true, z10], by simp only [kAsk, c4, hz1, c8, okS, okT, okW, okN, hasP, zAct, if_true, if_false, not_true_eq_false, not_false_eq_true, and_self, or_true, true_or, or_false, false_or, and_true, true_and, and_false, false_and, or_self, Bool.false_eq_true, z10]; rw [zRec_x hx4 e6]⟩ hH dX5_ask_42
    · refine lv_bipush (v := (-2)) hx hb dX5_ask_19 (by decide) ?_
      exact hret _ _ _ _ _ _ rfl ⟨by simp only [kAsk, c4, hz1, c8, okS, okT, okW, okN, hasP, zAct, if_true, if_false, not_true_eq_false, not_false_eq_true, and_self, or_true, true_or, or_false, false_or, and_true, true_and, and_false, false_and, or_self, Bool.false_eq_true, z10], by rw [zUp_id]; simp only [kAsk, c4, hz1, c8, okS, okT, okW, okN, hasP, zAct, if_true, if_false, not_true_eq_false, not_false_eq_true, and_self, or_true, true_or, or_false, false_or, and_true, true_and, and_false, false_and, or_self, Bool.false_eq_true, z10]⟩ hH dX5_ask_21
  · refine lv_iconst (v := (-1)) hx hb dX5_ask_7 (by decide) ?_
    exact hret _ _ _ _ _ _ rfl ⟨by simp only [kAsk, c4, okS, okT, okW, okN, hasP, zAct, if_true, if_false, not_true_eq_false, not_false_eq_true, and_self, or_true, true_or, or_false, false_or, and_true, true_and, and_false, false_and, or_self, Bool.false_eq_true, z10], by rw [zUp_id]; simp only [kAsk, c4, okS, okT, okW, okN, hasP, zAct, if_true, if_false, not_true_eq_false, not_false_eq_true, and_self, or_true, true_or, or_false, false_or, and_true, true_and, and_false, false_and, or_self, Bool.false_eq_true, z10]⟩ hH dX5_ask_8
set_option maxRecDepth 100000 in
set_option maxHeartbeats 4000000 in
theorem c_X5_pin (l : Launch) (D : va_G) (k : Nat → ClassId) (a : Nat → Nat → Nat) (g : Mem) (x : Nat) (hx4 : x < 4) (e6 : g 6 0 = nI x) (hf : zFl (g 0)) (hjk : ∀ j, 160 ≤ j → g (2 + x) j = g 0 j) (sh bo : Int32) (hbo : bo = 0 ∨ bo = 1) : zI l yX5_pin cX5_pin 3 .int 3 64 D k a [.ref (a 6 0), .int (sh), .int (bo)] (g) (fun r g' => r = ((kPin (g 0) sh bo).1) ∧ g' = (zAct g (kPin (g 0) sh bo).2)) := by
  refine zI_of (own := RX5) (by decide +kernel) rfl (Nat.le_of_ble_eq_true rfl) ?_
  intro p e s m args below meth c X Q hret hH ls hl
  obtain ⟨hx, hb, hml, hown, hts⟩ := X.1
  have hl : lv_has ls 3 [(0, .ref (a 6 0)), (1, .int (sh)), (2, .int (bo))] := hl
  have hH : zH D k a s (g) s.heap [] := hH
  have hH : zH D k a s (zUp g 0 (g 0)) s.heap [] := by rw [zUp_id]; exact hH
  refine lv_aload_n hx hb dX5_pin_0 rfl (lv_at hl 0 rfl) ?_
  refine lv_iload_n hx hb dX5_pin_1 rfl (lv_at hl 1 rfl) ?_
  refine z_callVi X hH (c_X5_hasPlan l D k a g (g 0) sh) k_X5_89 (rv_X5 X hH) [] rfl rfl hl.1 (Nat.le_of_ble_eq_true rfl) ⟨Nat.le_of_ble_eq_true rfl, Nat.le_of_ble_eq_true rfl⟩ ⟨Nat.le_refl _, Nat.le_refl _⟩ dX5_pin_2 (fun r1 g2 H locs h3 hH => ?_)
  rw [h3.2] at hH
  rw [h3.1]
  refine b_ifne (P := hasP (g 0) sh) (tgt := 10) hx hb dX5_pin_5 (by decide) (fun c4 => ?_) (fun c4 => ?_)
  · obtain ⟨z, hz, rfl⟩ := zIx (B := 12) (b := 12) rfl (by decide) c4.1
    have hz1 : iN (nI z) = z := iNn (by omega)
    have hz2 : ¬ g 0 (13 + 11 * z + 0) = 0 := by have q9 := c4.2; rw [hz1] at q9; exact q9
    refine lv_aload_n hx hb dX5_pin_10 rfl (lv_at hl 0 rfl) ?_
    refine gf_X5_now X hH q_213 dX5_pin_11 ?_
    refine gf_X3_plans X hH (by omega) q_121 dX5_pin_14 ?_
    refine lv_iload_n hx hb dX5_pin_17 rfl (lv_at hl 1 rfl) ?_
    refine ar_plans X hH (by omega) (z) (by omega) dX5_pin_18 ?_
    refine gn_X1_pinned X hH (by omega) q_66 dX5_pin_19 ?_
    refine lv_iload_n hx hb dX5_pin_22 rfl (lv_at hl 2 rfl) ?_
    refine lv_icmp_ne (tgt := 29) hx hb dX5_pin_23 (by decide) (fun c5 => ?_) (fun c5 => ?_)
    · refine lv_aload_n hx hb dX5_pin_29 rfl (lv_at hl 0 rfl) ?_
      refine gf_X5_history X hH q_215 dX5_pin_30 ?_
      refine lv_aload_n hx hb dX5_pin_33 rfl (lv_at hl 0 rfl) ?_
      refine gf_X5_now X hH q_213 dX5_pin_34 ?_
      refine z_callVv X (by rw [zUp_id] at hH; exact hH) (c_X0_record l D k a g x hx4 e6 hf hjk) k_X5_54 (rv_X0 X hH) [] rfl rfl hl.1 (Nat.le_of_ble_eq_true rfl) ⟨Nat.le_of_ble_eq_true rfl, Nat.le_of_ble_eq_true rfl⟩ ⟨Nat.le_refl _, Nat.le_refl _⟩ dX5_pin_37 (fun g6 H locs h7 hH => ?_)
      rw [h7] at hH
      have hH : zH D k a s (zUp (zRecX g x) 0 (g 0)) H locs := by rw [zNow (zRecX_0 g x)]; exact hH
      refine lv_aload_n hx hb dX5_pin_40 rfl (lv_at hl 0 rfl) ?_
      refine gf_X5_now X hH q_213 dX5_pin_41 ?_
      refine gf_X3_plans X hH (by omega) q_121 dX5_pin_44 ?_
      refine lv_iload_n hx hb dX5_pin_47 rfl (lv_at hl 1 rfl) ?_
      refine ar_plans X hH (by omega) (z) (by omega) dX5_pin_48 ?_
      refine lv_iload_n hx hb dX5_pin_49 rfl (lv_at hl 2 rfl) ?_
      refine pn_X1_pinned X hH (by omega) hbo q_66 dX5_pin_50 (fun H locs hH => ?_)
      refine lv_aload_n hx hb dX5_pin_53 rfl (lv_at hl 0 rfl) ?_
      refine gf_X5_now X hH q_213 dX5_pin_54 ?_
      refine z_callVi X hH (c_X3_pinnedPlans l D k a (zRecX g x) (upd (g 0) (13 + 11 * z + 8) bo)) k_X5_101 (rv_X3 X hH (by omega)) [] rfl rfl hl.1 (Nat.le_of_ble_eq_true rfl) ⟨Nat.le_of_ble_eq_true rfl, Nat.le_of_ble_eq_true rfl⟩ ⟨Nat.le_refl _, Nat.le_refl _⟩ dX5_pin_57 (fun r8 g9 H locs h10 hH => ?_)
      rw [h10.2] at hH
      rw [h10.1]
      exact hret _ _ _ _ _ _ rfl ⟨by simp only [kPin, c4, hz1, hz2, c5, okS, okT, okW, okN, hasP, zAct, if_true, if_false, not_true_eq_false, not_false_eq_true, and_self, or_true, true_or, or_false, false_or, and_true, true_and, and_false, false_and, or_self, Bool.false_eq_true, z10], by simp only [kPin, c4, hz1, hz2, c5, okS, okT, okW, okN, hasP, zAct, if_true, if_false, not_true_eq_false, not_false_eq_true, and_self, or_true, true_or, or_false, false_or, and_true, true_and, and_false, false_and, or_self, Bool.false_eq_true, z10]; rw [zRec_x hx4 e6]⟩ hH dX5_pin_60
    · refine lv_bipush (v := (-4)) hx hb dX5_pin_26 (by decide) ?_
      exact hret _ _ _ _ _ _ rfl ⟨by simp only [kPin, c4, hz1, hz2, c5, okS, okT, okW, okN, hasP, zAct, if_true, if_false, not_true_eq_false, not_false_eq_true, and_self, or_true, true_or, or_false, false_or, and_true, true_and, and_false, false_and, or_self, Bool.false_eq_true, z10], by rw [zUp_id]; simp only [kPin, c4, hz1, hz2, c5, okS, okT, okW, okN, hasP, zAct, if_true, if_false, not_true_eq_false, not_false_eq_true, and_self, or_true, true_or, or_false, false_or, and_true, true_and, and_false, false_and, or_self, Bool.false_eq_true, z10]⟩ hH dX5_pin_28
  · refine lv_iconst (v := (-1)) hx hb dX5_pin_8 (by decide) ?_
    exact hret _ _ _ _ _ _ rfl ⟨by simp only [kPin, c4, okS, okT, okW, okN, hasP, zAct, if_true, if_false, not_true_eq_false, not_false_eq_true, and_self, or_true, true_or, or_false, false_or, and_true, true_and, and_false, false_and, or_self, Bool.false_eq_true, z10], by rw [zUp_id]; simp only [kPin, c4, okS, okT, okW, okN, hasP, zAct, if_true, if_false, not_true_eq_false, not_false_eq_true, and_self, or_true, true_or, or_false, false_or, and_true, true_and, and_false, false_and, or_self, Bool.false_eq_true, z10]⟩ hH dX5_pin_9
set_option maxRecDepth 100000 in
set_option maxHeartbeats 4000000 in
theorem c_X5_throwOut (l : Launch) (D : va_G) (k : Nat → ClassId) (a : Nat → Nat → Nat) (g : Mem) (x : Nat) (hx4 : x < 4) (e6 : g 6 0 = nI x) (hf : zFl (g 0)) (hjk : ∀ j, 160 ≤ j → g (2 + x) j = g 0 j) (sh : Int32) : zI l yX5_throwOut cX5_throwOut 2 .int 3 64 D k a [.ref (a 6 0), .int (sh)] (g) (fun r g' => r = ((kThrow (g 0) sh).1) ∧ g' = (zAct g (kThrow (g 0) sh).2)) := by
  refine zI_of (own := RX5) (by decide +kernel) rfl (Nat.le_of_ble_eq_true rfl) ?_
  intro p e s m args below meth c X Q hret hH ls hl
  obtain ⟨hx, hb, hml, hown, hts⟩ := X.1
  have hl : lv_has ls 2 [(0, .ref (a 6 0)), (1, .int (sh))] := hl
  have hH : zH D k a s (g) s.heap [] := hH
  have hH : zH D k a s (zUp g 0 (g 0)) s.heap [] := by rw [zUp_id]; exact hH
  refine lv_aload_n hx hb dX5_throwOut_0 rfl (lv_at hl 0 rfl) ?_
  refine lv_iload_n hx hb dX5_throwOut_1 rfl (lv_at hl 1 rfl) ?_
  refine z_callVi X hH (c_X5_hasPlan l D k a g (g 0) sh) k_X5_89 (rv_X5 X hH) [] rfl rfl hl.1 (Nat.le_of_ble_eq_true rfl) ⟨Nat.le_of_ble_eq_true rfl, Nat.le_of_ble_eq_true rfl⟩ ⟨Nat.le_refl _, Nat.le_refl _⟩ dX5_throwOut_2 (fun r1 g2 H locs h3 hH => ?_)
  rw [h3.2] at hH
  rw [h3.1]
  refine b_ifne (P := hasP (g 0) sh) (tgt := 10) hx hb dX5_throwOut_5 (by decide) (fun c4 => ?_) (fun c4 => ?_)
  · obtain ⟨z, hz, rfl⟩ := zIx (B := 12) (b := 12) rfl (by decide) c4.1
    have hz1 : iN (nI z) = z := iNn (by omega)
    have hz2 : ¬ g 0 (13 + 11 * z + 0) = 0 := by have q9 := c4.2; rw [hz1] at q9; exact q9
    refine lv_aload_n hx hb dX5_throwOut_10 rfl (lv_at hl 0 rfl) ?_
    refine gf_X5_history X hH q_215 dX5_throwOut_11 ?_
    refine lv_aload_n hx hb dX5_throwOut_14 rfl (lv_at hl 0 rfl) ?_
    refine gf_X5_now X hH q_213 dX5_throwOut_15 ?_
    refine z_callVv X (by rw [zUp_id] at hH; exact hH) (c_X0_record l D k a g x hx4 e6 hf hjk) k_X5_54 (rv_X0 X hH) [] rfl rfl hl.1 (Nat.le_of_ble_eq_true rfl) ⟨Nat.le_of_ble_eq_true rfl, Nat.le_of_ble_eq_true rfl⟩ ⟨Nat.le_refl _, Nat.le_refl _⟩ dX5_throwOut_18 (fun g5 H locs h6 hH => ?_)
    rw [h6] at hH
    have hH : zH D k a s (zUp (zRecX g x) 0 (g 0)) H locs := by rw [zNow (zRecX_0 g x)]; exact hH
    refine lv_aload_n hx hb dX5_throwOut_21 rfl (lv_at hl 0 rfl) ?_
    refine gf_X5_now X hH q_213 dX5_throwOut_22 ?_
    refine gf_X3_plans X hH (by omega) q_121 dX5_throwOut_25 ?_
    refine lv_iload_n hx hb dX5_throwOut_28 rfl (lv_at hl 1 rfl) ?_
    refine ar_plans X hH (by omega) (z) (by omega) dX5_throwOut_29 ?_
    refine lv_iconst (v := 0) hx hb dX5_throwOut_30 (by decide) ?_
    refine pn_X1_kept X hH (by omega) (Or.inl rfl) q_63 dX5_throwOut_31 (fun H locs hH => ?_)
    refine lv_aload_n hx hb dX5_throwOut_34 rfl (lv_at hl 0 rfl) ?_
    refine gf_X5_now X hH q_213 dX5_throwOut_35 ?_
    refine z_callVi X hH (c_X3_keptPlans l D k a (zRecX g x) (upd (g 0) (13 + 11 * z + 0) 0)) k_X5_107 (rv_X3 X hH (by omega)) [] rfl rfl hl.1 (Nat.le_of_ble_eq_true rfl) ⟨Nat.le_of_ble_eq_true rfl, Nat.le_of_ble_eq_true rfl⟩ ⟨Nat.le_refl _, Nat.le_refl _⟩ dX5_throwOut_38 (fun r7 g8 H locs h9 hH => ?_)
    rw [h9.2] at hH
    rw [h9.1]
    exact hret _ _ _ _ _ _ rfl ⟨by simp only [kThrow, c4, hz1, hz2, okS, okT, okW, okN, hasP, zAct, if_true, if_false, not_true_eq_false, not_false_eq_true, and_self, or_true, true_or, or_false, false_or, and_true, true_and, and_false, false_and, or_self, Bool.false_eq_true, z10], by simp only [kThrow, c4, hz1, hz2, okS, okT, okW, okN, hasP, zAct, if_true, if_false, not_true_eq_false, not_false_eq_true, and_self, or_true, true_or, or_false, false_or, and_true, true_and, and_false, false_and, or_self, Bool.false_eq_true, z10]; rw [zRec_x hx4 e6]⟩ hH dX5_throwOut_41
  · refine lv_iconst (v := (-1)) hx hb dX5_throwOut_8 (by decide) ?_
    exact hret _ _ _ _ _ _ rfl ⟨by simp only [kThrow, c4, okS, okT, okW, okN, hasP, zAct, if_true, if_false, not_true_eq_false, not_false_eq_true, and_self, or_true, true_or, or_false, false_or, and_true, true_and, and_false, false_and, or_self, Bool.false_eq_true, z10], by rw [zUp_id]; simp only [kThrow, c4, okS, okT, okW, okN, hasP, zAct, if_true, if_false, not_true_eq_false, not_false_eq_true, and_self, or_true, true_or, or_false, false_or, and_true, true_and, and_false, false_and, or_self, Bool.false_eq_true, z10]⟩ hH dX5_throwOut_9
set_option maxRecDepth 100000 in
set_option maxHeartbeats 4000000 in
theorem c_X5_make (l : Launch) (D : va_G) (k : Nat → ClassId) (a : Nat → Nat → Nat) (g : Mem) (x : Nat) (hx4 : x < 4) (e6 : g 6 0 = nI x) (hf : zFl (g 0)) (hjk : ∀ j, 160 ≤ j → g (2 + x) j = g 0 j) (sh wa nu lo hi : Int32) : zI l yX5_make cX5_make 6 .int 4 97 D k a [.ref (a 6 0), .int (sh), .int (wa), .int (nu), .int (lo), .int (hi)] (g) (fun r g' => r = ((kMake (g 0) sh wa nu lo hi).1) ∧ g' = (zAct g (kMake (g 0) sh wa nu lo hi).2)) := by
  refine zI_of (own := RX5) (by decide +kernel) rfl (Nat.le_of_ble_eq_true rfl) ?_
  intro p e s m args below meth c X Q hret hH ls hl
  obtain ⟨hx, hb, hml, hown, hts⟩ := X.1
  have hl : lv_has ls 6 [(0, .ref (a 6 0)), (1, .int (sh)), (2, .int (wa)), (3, .int (nu)), (4, .int (lo)), (5, .int (hi))] := hl
  have hH : zH D k a s (g) s.heap [] := hH
  have hH : zH D k a s (zUp g 0 (g 0)) s.heap [] := by rw [zUp_id]; exact hH
  refine lv_iload_n hx hb dX5_make_0 rfl (lv_at hl 1 rfl) ?_
  refine z_callSi X hH (c_X5_isShape l D k a (zUp g 0 (g 0)) sh) k_X5_62 [] rfl rfl hl.1 (Nat.le_of_ble_eq_true rfl) ⟨Nat.le_of_ble_eq_true rfl, Nat.le_of_ble_eq_true rfl⟩ ⟨Nat.le_refl _, Nat.le_refl _⟩ dX5_make_1 (fun r1 g2 H locs h3 hH => ?_)
  rw [h3.2] at hH
  rw [h3.1]
  refine b_ifne (P := ¬ sh < 0 ∧ sh < 12) (tgt := 9) hx hb dX5_make_4 (by decide) (fun c4 => ?_) (fun c4 => ?_)
  · obtain ⟨z, hz, rfl⟩ := zIx (B := 12) (b := 12) rfl (by decide) c4
    have hz1 : iN (nI z) = z := iNn (by omega)
    refine lv_iload_n hx hb dX5_make_9 rfl (lv_at hl 2 rfl) ?_
    refine z_callSi X hH (c_X5_isWay l D k a (zUp g 0 (g 0)) wa) k_X5_110 [] rfl rfl hl.1 (Nat.le_of_ble_eq_true rfl) ⟨Nat.le_of_ble_eq_true rfl, Nat.le_of_ble_eq_true rfl⟩ ⟨Nat.le_refl _, Nat.le_refl _⟩ dX5_make_10 (fun r5 g6 H locs h7 hH => ?_)
    rw [h7.2] at hH
    rw [h7.1]
    refine b_ifeq (P := ¬ wa < 0 ∧ wa < 3) (tgt := 26) hx hb dX5_make_13 (by decide) (fun c8 => ?_) (fun c8 => ?_)
    · refine lv_bipush (v := (-2)) hx hb dX5_make_26 (by decide) ?_
      exact hret _ _ _ _ _ _ rfl ⟨by simp only [kMake, kMakeV, c4, hz1, c8, okS, okT, okW, okN, hasP, zAct, if_true, if_false, not_true_eq_false, not_false_eq_true, and_self, or_true, true_or, or_false, false_or, and_true, true_and, and_false, false_and, or_self, Bool.false_eq_true, z10], by rw [zUp_id]; simp only [kMake, kMakeV, c4, hz1, c8, okS, okT, okW, okN, hasP, zAct, if_true, if_false, not_true_eq_false, not_false_eq_true, and_self, or_true, true_or, or_false, false_or, and_true, true_and, and_false, false_and, or_self, Bool.false_eq_true, z10]⟩ hH dX5_make_28
    · refine lv_iload_n hx hb dX5_make_16 rfl (lv_at hl 1 rfl) ?_
      refine lv_iconst (v := 3) hx hb dX5_make_17 (by decide) ?_
      refine n_irem (A := z) (B := 3) hx hb (z % 3) rfl (by omega) (by omega) (by omega) dX5_make_18 ?_
      refine lv_iload_n hx hb dX5_make_19 rfl (lv_at hl 3 rfl) ?_
      refine z_callSi X hH (c_X5_isNumberOf l D k a (zUp g 0 (g 0)) (z % 3) (by omega) nu) k_X5_65 [] rfl rfl hl.1 (Nat.le_of_ble_eq_true rfl) ⟨Nat.le_of_ble_eq_true rfl, Nat.le_of_ble_eq_true rfl⟩ ⟨Nat.le_refl _, Nat.le_refl _⟩ dX5_make_20 (fun r9 g10 H locs h11 hH => ?_)
      rw [h11.2] at hH
      rw [h11.1]
      refine b_ifne (P := ¬ nu < (if z % 3 = 0 then 0 else 1) ∧ ¬ 9999 < nu) (tgt := 29) hx hb dX5_make_23 (by decide) (fun c12 => ?_) (fun c12 => ?_)
      · refine lv_iload hx hb dX5_make_29 (lv_at hl 4 rfl) ?_
        refine i_if_lt (tgt := 56) hx hb dX5_make_31 (by decide) (fun c13 => ?_) (fun c13 => ?_)
        · refine lv_bipush (v := (-2)) hx hb dX5_make_56 (by decide) ?_
          exact hret _ _ _ _ _ _ rfl ⟨by simp only [kMake, kMakeV, c4, hz1, c8, c12, c13, okS, okT, okW, okN, hasP, zAct, if_true, if_false, not_true_eq_false, not_false_eq_true, and_self, or_true, true_or, or_false, false_or, and_true, true_and, and_false, false_and, or_self, Bool.false_eq_true, z10], by rw [zUp_id]; simp only [kMake, kMakeV, c4, hz1, c8, c12, c13, okS, okT, okW, okN, hasP, zAct, if_true, if_false, not_true_eq_false, not_false_eq_true, and_self, or_true, true_or, or_false, false_or, and_true, true_and, and_false, false_and, or_self, Bool.false_eq_true, z10]⟩ hH dX5_make_58
        · refine lv_iload hx hb dX5_make_34 (lv_at hl 4 rfl) ?_
          refine lv_sipush (v := 9999) hx hb dX5_make_36 (by decide) ?_
          refine i_icmp_gt (tgt := 56) hx hb dX5_make_39 (by decide) (fun c14 => ?_) (fun c14 => ?_)
          · refine lv_bipush (v := (-2)) hx hb dX5_make_56 (by decide) ?_
            exact hret _ _ _ _ _ _ rfl ⟨by simp only [kMake, kMakeV, c4, hz1, c8, c12, c13, c14, okS, okT, okW, okN, hasP, zAct, if_true, if_false, not_true_eq_false, not_false_eq_true, and_self, or_true, true_or, or_false, false_or, and_true, true_and, and_false, false_and, or_self, Bool.false_eq_true, z10], by rw [zUp_id]; simp only [kMake, kMakeV, c4, hz1, c8, c12, c13, c14, okS, okT, okW, okN, hasP, zAct, if_true, if_false, not_true_eq_false, not_false_eq_true, and_self, or_true, true_or, or_false, false_or, and_true, true_and, and_false, false_and, or_self, Bool.false_eq_true, z10]⟩ hH dX5_make_58
          · refine lv_iload hx hb dX5_make_42 (lv_at hl 5 rfl) ?_
            refine lv_iload hx hb dX5_make_44 (lv_at hl 4 rfl) ?_
            refine i_icmp_lt (tgt := 56) hx hb dX5_make_46 (by decide) (fun c15 => ?_) (fun c15 => ?_)
            · refine lv_bipush (v := (-2)) hx hb dX5_make_56 (by decide) ?_
              exact hret _ _ _ _ _ _ rfl ⟨by simp only [kMake, kMakeV, c4, hz1, c8, c12, c13, c14, c15, okS, okT, okW, okN, hasP, zAct, if_true, if_false, not_true_eq_false, not_false_eq_true, and_self, or_true, true_or, or_false, false_or, and_true, true_and, and_false, false_and, or_self, Bool.false_eq_true, z10], by rw [zUp_id]; simp only [kMake, kMakeV, c4, hz1, c8, c12, c13, c14, c15, okS, okT, okW, okN, hasP, zAct, if_true, if_false, not_true_eq_false, not_false_eq_true, and_self, or_true, true_or, or_false, false_or, and_true, true_and, and_false, false_and, or_self, Bool.false_eq_true, z10]⟩ hH dX5_make_58
            · refine lv_iload hx hb dX5_make_49 (lv_at hl 5 rfl) ?_
              refine lv_ldc hx hb hown (hts _ q_472) dX5_make_51 ?_
              refine i_icmp_le (tgt := 59) hx hb dX5_make_53 (by decide) (fun c16 => ?_) (fun c16 => ?_)
              · refine lv_aload_n hx hb dX5_make_59 rfl (lv_at hl 0 rfl) ?_
                refine gf_X5_now X hH q_213 dX5_make_60 ?_
                refine lv_iload_n hx hb dX5_make_63 rfl (lv_at hl 1 rfl) ?_
                refine z_callVi X hH (c_X3_couldKeep l D k a g (g 0) (z) (by omega)) k_X5_114 (rv_X3 X hH (by omega)) [] rfl rfl hl.1 (Nat.le_of_ble_eq_true rfl) ⟨Nat.le_of_ble_eq_true rfl, Nat.le_of_ble_eq_true rfl⟩ ⟨Nat.le_refl _, Nat.le_refl _⟩ dX5_make_64 (fun r17 g18 H locs h19 hH => ?_)
                rw [h19.2] at hH
                rw [h19.1]
                refine b_ifne (P := fCould (g 0) z = true) (tgt := 73) hx hb dX5_make_67 (by decide) (fun c20 => ?_) (fun c20 => ?_)
                · refine lv_aload_n hx hb dX5_make_73 rfl (lv_at hl 0 rfl) ?_
                  refine gf_X5_history X hH q_215 dX5_make_74 ?_
                  refine lv_aload_n hx hb dX5_make_77 rfl (lv_at hl 0 rfl) ?_
                  refine gf_X5_now X hH q_213 dX5_make_78 ?_
                  refine z_callVv X (by rw [zUp_id] at hH; exact hH) (c_X0_record l D k a g x hx4 e6 hf hjk) k_X5_54 (rv_X0 X hH) [] rfl rfl hl.1 (Nat.le_of_ble_eq_true rfl) ⟨Nat.le_of_ble_eq_true rfl, Nat.le_of_ble_eq_true rfl⟩ ⟨Nat.le_refl _, Nat.le_refl _⟩ dX5_make_81 (fun g21 H locs h22 hH => ?_)
                  rw [h22] at hH
                  have hH : zH D k a s (zUp (zRecX g x) 0 (g 0)) H locs := by rw [zNow (zRecX_0 g x)]; exact hH
                  refine lv_aload_n hx hb dX5_make_84 rfl (lv_at hl 0 rfl) ?_
                  refine gf_X5_now X hH q_213 dX5_make_85 ?_
                  refine lv_iload_n hx hb dX5_make_88 rfl (lv_at hl 1 rfl) ?_
                  refine z_callVv X hH (c_X3_makeRoomFor l D k a (zRecX g x) (g 0) (z) (by omega)) k_X5_117 (rv_X3 X hH (by omega)) [] rfl rfl hl.1 (Nat.le_of_ble_eq_true rfl) ⟨Nat.le_of_ble_eq_true rfl, Nat.le_of_ble_eq_true rfl⟩ ⟨Nat.le_refl _, Nat.le_refl _⟩ dX5_make_89 (fun g23 H locs h24 hH => ?_)
                  rw [h24] at hH
                  refine lv_aload_n hx hb dX5_make_92 rfl (lv_at hl 0 rfl) ?_
                  refine gf_X5_now X hH q_213 dX5_make_93 ?_
                  refine lv_iload_n hx hb dX5_make_96 rfl (lv_at hl 1 rfl) ?_
                  refine lv_iload_n hx hb dX5_make_97 rfl (lv_at hl 2 rfl) ?_
                  refine lv_iload_n hx hb dX5_make_98 rfl (lv_at hl 3 rfl) ?_
                  refine lv_iload hx hb dX5_make_99 (lv_at hl 4 rfl) ?_
                  refine lv_iload hx hb dX5_make_101 (lv_at hl 5 rfl) ?_
                  refine z_callVv X hH (c_X3_place l D k a (zRecX g x) (fRoom (g 0) z) (z) (by omega) wa nu lo hi) k_X5_121 (rv_X3 X hH (by omega)) [] rfl rfl hl.1 (Nat.le_of_ble_eq_true rfl) ⟨Nat.le_of_ble_eq_true rfl, Nat.le_of_ble_eq_true rfl⟩ ⟨Nat.le_refl _, Nat.le_refl _⟩ dX5_make_103 (fun g25 H locs h26 hH => ?_)
                  rw [h26] at hH
                  refine lv_aload_n hx hb dX5_make_106 rfl (lv_at hl 0 rfl) ?_
                  refine gf_X5_now X hH q_213 dX5_make_107 ?_
                  refine z_callVi X hH (c_X3_keptPlans l D k a (zRecX g x) (fPlace (fRoom (g 0) z) z wa nu lo hi)) k_X5_107 (rv_X3 X hH (by omega)) [] rfl rfl hl.1 (Nat.le_of_ble_eq_true rfl) ⟨Nat.le_of_ble_eq_true rfl, Nat.le_of_ble_eq_true rfl⟩ ⟨Nat.le_refl _, Nat.le_refl _⟩ dX5_make_110 (fun r27 g28 H locs h29 hH => ?_)
                  rw [h29.2] at hH
                  rw [h29.1]
                  exact hret _ _ _ _ _ _ rfl ⟨by simp only [kMake, kMakeV, c4, hz1, c8, c12, c13, c14, c15, c16, c20, okS, okT, okW, okN, hasP, zAct, if_true, if_false, not_true_eq_false, not_false_eq_true, and_self, or_true, true_or, or_false, false_or, and_true, true_and, and_false, false_and, or_self, Bool.false_eq_true, z10], by simp only [kMake, kMakeV, c4, hz1, c8, c12, c13, c14, c15, c16, c20, okS, okT, okW, okN, hasP, zAct, if_true, if_false, not_true_eq_false, not_false_eq_true, and_self, or_true, true_or, or_false, false_or, and_true, true_and, and_false, false_and, or_self, Bool.false_eq_true, z10]; rw [zRec_x hx4 e6]⟩ hH dX5_make_113
                · refine lv_bipush (v := (-4)) hx hb dX5_make_70 (by decide) ?_
                  exact hret _ _ _ _ _ _ rfl ⟨by simp only [kMake, kMakeV, c4, hz1, c8, c12, c13, c14, c15, c16, c20, okS, okT, okW, okN, hasP, zAct, if_true, if_false, not_true_eq_false, not_false_eq_true, and_self, or_true, true_or, or_false, false_or, and_true, true_and, and_false, false_and, or_self, Bool.false_eq_true, z10], by rw [zUp_id]; simp only [kMake, kMakeV, c4, hz1, c8, c12, c13, c14, c15, c16, c20, okS, okT, okW, okN, hasP, zAct, if_true, if_false, not_true_eq_false, not_false_eq_true, and_self, or_true, true_or, or_false, false_or, and_true, true_and, and_false, false_and, or_self, Bool.false_eq_true, z10]⟩ hH dX5_make_72
              · refine lv_bipush (v := (-2)) hx hb dX5_make_56 (by decide) ?_
                exact hret _ _ _ _ _ _ rfl ⟨by simp only [kMake, kMakeV, c4, hz1, c8, c12, c13, c14, c15, c16, okS, okT, okW, okN, hasP, zAct, if_true, if_false, not_true_eq_false, not_false_eq_true, and_self, or_true, true_or, or_false, false_or, and_true, true_and, and_false, false_and, or_self, Bool.false_eq_true, z10], by rw [zUp_id]; simp only [kMake, kMakeV, c4, hz1, c8, c12, c13, c14, c15, c16, okS, okT, okW, okN, hasP, zAct, if_true, if_false, not_true_eq_false, not_false_eq_true, and_self, or_true, true_or, or_false, false_or, and_true, true_and, and_false, false_and, or_self, Bool.false_eq_true, z10]⟩ hH dX5_make_58
      · refine lv_bipush (v := (-2)) hx hb dX5_make_26 (by decide) ?_
        exact hret _ _ _ _ _ _ rfl ⟨by simp only [kMake, kMakeV, c4, hz1, c8, c12, okS, okT, okW, okN, hasP, zAct, if_true, if_false, not_true_eq_false, not_false_eq_true, and_self, or_true, true_or, or_false, false_or, and_true, true_and, and_false, false_and, or_self, Bool.false_eq_true, z10], by rw [zUp_id]; simp only [kMake, kMakeV, c4, hz1, c8, c12, okS, okT, okW, okN, hasP, zAct, if_true, if_false, not_true_eq_false, not_false_eq_true, and_self, or_true, true_or, or_false, false_or, and_true, true_and, and_false, false_and, or_self, Bool.false_eq_true, z10]⟩ hH dX5_make_28
  · refine lv_iconst (v := (-1)) hx hb dX5_make_7 (by decide) ?_
    exact hret _ _ _ _ _ _ rfl ⟨by simp only [kMake, kMakeV, c4, okS, okT, okW, okN, hasP, zAct, if_true, if_false, not_true_eq_false, not_false_eq_true, and_self, or_true, true_or, or_false, false_or, and_true, true_and, and_false, false_and, or_self, Bool.false_eq_true, z10], by rw [zUp_id]; simp only [kMake, kMakeV, c4, okS, okT, okW, okN, hasP, zAct, if_true, if_false, not_true_eq_false, not_false_eq_true, and_self, or_true, true_or, or_false, false_or, and_true, true_and, and_false, false_and, or_self, Bool.false_eq_true, z10]⟩ hH dX5_make_8
set_option maxRecDepth 100000 in
set_option maxHeartbeats 4000000 in
theorem c_X5_set (l : Launch) (D : va_G) (k : Nat → ClassId) (a : Nat → Nat → Nat) (g : Mem) (x : Nat) (hx4 : x < 4) (e6 : g 6 0 = nI x) (hf : zFl (g 0)) (hjk : ∀ j, 160 ≤ j → g (2 + x) j = g 0 j) (wh va : Int32) : zI l yX5_set cX5_set 4 .int 3 64 D k a [.ref (a 6 0), .int (wh), .int (va)] (g) (fun r g' => r = ((kSet (g 0) wh va).1) ∧ g' = (zAct g (kSet (g 0) wh va).2)) := by
  refine zI_of (own := RX5) (by decide +kernel) rfl (Nat.le_of_ble_eq_true rfl) ?_
  intro p e s m args below meth c X Q hret hH ls hl
  obtain ⟨hx, hb, hml, hown, hts⟩ := X.1
  have hl : lv_has ls 4 [(0, .ref (a 6 0)), (1, .int (wh)), (2, .int (va))] := hl
  have hH : zH D k a s (g) s.heap [] := hH
  have hH : zH D k a s (zUp g 0 (g 0)) s.heap [] := by rw [zUp_id]; exact hH
  refine lv_iload_n hx hb dX5_set_0 rfl (lv_at hl 1 rfl) ?_
  refine i_if_lt (tgt := 9) hx hb dX5_set_1 (by decide) (fun c1 => ?_) (fun c1 => ?_)
  · refine lv_iconst (v := (-1)) hx hb dX5_set_9 (by decide) ?_
    exact hret _ _ _ _ _ _ rfl ⟨by simp only [kSet, c1, okS, okT, okW, okN, hasP, zAct, if_true, if_false, not_true_eq_false, not_false_eq_true, and_self, or_true, true_or, or_false, false_or, and_true, true_and, and_false, false_and, or_self, Bool.false_eq_true, z10], by rw [zUp_id]; simp only [kSet, c1, okS, okT, okW, okN, hasP, zAct, if_true, if_false, not_true_eq_false, not_false_eq_true, and_self, or_true, true_or, or_false, false_or, and_true, true_and, and_false, false_and, or_self, Bool.false_eq_true, z10]⟩ hH dX5_set_10
  · refine lv_iload_n hx hb dX5_set_4 rfl (lv_at hl 1 rfl) ?_
    refine lv_iconst (v := 5) hx hb dX5_set_5 (by decide) ?_
    refine i_icmp_lt (tgt := 11) hx hb dX5_set_6 (by decide) (fun c2 => ?_) (fun c2 => ?_)
    · obtain ⟨q, hq, rfl⟩ := zIx (B := 5) (b := 5) rfl (by decide) ⟨c1, c2⟩
      have hq1 : iN (nI q) = q := iNn (by omega)
      refine lv_iload_n hx hb dX5_set_11 rfl (lv_at hl 2 rfl) ?_
      refine va_gets hx hb X.2.2.2.1 hH.2 hown (hts _ q_480) (fun _ h9 => h9) dX5_set_12 ?_
      refine lv_iload_n hx hb dX5_set_15 rfl (lv_at hl 1 rfl) ?_
      refine va_ti hx hb X.2.2.2.2.1 hH.2 (z_vpin (j := q) (by omega) (by omega)) (v := .int (zLe q)) (by rw [z_cl (j := q) (n := 5) (by omega) (by omega)]) dX5_set_16 ?_
      refine i_icmp_lt (tgt := 29) hx hb dX5_set_17 (by decide) (fun c3 => ?_) (fun c3 => ?_)
      · refine lv_bipush (v := (-2)) hx hb dX5_set_29 (by decide) ?_
        exact hret _ _ _ _ _ _ rfl ⟨by simp only [kSet, c1, c2, hq1, c3, okS, okT, okW, okN, hasP, zAct, if_true, if_false, not_true_eq_false, not_false_eq_true, and_self, or_true, true_or, or_false, false_or, and_true, true_and, and_false, false_and, or_self, Bool.false_eq_true, z10], by rw [zUp_id]; simp only [kSet, c1, c2, hq1, c3, okS, okT, okW, okN, hasP, zAct, if_true, if_false, not_true_eq_false, not_false_eq_true, and_self, or_true, true_or, or_false, false_or, and_true, true_and, and_false, false_and, or_self, Bool.false_eq_true, z10]⟩ hH dX5_set_31
      · refine lv_iload_n hx hb dX5_set_20 rfl (lv_at hl 2 rfl) ?_
        refine va_gets hx hb X.2.2.2.2.2.1 hH.2 hown (hts _ q_482) (fun _ h9 => h9) dX5_set_21 ?_
        refine lv_iload_n hx hb dX5_set_24 rfl (lv_at hl 1 rfl) ?_
        refine va_ti hx hb X.2.2.2.2.2.2.1 hH.2 (z_vpin (j := q) (by omega) (by omega)) (v := .int (zMo q)) (by rw [z_cl (j := q) (n := 5) (by omega) (by omega)]) dX5_set_25 ?_
        refine i_icmp_le (tgt := 32) hx hb dX5_set_26 (by decide) (fun c4 => ?_) (fun c4 => ?_)
        · refine lv_aload_n hx hb dX5_set_32 rfl (lv_at hl 0 rfl) ?_
          refine gf_X5_now X hH q_213 dX5_set_33 ?_
          refine gf_X3_settings X hH (by omega) q_123 dX5_set_36 ?_
          refine lv_iload_n hx hb dX5_set_39 rfl (lv_at hl 1 rfl) ?_
          refine an_sets X hH (q) (by omega) dX5_set_40 ?_
          refine lv_istore_n (lv' := [(3, .int ((g 0) (8 + q))), (0, .ref (a 6 0)), (1, .int (nI q)), (2, .int (va))]) hx hb dX5_set_41 rfl hl (by decide) rfl (fun ls hl => ?_)
          refine lv_iload_n hx hb dX5_set_42 rfl (lv_at hl 0 rfl) ?_
          refine lv_iload_n hx hb dX5_set_43 rfl (lv_at hl 3 rfl) ?_
          refine lv_icmp_ne (tgt := 50) hx hb dX5_set_44 (by decide) (fun c5 => ?_) (fun c5 => ?_)
          · refine lv_aload_n hx hb dX5_set_50 rfl (lv_at hl 1 rfl) ?_
            refine gf_X5_history X hH q_215 dX5_set_51 ?_
            refine lv_aload_n hx hb dX5_set_54 rfl (lv_at hl 1 rfl) ?_
            refine gf_X5_now X hH q_213 dX5_set_55 ?_
            refine z_callVv X (by rw [zUp_id] at hH; exact hH) (c_X0_record l D k a g x hx4 e6 hf hjk) k_X5_54 (rv_X0 X hH) [] rfl rfl hl.1 (Nat.le_of_ble_eq_true rfl) ⟨Nat.le_of_ble_eq_true rfl, Nat.le_of_ble_eq_true rfl⟩ ⟨Nat.le_refl _, Nat.le_refl _⟩ dX5_set_58 (fun g6 H locs h7 hH => ?_)
            rw [h7] at hH
            have hH : zH D k a s (zUp (zRecX g x) 0 (g 0)) H locs := by rw [zNow (zRecX_0 g x)]; exact hH
            refine lv_aload_n hx hb dX5_set_61 rfl (lv_at hl 1 rfl) ?_
            refine gf_X5_now X hH q_213 dX5_set_62 ?_
            refine gf_X3_settings X hH (by omega) q_123 dX5_set_65 ?_
            refine lv_iload_n hx hb dX5_set_68 rfl (lv_at hl 2 rfl) ?_
            refine lv_iload_n hx hb dX5_set_69 rfl (lv_at hl 3 rfl) ?_
            refine sn_sets X hH (q) (by omega) dX5_set_70 (fun H locs hH => ?_)
            refine lv_iload_n hx hb dX5_set_71 rfl (lv_at hl 2 rfl) ?_
            refine lv_iconst (v := 3) hx hb dX5_set_72 (by decide) ?_
            refine n_icmp_ne (A := q) (B := 3) (tgt := 84) hx hb (by omega) (by omega) dX5_set_73 (by decide) (fun c8 => ?_) (fun c8 => ?_)
            · refine lv_iload_n hx hb dX5_set_84 rfl (lv_at hl 0 rfl) ?_
              exact hret _ _ _ _ _ _ rfl ⟨by simp only [kSet, if_neg c8, c1, c2, hq1, c3, c4, c5, okS, okT, okW, okN, hasP, zAct, if_true, if_false, not_true_eq_false, not_false_eq_true, and_self, or_true, true_or, or_false, false_or, and_true, true_and, and_false, false_and, or_self, Bool.false_eq_true, z10], by simp only [kSet, if_neg c8, c1, c2, hq1, c3, c4, c5, okS, okT, okW, okN, hasP, zAct, if_true, if_false, not_true_eq_false, not_false_eq_true, and_self, or_true, true_or, or_false, false_or, and_true, true_and, and_false, false_and, or_self, Bool.false_eq_true, z10]; rw [zRec_x hx4 e6]⟩ hH dX5_set_85
            · refine lv_aload_n hx hb dX5_set_76 rfl (lv_at hl 1 rfl) ?_
              refine gf_X5_now X hH q_213 dX5_set_77 ?_
              refine lv_iload_n hx hb dX5_set_80 rfl (lv_at hl 3 rfl) ?_
              refine z_callVv X hH (c_X3_crowdOutDownTo l D k a (zRecX g x) (upd (g 0) (8 + q) va) va) k_X5_134 (rv_X3 X hH (by omega)) [] rfl rfl hl.1 (Nat.le_of_ble_eq_true rfl) ⟨Nat.le_of_ble_eq_true rfl, Nat.le_of_ble_eq_true rfl⟩ ⟨Nat.le_refl _, Nat.le_refl _⟩ dX5_set_81 (fun g9 H locs h10 hH => ?_)
              rw [h10] at hH
              refine lv_iload_n hx hb dX5_set_84 rfl (lv_at hl 0 rfl) ?_
              exact hret _ _ _ _ _ _ rfl ⟨by simp only [kSet, if_pos c8, c1, c2, hq1, c3, c4, c5, okS, okT, okW, okN, hasP, zAct, if_true, if_false, not_true_eq_false, not_false_eq_true, and_self, or_true, true_or, or_false, false_or, and_true, true_and, and_false, false_and, or_self, Bool.false_eq_true, z10], by simp only [kSet, if_pos c8, c1, c2, hq1, c3, c4, c5, okS, okT, okW, okN, hasP, zAct, if_true, if_false, not_true_eq_false, not_false_eq_true, and_self, or_true, true_or, or_false, false_or, and_true, true_and, and_false, false_and, or_self, Bool.false_eq_true, z10]; rw [zRec_x hx4 e6]⟩ hH dX5_set_85
          · refine lv_bipush (v := (-4)) hx hb dX5_set_47 (by decide) ?_
            exact hret _ _ _ _ _ _ rfl ⟨by simp only [kSet, c1, c2, hq1, c3, c4, c5, okS, okT, okW, okN, hasP, zAct, if_true, if_false, not_true_eq_false, not_false_eq_true, and_self, or_true, true_or, or_false, false_or, and_true, true_and, and_false, false_and, or_self, Bool.false_eq_true, z10], by rw [zUp_id]; simp only [kSet, c1, c2, hq1, c3, c4, c5, okS, okT, okW, okN, hasP, zAct, if_true, if_false, not_true_eq_false, not_false_eq_true, and_self, or_true, true_or, or_false, false_or, and_true, true_and, and_false, false_and, or_self, Bool.false_eq_true, z10]⟩ hH dX5_set_49
        · refine lv_bipush (v := (-2)) hx hb dX5_set_29 (by decide) ?_
          exact hret _ _ _ _ _ _ rfl ⟨by simp only [kSet, c1, c2, hq1, c3, c4, okS, okT, okW, okN, hasP, zAct, if_true, if_false, not_true_eq_false, not_false_eq_true, and_self, or_true, true_or, or_false, false_or, and_true, true_and, and_false, false_and, or_self, Bool.false_eq_true, z10], by rw [zUp_id]; simp only [kSet, c1, c2, hq1, c3, c4, okS, okT, okW, okN, hasP, zAct, if_true, if_false, not_true_eq_false, not_false_eq_true, and_self, or_true, true_or, or_false, false_or, and_true, true_and, and_false, false_and, or_self, Bool.false_eq_true, z10]⟩ hH dX5_set_31
    · refine lv_iconst (v := (-1)) hx hb dX5_set_9 (by decide) ?_
      exact hret _ _ _ _ _ _ rfl ⟨by simp only [kSet, c1, c2, okS, okT, okW, okN, hasP, zAct, if_true, if_false, not_true_eq_false, not_false_eq_true, and_self, or_true, true_or, or_false, false_or, and_true, true_and, and_false, false_and, or_self, Bool.false_eq_true, z10], by rw [zUp_id]; simp only [kSet, c1, c2, okS, okT, okW, okN, hasP, zAct, if_true, if_false, not_true_eq_false, not_false_eq_true, and_self, or_true, true_or, or_false, false_or, and_true, true_and, and_false, false_and, or_self, Bool.false_eq_true, z10]⟩ hH dX5_set_10
