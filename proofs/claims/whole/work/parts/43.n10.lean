set_option maxRecDepth 100000 in
set_option maxHeartbeats 4000000 in
theorem c_X6_plan (l : Launch) (D : va_G) (k : Nat → ClassId) (a : Nat → Nat → Nat) (g : Mem) (v u : V) (hf : zFl v) (sh wt : Int32) : zI l yX6_plan cX6_plan 4 .int 3 65 D k a [.ref (a 6 8), .int (sh), .int (wt)] (zM g 0 v u) (fun r g' => r = (kPlan v sh wt) ∧ g' = (zM g 0 v u)) := by
  refine zI_of (own := RX6) (by decide +kernel) rfl (Nat.le_of_ble_eq_true rfl) ?_
  intro p e s m args below meth c X Q hret hH ls hl
  obtain ⟨hx, hb, hml, hown, hts⟩ := X.1
  have hl : lv_has ls 4 [(0, .ref (a 6 8)), (1, .int (sh)), (2, .int (wt))] := hl
  have hH : zH D k a s (zM g 0 v u) s.heap [] := hH
  refine lv_aload_n hx hb dX6_plan_0 rfl (lv_at hl 0 rfl) ?_
  refine lv_iload_n hx hb dX6_plan_1 rfl (lv_at hl 1 rfl) ?_
  refine z_callVi X hH (c_X6_hasPlan l D k a g v u hf sh) k_X6_140 (rv_X6 X hH) [] rfl rfl hl.1 (Nat.le_of_ble_eq_true rfl) ⟨Nat.le_of_ble_eq_true rfl, Nat.le_of_ble_eq_true rfl⟩ ⟨Nat.le_refl _, Nat.le_refl _⟩ dX6_plan_2 (fun r1 g2 H locs h3 hH => ?_)
  rw [h3.2] at hH
  rw [h3.1]
  refine b_ifne (P := hasP v sh) (tgt := 10) hx hb dX6_plan_5 (by decide) (fun c4 => ?_) (fun c4 => ?_)
  · obtain ⟨z, hz, rfl⟩ := zIx (B := 12) (b := 12) rfl (by decide) c4.1
    have hz1 : iN (nI z) = z := iNn (by omega)
    have hz2 : ¬ v (13 + 11 * z + 0) = 0 := by have q9 := c4.2; rw [hz1] at q9; exact q9
    refine lv_iconst (v := 0) hx hb dX6_plan_10 (by decide) ?_
    refine lv_iload_n hx hb dX6_plan_11 rfl (lv_at hl 1 rfl) ?_
    refine z_callSi X hH (c_X6_planAt l D k a (zM g 0 v u) 0 (z)) k_X6_38 [] rfl rfl hl.1 (Nat.le_of_ble_eq_true rfl) ⟨Nat.le_of_ble_eq_true rfl, Nat.le_of_ble_eq_true rfl⟩ ⟨Nat.le_refl _, Nat.le_refl _⟩ dX6_plan_12 (fun r5 g6 H locs h7 hH => ?_)
    rw [h7.2] at hH
    rw [h7.1]
    refine lv_istore_n (lv' := [(3, .int (nI (160 * 0 + 13 + 11 * z))), (0, .ref (a 6 8)), (1, .int (nI z)), (2, .int (wt))]) hx hb dX6_plan_15 rfl hl (by decide) rfl (fun ls hl => ?_)
    refine lv_iload_n hx hb dX6_plan_16 rfl (lv_at hl 3 rfl) ?_
    by_cases c8 : wt = 0
    · refine lv_tableIn (off := 59) (tgt := 76) hx hb dX6_plan_17 (by rw [c8]; decide) (by rw [c8]; decide) (by rw [c8]; rfl) (by decide) ?_
      rw [c8] at hl
      refine lv_aload_n hx hb dX6_plan_76 rfl (lv_at hl 1 rfl) ?_
      refine gf_X6_s X hH q_576 dX6_plan_77 ?_
      refine lv_iload_n hx hb dX6_plan_80 rfl (lv_at hl 0 rfl) ?_
      refine lv_iconst (v := 1) hx hb dX6_plan_81 (by decide) ?_
      refine n_iadd (A := 160 * 0 + 13 + 11 * z) (B := 1) hx hb (160 * 0 + 13 + 11 * z + 1) (by omega) dX6_plan_82 ?_
      refine lv_iload_n hx hb dX6_plan_83 rfl (lv_at hl 3 rfl) ?_
      refine n_iadd (A := 160 * 0 + 13 + 11 * z + 1) (B := 0) hx hb (160 * 0 + 13 + 11 * z + 1 + 0) (by omega) dX6_plan_84 ?_
      refine am_s X (by omega) hH (13 + 11 * z + 1) (by omega) (by omega) dX6_plan_85 ?_
      exact hret _ _ _ _ _ _ rfl ⟨by simp only [kPlan, ← z_4, ← z_3, ← z_5, z_if2, z_if3, c4, hz1, hz2, if_pos c8, okS, okT, okW, okN, hasP, zAct, if_true, if_false, not_true_eq_false, not_false_eq_true, and_self, or_true, true_or, or_false, false_or, and_true, true_and, and_false, false_and, or_self, Bool.false_eq_true, z10], rfl⟩ hH dX6_plan_86
    by_cases c9 : wt = 1
    · refine lv_tableIn (off := 59) (tgt := 76) hx hb dX6_plan_17 (by rw [c9]; decide) (by rw [c9]; decide) (by rw [c9]; rfl) (by decide) ?_
      rw [c9] at hl
      refine lv_aload_n hx hb dX6_plan_76 rfl (lv_at hl 1 rfl) ?_
      refine gf_X6_s X hH q_576 dX6_plan_77 ?_
      refine lv_iload_n hx hb dX6_plan_80 rfl (lv_at hl 0 rfl) ?_
      refine lv_iconst (v := 1) hx hb dX6_plan_81 (by decide) ?_
      refine n_iadd (A := 160 * 0 + 13 + 11 * z) (B := 1) hx hb (160 * 0 + 13 + 11 * z + 1) (by omega) dX6_plan_82 ?_
      refine lv_iload_n hx hb dX6_plan_83 rfl (lv_at hl 3 rfl) ?_
      refine n_iadd (A := 160 * 0 + 13 + 11 * z + 1) (B := 1) hx hb (160 * 0 + 13 + 11 * z + 1 + 1) (by omega) dX6_plan_84 ?_
      refine am_s X (by omega) hH (13 + 11 * z + 2) (by omega) (by omega) dX6_plan_85 ?_
      exact hret _ _ _ _ _ _ rfl ⟨by simp only [kPlan, ← z_4, ← z_3, ← z_5, z_if2, z_if3, c4, hz1, hz2, c8, if_pos c9, okS, okT, okW, okN, hasP, zAct, if_true, if_false, not_true_eq_false, not_false_eq_true, and_self, or_true, true_or, or_false, false_or, and_true, true_and, and_false, false_and, or_self, Bool.false_eq_true, z10], rfl⟩ hH dX6_plan_86
    by_cases c10 : wt = 2
    · refine lv_tableIn (off := 59) (tgt := 76) hx hb dX6_plan_17 (by rw [c10]; decide) (by rw [c10]; decide) (by rw [c10]; rfl) (by decide) ?_
      rw [c10] at hl
      refine lv_aload_n hx hb dX6_plan_76 rfl (lv_at hl 1 rfl) ?_
      refine gf_X6_s X hH q_576 dX6_plan_77 ?_
      refine lv_iload_n hx hb dX6_plan_80 rfl (lv_at hl 0 rfl) ?_
      refine lv_iconst (v := 1) hx hb dX6_plan_81 (by decide) ?_
      refine n_iadd (A := 160 * 0 + 13 + 11 * z) (B := 1) hx hb (160 * 0 + 13 + 11 * z + 1) (by omega) dX6_plan_82 ?_
      refine lv_iload_n hx hb dX6_plan_83 rfl (lv_at hl 3 rfl) ?_
      refine n_iadd (A := 160 * 0 + 13 + 11 * z + 1) (B := 2) hx hb (160 * 0 + 13 + 11 * z + 1 + 2) (by omega) dX6_plan_84 ?_
      refine am_s X (by omega) hH (13 + 11 * z + 3) (by omega) (by omega) dX6_plan_85 ?_
      exact hret _ _ _ _ _ _ rfl ⟨by simp only [kPlan, ← z_4, ← z_3, ← z_5, z_if2, z_if3, c4, hz1, hz2, c8, c9, if_pos c10, okS, okT, okW, okN, hasP, zAct, if_true, if_false, not_true_eq_false, not_false_eq_true, and_self, or_true, true_or, or_false, false_or, and_true, true_and, and_false, false_and, or_self, Bool.false_eq_true, z10], rfl⟩ hH dX6_plan_86
    by_cases c11 : wt = 3
    · refine lv_tableIn (off := 59) (tgt := 76) hx hb dX6_plan_17 (by rw [c11]; decide) (by rw [c11]; decide) (by rw [c11]; rfl) (by decide) ?_
      rw [c11] at hl
      refine lv_aload_n hx hb dX6_plan_76 rfl (lv_at hl 1 rfl) ?_
      refine gf_X6_s X hH q_576 dX6_plan_77 ?_
      refine lv_iload_n hx hb dX6_plan_80 rfl (lv_at hl 0 rfl) ?_
      refine lv_iconst (v := 1) hx hb dX6_plan_81 (by decide) ?_
      refine n_iadd (A := 160 * 0 + 13 + 11 * z) (B := 1) hx hb (160 * 0 + 13 + 11 * z + 1) (by omega) dX6_plan_82 ?_
      refine lv_iload_n hx hb dX6_plan_83 rfl (lv_at hl 3 rfl) ?_
      refine n_iadd (A := 160 * 0 + 13 + 11 * z + 1) (B := 3) hx hb (160 * 0 + 13 + 11 * z + 1 + 3) (by omega) dX6_plan_84 ?_
      refine am_s X (by omega) hH (13 + 11 * z + 4) (by omega) (by omega) dX6_plan_85 ?_
      exact hret _ _ _ _ _ _ rfl ⟨by simp only [kPlan, ← z_4, ← z_3, ← z_5, z_if2, z_if3, c4, hz1, hz2, c8, c9, c10, if_pos c11, okS, okT, okW, okN, hasP, zAct, if_true, if_false, not_true_eq_false, not_false_eq_true, and_self, or_true, true_or, or_false, false_or, and_true, true_and, and_false, false_and, or_self, Bool.false_eq_true, z10], rfl⟩ hH dX6_plan_86
    by_cases c12 : wt = 4
    · refine lv_tableIn (off := 59) (tgt := 76) hx hb dX6_plan_17 (by rw [c12]; decide) (by rw [c12]; decide) (by rw [c12]; rfl) (by decide) ?_
      rw [c12] at hl
      refine lv_aload_n hx hb dX6_plan_76 rfl (lv_at hl 1 rfl) ?_
      refine gf_X6_s X hH q_576 dX6_plan_77 ?_
      refine lv_iload_n hx hb dX6_plan_80 rfl (lv_at hl 0 rfl) ?_
      refine lv_iconst (v := 1) hx hb dX6_plan_81 (by decide) ?_
      refine n_iadd (A := 160 * 0 + 13 + 11 * z) (B := 1) hx hb (160 * 0 + 13 + 11 * z + 1) (by omega) dX6_plan_82 ?_
      refine lv_iload_n hx hb dX6_plan_83 rfl (lv_at hl 3 rfl) ?_
      refine n_iadd (A := 160 * 0 + 13 + 11 * z + 1) (B := 4) hx hb (160 * 0 + 13 + 11 * z + 1 + 4) (by omega) dX6_plan_84 ?_
      refine am_s X (by omega) hH (13 + 11 * z + 5) (by omega) (by omega) dX6_plan_85 ?_
      exact hret _ _ _ _ _ _ rfl ⟨by simp only [kPlan, ← z_4, ← z_3, ← z_5, z_if2, z_if3, c4, hz1, hz2, c8, c9, c10, c11, if_pos c12, okS, okT, okW, okN, hasP, zAct, if_true, if_false, not_true_eq_false, not_false_eq_true, and_self, or_true, true_or, or_false, false_or, and_true, true_and, and_false, false_and, or_self, Bool.false_eq_true, z10], rfl⟩ hH dX6_plan_86
    by_cases c13 : wt = 5
    · refine lv_tableIn (off := 70) (tgt := 87) hx hb dX6_plan_17 (by rw [c13]; decide) (by rw [c13]; decide) (by rw [c13]; rfl) (by decide) ?_
      refine lv_aload_n hx hb dX6_plan_87 rfl (lv_at hl 1 rfl) ?_
      refine lv_iconst (v := 0) hx hb dX6_plan_88 (by decide) ?_
      refine lv_iload_n hx hb dX6_plan_89 rfl (lv_at hl 2 rfl) ?_
      refine z_callVi X hH (c_X6_age l D k a g 0 (by omega) v u (z) (by omega)) k_X6_42 (rv_X6 X hH) [] rfl rfl hl.1 (Nat.le_of_ble_eq_true rfl) ⟨Nat.le_of_ble_eq_true rfl, Nat.le_of_ble_eq_true rfl⟩ ⟨Nat.le_refl _, Nat.le_refl _⟩ dX6_plan_90 (fun r14 g15 H locs h16 hH => ?_)
      rw [h16.2] at hH
      rw [h16.1]
      exact hret _ _ _ _ _ _ rfl ⟨by simp only [kPlan, ← z_4, ← z_3, ← z_5, z_if2, z_if3, c4, hz1, hz2, c8, c9, c10, c11, c12, if_pos c13, okS, okT, okW, okN, hasP, zAct, if_true, if_false, not_true_eq_false, not_false_eq_true, and_self, or_true, true_or, or_false, false_or, and_true, true_and, and_false, false_and, or_self, Bool.false_eq_true, z10], rfl⟩ hH dX6_plan_93
    by_cases c17 : wt = 6
    · refine lv_tableIn (off := 77) (tgt := 94) hx hb dX6_plan_17 (by rw [c17]; decide) (by rw [c17]; decide) (by rw [c17]; rfl) (by decide) ?_
      refine lv_aload_n hx hb dX6_plan_94 rfl (lv_at hl 1 rfl) ?_
      refine lv_iconst (v := 0) hx hb dX6_plan_95 (by decide) ?_
      refine lv_iload_n hx hb dX6_plan_96 rfl (lv_at hl 2 rfl) ?_
      refine z_callVi X hH (c_X6_isChanged l D k a g 0 (by omega) v u (z) (by omega)) k_X6_45 (rv_X6 X hH) [] rfl rfl hl.1 (Nat.le_of_ble_eq_true rfl) ⟨Nat.le_of_ble_eq_true rfl, Nat.le_of_ble_eq_true rfl⟩ ⟨Nat.le_refl _, Nat.le_refl _⟩ dX6_plan_97 (fun r18 g19 H locs h20 hH => ?_)
      rw [h20.2] at hH
      rw [h20.1]
      refine b_ifne (P := fChanged v z = true) (tgt := 112) hx hb dX6_plan_100 (by decide) (fun c21 => ?_) (fun c21 => ?_)
      · refine lv_iconst (v := 1) hx hb dX6_plan_112 (by decide) ?_
        refine lv_goto (tgt := 117) hx hb dX6_plan_113 (by decide) ?_
        exact hret _ _ _ _ _ _ rfl ⟨by simp only [kPlan, ← z_4, ← z_3, ← z_5, z_if2, z_if3, c4, hz1, hz2, c8, c9, c10, c11, c12, c13, if_pos c17, c21, okS, okT, okW, okN, hasP, zAct, if_true, if_false, not_true_eq_false, not_false_eq_true, and_self, or_true, true_or, or_false, false_or, and_true, true_and, and_false, false_and, or_self, Bool.false_eq_true, z10], rfl⟩ hH dX6_plan_117
      · refine lv_aload_n hx hb dX6_plan_103 rfl (lv_at hl 1 rfl) ?_
        refine lv_iconst (v := 0) hx hb dX6_plan_104 (by decide) ?_
        refine lv_iload_n hx hb dX6_plan_105 rfl (lv_at hl 2 rfl) ?_
        refine z_callVi X hH (c_X6_isOld l D k a g 0 (by omega) v u (z) (by omega)) k_X6_49 (rv_X6 X hH) [] rfl rfl hl.1 (Nat.le_of_ble_eq_true rfl) ⟨Nat.le_of_ble_eq_true rfl, Nat.le_of_ble_eq_true rfl⟩ ⟨Nat.le_refl _, Nat.le_refl _⟩ dX6_plan_106 (fun r22 g23 H locs h24 hH => ?_)
        rw [h24.2] at hH
        rw [h24.1]
        refine b_ifeq (P := fOld v z = true) (tgt := 116) hx hb dX6_plan_109 (by decide) (fun c25 => ?_) (fun c25 => ?_)
        · refine lv_iconst (v := 0) hx hb dX6_plan_116 (by decide) ?_
          exact hret _ _ _ _ _ _ rfl ⟨by simp only [kPlan, ← z_4, ← z_3, ← z_5, z_if2, z_if3, c4, hz1, hz2, c8, c9, c10, c11, c12, c13, if_pos c17, c21, c25, okS, okT, okW, okN, hasP, zAct, if_true, if_false, not_true_eq_false, not_false_eq_true, and_self, or_true, true_or, or_false, false_or, and_true, true_and, and_false, false_and, or_self, Bool.false_eq_true, z10], rfl⟩ hH dX6_plan_117
        · refine lv_iconst (v := 1) hx hb dX6_plan_112 (by decide) ?_
          refine lv_goto (tgt := 117) hx hb dX6_plan_113 (by decide) ?_
          exact hret _ _ _ _ _ _ rfl ⟨by simp only [kPlan, ← z_4, ← z_3, ← z_5, z_if2, z_if3, c4, hz1, hz2, c8, c9, c10, c11, c12, c13, if_pos c17, c21, c25, okS, okT, okW, okN, hasP, zAct, if_true, if_false, not_true_eq_false, not_false_eq_true, and_self, or_true, true_or, or_false, false_or, and_true, true_and, and_false, false_and, or_self, Bool.false_eq_true, z10], rfl⟩ hH dX6_plan_117
    by_cases c26 : wt = 7
    · refine lv_tableIn (off := 101) (tgt := 118) hx hb dX6_plan_17 (by rw [c26]; decide) (by rw [c26]; decide) (by rw [c26]; rfl) (by decide) ?_
      refine lv_aload_n hx hb dX6_plan_118 rfl (lv_at hl 1 rfl) ?_
      refine gf_X6_s X hH q_576 dX6_plan_119 ?_
      refine lv_iload_n hx hb dX6_plan_122 rfl (lv_at hl 0 rfl) ?_
      refine lv_bipush (v := 8) hx hb dX6_plan_123 (by decide) ?_
      refine n_iadd (A := 160 * 0 + 13 + 11 * z) (B := 8) hx hb (160 * 0 + 13 + 11 * z + 8) (by omega) dX6_plan_125 ?_
      refine am_s X (by omega) hH (13 + 11 * z + 8) (by omega) (by omega) dX6_plan_126 ?_
      exact hret _ _ _ _ _ _ rfl ⟨by simp only [kPlan, ← z_4, ← z_3, ← z_5, z_if2, z_if3, c4, hz1, hz2, c8, c9, c10, c11, c12, c13, c17, if_pos c26, okS, okT, okW, okN, hasP, zAct, if_true, if_false, not_true_eq_false, not_false_eq_true, and_self, or_true, true_or, or_false, false_or, and_true, true_and, and_false, false_and, or_self, Bool.false_eq_true, z10], rfl⟩ hH dX6_plan_127
    by_cases c27 : wt = 8
    · refine lv_tableIn (off := 111) (tgt := 128) hx hb dX6_plan_17 (by rw [c27]; decide) (by rw [c27]; decide) (by rw [c27]; rfl) (by decide) ?_
      refine lv_aload_n hx hb dX6_plan_128 rfl (lv_at hl 1 rfl) ?_
      refine gf_X6_s X hH q_576 dX6_plan_129 ?_
      refine lv_iload_n hx hb dX6_plan_132 rfl (lv_at hl 0 rfl) ?_
      refine lv_bipush (v := 9) hx hb dX6_plan_133 (by decide) ?_
      refine n_iadd (A := 160 * 0 + 13 + 11 * z) (B := 9) hx hb (160 * 0 + 13 + 11 * z + 9) (by omega) dX6_plan_135 ?_
      refine am_s X (by omega) hH (13 + 11 * z + 9) (by omega) (by omega) dX6_plan_136 ?_
      exact hret _ _ _ _ _ _ rfl ⟨by simp only [kPlan, ← z_4, ← z_3, ← z_5, z_if2, z_if3, c4, hz1, hz2, c8, c9, c10, c11, c12, c13, c17, c26, if_pos c27, okS, okT, okW, okN, hasP, zAct, if_true, if_false, not_true_eq_false, not_false_eq_true, and_self, or_true, true_or, or_false, false_or, and_true, true_and, and_false, false_and, or_self, Bool.false_eq_true, z10], rfl⟩ hH dX6_plan_137
    by_cases c28 : wt = 9
    · refine lv_tableIn (off := 121) (tgt := 138) hx hb dX6_plan_17 (by rw [c28]; decide) (by rw [c28]; decide) (by rw [c28]; rfl) (by decide) ?_
      refine lv_aload_n hx hb dX6_plan_138 rfl (lv_at hl 1 rfl) ?_
      refine gf_X6_s X hH q_576 dX6_plan_139 ?_
      refine lv_sipush (v := 145) hx hb dX6_plan_142 (by decide) ?_
      refine am_s (z := 145) X (by omega) hH (145) (by omega) (by omega) dX6_plan_145 ?_
      refine lv_aload_n hx hb dX6_plan_146 rfl (lv_at hl 1 rfl) ?_
      refine gf_X6_s X hH q_576 dX6_plan_147 ?_
      refine lv_iload_n hx hb dX6_plan_150 rfl (lv_at hl 0 rfl) ?_
      refine lv_bipush (v := 7) hx hb dX6_plan_151 (by decide) ?_
      refine n_iadd (A := 160 * 0 + 13 + 11 * z) (B := 7) hx hb (160 * 0 + 13 + 11 * z + 7) (by omega) dX6_plan_153 ?_
      refine am_s X (by omega) hH (13 + 11 * z + 7) (by omega) (by omega) dX6_plan_154 ?_
      refine lv_isub hx hb dX6_plan_155 ?_
      exact hret _ _ _ _ _ _ rfl ⟨by simp only [kPlan, ← z_4, ← z_3, ← z_5, z_if2, z_if3, c4, hz1, hz2, c8, c9, c10, c11, c12, c13, c17, c26, c27, if_pos c28, okS, okT, okW, okN, hasP, zAct, if_true, if_false, not_true_eq_false, not_false_eq_true, and_self, or_true, true_or, or_false, false_or, and_true, true_and, and_false, false_and, or_self, Bool.false_eq_true, z10], rfl⟩ hH dX6_plan_156
    by_cases c29 : wt = 10
    · refine lv_tableIn (off := 140) (tgt := 157) hx hb dX6_plan_17 (by rw [c29]; decide) (by rw [c29]; decide) (by rw [c29]; rfl) (by decide) ?_
      refine lv_aload_n hx hb dX6_plan_157 rfl (lv_at hl 1 rfl) ?_
      refine gf_X6_s X hH q_576 dX6_plan_158 ?_
      refine lv_iload_n hx hb dX6_plan_161 rfl (lv_at hl 0 rfl) ?_
      refine lv_bipush (v := 10) hx hb dX6_plan_162 (by decide) ?_
      refine n_iadd (A := 160 * 0 + 13 + 11 * z) (B := 10) hx hb (160 * 0 + 13 + 11 * z + 10) (by omega) dX6_plan_164 ?_
      refine am_s X (by omega) hH (13 + 11 * z + 10) (by omega) (by omega) dX6_plan_165 ?_
      exact hret _ _ _ _ _ _ rfl ⟨by simp only [kPlan, ← z_4, ← z_3, ← z_5, z_if2, z_if3, c4, hz1, hz2, c8, c9, c10, c11, c12, c13, c17, c26, c27, c28, if_pos c29, okS, okT, okW, okN, hasP, zAct, if_true, if_false, not_true_eq_false, not_false_eq_true, and_self, or_true, true_or, or_false, false_or, and_true, true_and, and_false, false_and, or_self, Bool.false_eq_true, z10], rfl⟩ hH dX6_plan_166
    refine lv_tableOut (tgt := 167) hx hb dX6_plan_17 (by have q0 := lv_neT (a := 0) c8 (by decide); have q1 := lv_neT (a := 1) c9 (by decide); have q2 := lv_neT (a := 2) c10 (by decide); have q3 := lv_neT (a := 3) c11 (by decide); have q4 := lv_neT (a := 4) c12 (by decide); have q5 := lv_neT (a := 5) c13 (by decide); have q6 := lv_neT (a := 6) c17 (by decide); have q7 := lv_neT (a := 7) c26 (by decide); have q8 := lv_neT (a := 8) c27 (by decide); have q9 := lv_neT (a := 9) c28 (by decide); have q10 := lv_neT (a := 10) c29 (by decide); omega) (by decide) ?_
    refine lv_bipush (v := (-2)) hx hb dX6_plan_167 (by decide) ?_
    exact hret _ _ _ _ _ _ rfl ⟨by simp only [kPlan, ← z_4, ← z_3, ← z_5, z_if2, z_if3, c4, hz1, hz2, c8, c9, c10, c11, c12, c13, c17, c26, c27, c28, c29, okS, okT, okW, okN, hasP, zAct, if_true, if_false, not_true_eq_false, not_false_eq_true, and_self, or_true, true_or, or_false, false_or, and_true, true_and, and_false, false_and, or_self, Bool.false_eq_true, z10], rfl⟩ hH dX6_plan_169
  · refine lv_iconst (v := (-1)) hx hb dX6_plan_8 (by decide) ?_
    exact hret _ _ _ _ _ _ rfl ⟨by simp only [kPlan, ← z_4, ← z_3, ← z_5, z_if2, z_if3, c4, okS, okT, okW, okN, hasP, zAct, if_true, if_false, not_true_eq_false, not_false_eq_true, and_self, or_true, true_or, or_false, false_or, and_true, true_and, and_false, false_and, or_self, Bool.false_eq_true, z10], rfl⟩ hH dX6_plan_9
set_option maxRecDepth 100000 in
set_option maxHeartbeats 4000000 in
theorem c_X6_wouldAsk (l : Launch) (D : va_G) (k : Nat → ClassId) (a : Nat → Nat → Nat) (g : Mem) (v u : V) (hJ : zJk g) (hv : ∀ j, 160 ≤ j → v j = 0) (hf : zFl v) (hk : zKy v) (R : Nat) (eR : v 11 = nI R) (hR : 1 ≤ R) (hR2 : R ≤ 12) (h9 : ¬ v 9 < 1) (hg : zGu v) (z : Nat) (hz : z < 12) (n w : Int32) : zI l yX6_wouldAsk cX6_wouldAsk 6 .int 5 116 D k a [.ref (a 6 8), .int (nI z), .int (n), .int (w)] (zM g 0 v u) (fun r g' => r = fIf v z n w ∧ zPo g v u 0 none g') := by
  refine zI_of (own := RX6) (by decide +kernel) rfl (Nat.le_of_ble_eq_true rfl) ?_
  intro p e s m args below meth c X Q hret hH ls hl
  obtain ⟨hx, hb, hml, hown, hts⟩ := X.1
  have hl : lv_has ls 6 [(0, .ref (a 6 8)), (1, .int (nI z)), (2, .int (n)), (3, .int (w))] := hl
  have hH : zH D k a s (zM g 0 v u) s.heap [] := hH
  refine lv_aload_n hx hb dX6_wouldAsk_0 rfl (lv_at hl 0 rfl) ?_
  refine lv_iconst (v := 0) hx hb dX6_wouldAsk_1 (by decide) ?_
  refine lv_bipush (v := 6) hx hb dX6_wouldAsk_2 (by decide) ?_
  refine z_callVv X (by rw [zM_in _ _ _ (by omega) (by omega)]; exact hH) (c_X6_copies l D k a (zUp g (10 + 0) v) (0) (6) (by omega) (by omega) (by omega) (g (10 + 6)) u (fun j hj => (hJ (6) (by omega) j hj).trans (((congrFun (zUp_s _ _ _) j).trans (hv j hj)).symm))) k_X6_25 (rv_X6 X hH) [] rfl rfl hl.1 (Nat.le_of_ble_eq_true rfl) ⟨Nat.le_of_ble_eq_true rfl, Nat.le_of_ble_eq_true rfl⟩ ⟨Nat.le_refl _, Nat.le_refl _⟩ dX6_wouldAsk_4 (fun g1 H locs h2 hH => ?_)
  rw [h2, show (zUp g (10 + 0) v) (10 + 0) = v from (zUp_s _ _ _), zM_out _ _ _ _ (by omega) (by omega)] at hH
  refine lv_aload_n hx hb dX6_wouldAsk_7 rfl (lv_at hl 0 rfl) ?_
  refine lv_iconst (v := 0) hx hb dX6_wouldAsk_8 (by decide) ?_
  refine lv_iload_n hx hb dX6_wouldAsk_9 rfl (lv_at hl 1 rfl) ?_
  refine lv_aload_n hx hb dX6_wouldAsk_10 rfl (lv_at hl 0 rfl) ?_
  refine lv_iconst (v := 0) hx hb dX6_wouldAsk_11 (by decide) ?_
  refine lv_iload_n hx hb dX6_wouldAsk_12 rfl (lv_at hl 1 rfl) ?_
  refine lv_iload_n hx hb dX6_wouldAsk_13 rfl (lv_at hl 2 rfl) ?_
  refine z_callVi X hH (c_X6_cheapestOf l D k a (zUp g (10 + 6) v) 0 (by omega) v u hk (z) (by omega) n) k_X6_69 (rv_X6 X hH) [.int (nI z), .int 0, .ref (a 6 8)] rfl rfl hl.1 (Nat.le_of_ble_eq_true rfl) ⟨Nat.le_of_ble_eq_true rfl, Nat.le_of_ble_eq_true rfl⟩ ⟨Nat.le_refl _, Nat.le_refl _⟩ dX6_wouldAsk_14 (fun r3 g4 H locs h5 hH => ?_)
  rw [h5.2] at hH
  rw [h5.1]
  refine lv_iload_n hx hb dX6_wouldAsk_17 rfl (lv_at hl 2 rfl) ?_
  refine z_callVi X hH (c_X6_costs l D k a (zUp g (10 + 6) v) 0 (by omega) v u hk (z) (by omega) (fBest v z n) n) k_X6_34 (rv_X6 X hH) [] rfl rfl hl.1 (Nat.le_of_ble_eq_true rfl) ⟨Nat.le_of_ble_eq_true rfl, Nat.le_of_ble_eq_true rfl⟩ ⟨Nat.le_refl _, Nat.le_refl _⟩ dX6_wouldAsk_18 (fun r6 g7 H locs h8 hH => ?_)
  rw [h8.2] at hH
  rw [h8.1]
  refine lv_istore (lv' := [(4, .int (fCost v z (fBest v z n) n)), (0, .ref (a 6 8)), (1, .int (nI z)), (2, .int (n)), (3, .int (w))]) hx hb dX6_wouldAsk_21 hl (by decide) rfl (fun ls hl => ?_)
  rw [← zM_out g v v u (by omega) (by omega)] at hH
  refine lv_aload_n hx hb dX6_wouldAsk_23 rfl (lv_at hl 1 rfl) ?_
  refine lv_sipush (v := 960) hx hb dX6_wouldAsk_24 (by decide) ?_
  refine lv_iload_n hx hb dX6_wouldAsk_27 rfl (lv_at hl 2 rfl) ?_
  refine lv_iload_n hx hb dX6_wouldAsk_28 rfl (lv_at hl 3 rfl) ?_
  refine z_callVi X hH (c_X6_asks l D k a (zUp g (10 + 0) v) 6 (by omega) v u hf hk R eR hR hR2 h9 hg (z) (by omega) n) k_X6_96 (rv_X6 X hH) [] rfl rfl hl.1 (Nat.le_of_ble_eq_true rfl) ⟨Nat.le_of_ble_eq_true rfl, Nat.le_of_ble_eq_true rfl⟩ ⟨Nat.le_refl _, Nat.le_refl _⟩ dX6_wouldAsk_29 (fun r9 g10 H locs h11 hH => ?_)
  obtain ⟨hr9, u', hg9, hu9, h79, h89, h99⟩ := h11
  rw [hg9] at hH
  rw [hr9]
  refine lv_istore (lv' := [(5, .int ((fAsk v z n).1)), (4, .int (fCost v z (fBest v z n) n)), (0, .ref (a 6 8)), (1, .int (nI z)), (2, .int (n)), (3, .int (w))]) hx hb dX6_wouldAsk_32 hl (by decide) rfl (fun ls hl => ?_)
  refine lv_iload_n hx hb dX6_wouldAsk_34 rfl (lv_at hl 5 rfl) ?_
  refine lv_if_ne (tgt := 43) hx hb dX6_wouldAsk_35 (by decide) (fun c12 => ?_) (fun c12 => ?_)
  · refine lv_iload_n hx hb dX6_wouldAsk_43 rfl (lv_at hl 5 rfl) ?_
    refine lv_iconst (v := 1) hx hb dX6_wouldAsk_44 (by decide) ?_
    refine lv_icmp_ne (tgt := 55) hx hb dX6_wouldAsk_45 (by decide) (fun c13 => ?_) (fun c13 => ?_)
    · refine lv_iload_n hx hb dX6_wouldAsk_55 rfl (lv_at hl 5 rfl) ?_
      refine lv_iconst (v := 2) hx hb dX6_wouldAsk_56 (by decide) ?_
      refine lv_icmp_ne (tgt := 75) hx hb dX6_wouldAsk_57 (by decide) (fun c14 => ?_) (fun c14 => ?_)
      · refine lv_iload_n hx hb dX6_wouldAsk_75 rfl (lv_at hl 5 rfl) ?_
        refine lv_iconst (v := 3) hx hb dX6_wouldAsk_76 (by decide) ?_
        refine lv_icmp_ne (tgt := 87) hx hb dX6_wouldAsk_77 (by decide) (fun c15 => ?_) (fun c15 => ?_)
        · refine lv_iload hx hb dX6_wouldAsk_87 (lv_at hl 0 rfl) ?_
          refine lv_iload hx hb dX6_wouldAsk_89 (lv_at hl 1 rfl) ?_
          refine lv_isub hx hb dX6_wouldAsk_91 ?_
          exact hret _ _ _ _ _ _ rfl ⟨by rw [fIf_m hz]; simp only [c12, c13, c14, c15, if_true, if_false, z10, z20, z21, z30, z31, z32, and_self], by rw [zM_out _ _ _ _ (by omega) (by omega)]; exact zPo_nw (zJv_ask hz hv) (fun j hj => hu9 j (by omega))⟩ hH dX6_wouldAsk_92
        · refine lv_aload_n hx hb dX6_wouldAsk_80 rfl (lv_at hl 2 rfl) ?_
          refine gm_X6_gone X hH q_587 dX6_wouldAsk_81 ?_
          rw [h99]
          refine lv_goto (tgt := 92) hx hb dX6_wouldAsk_84 (by decide) ?_
          exact hret _ _ _ _ _ _ rfl ⟨by rw [fIf_m hz]; simp only [c12, c13, c14, c15, if_true, if_false, z10, z20, z21, z30, z31, z32, and_self], by rw [zM_out _ _ _ _ (by omega) (by omega)]; exact zPo_nw (zJv_ask hz hv) (fun j hj => hu9 j (by omega))⟩ hH dX6_wouldAsk_92
      · refine lv_aload_n hx hb dX6_wouldAsk_60 rfl (lv_at hl 2 rfl) ?_
        refine gm_X6_isBad X hH q_586 dX6_wouldAsk_61 ?_
        rw [h89]
        refine b_ifeq (P := fWhy v z n = 0 ∧ fDear v z (fCost v z (v (13 + 11 * z + 1)) n) = true) (tgt := 71) hx hb dX6_wouldAsk_64 (by decide) (fun c16 => ?_) (fun c16 => ?_)
        · refine lv_iconst (v := 0) hx hb dX6_wouldAsk_71 (by decide) ?_
          refine lv_goto (tgt := 92) hx hb dX6_wouldAsk_72 (by decide) ?_
          exact hret _ _ _ _ _ _ rfl ⟨by rw [fIf_m hz]; simp only [c12, c13, c14, c16, if_true, if_false, z10, z20, z21, z30, z31, z32, and_self], by rw [zM_out _ _ _ _ (by omega) (by omega)]; exact zPo_nw (zJv_ask hz hv) (fun j hj => hu9 j (by omega))⟩ hH dX6_wouldAsk_92
        · refine lv_iconst (v := 1) hx hb dX6_wouldAsk_67 (by decide) ?_
          refine lv_goto (tgt := 92) hx hb dX6_wouldAsk_68 (by decide) ?_
          exact hret _ _ _ _ _ _ rfl ⟨by rw [fIf_m hz]; simp only [c12, c13, c14, c16, if_true, if_false, z10, z20, z21, z30, z31, z32, and_self], by rw [zM_out _ _ _ _ (by omega) (by omega)]; exact zPo_nw (zJv_ask hz hv) (fun j hj => hu9 j (by omega))⟩ hH dX6_wouldAsk_92
    · refine lv_aload_n hx hb dX6_wouldAsk_48 rfl (lv_at hl 2 rfl) ?_
      refine gm_X6_way X hH q_585 dX6_wouldAsk_49 ?_
      rw [h79]
      refine lv_goto (tgt := 92) hx hb dX6_wouldAsk_52 (by decide) ?_
      exact hret _ _ _ _ _ _ rfl ⟨by rw [fIf_m hz]; simp only [c12, c13, if_true, if_false, z10, z20, z21, z30, z31, z32, and_self], by rw [zM_out _ _ _ _ (by omega) (by omega)]; exact zPo_nw (zJv_ask hz hv) (fun j hj => hu9 j (by omega))⟩ hH dX6_wouldAsk_92
  · refine lv_iload hx hb dX6_wouldAsk_38 (lv_at hl 0 rfl) ?_
    refine lv_goto (tgt := 92) hx hb dX6_wouldAsk_40 (by decide) ?_
    exact hret _ _ _ _ _ _ rfl ⟨by rw [fIf_m hz]; simp only [c12, if_true, if_false, z10, z20, z21, z30, z31, z32, and_self], by rw [zM_out _ _ _ _ (by omega) (by omega)]; exact zPo_nw (zJv_ask hz hv) (fun j hj => hu9 j (by omega))⟩ hH dX6_wouldAsk_92
set_option maxRecDepth 100000 in
set_option maxHeartbeats 4000000 in
theorem c_X6_ifAsked (l : Launch) (D : va_G) (k : Nat → ClassId) (a : Nat → Nat → Nat) (g : Mem) (v u : V) (hJ : zJk g) (hv : ∀ j, 160 ≤ j → v j = 0) (hf : zFl v) (hk : zKy v) (R : Nat) (eR : v 11 = nI R) (hR : 1 ≤ R) (hR2 : R ≤ 12) (h9 : ¬ v 9 < 1) (hg : zGu v) (sh nu wt : Int32) : zI l yX6_ifAsked cX6_ifAsked 4 .int 6 141 D k a [.ref (a 6 8), .int (sh), .int (nu), .int (wt)] (zM g 0 v u) (fun r g' => r = kIf v sh nu wt ∧ zPo g v u 0 none g') := by
  refine zI_of (own := RX6) (by decide +kernel) rfl (Nat.le_of_ble_eq_true rfl) ?_
  intro p e s m args below meth c X Q hret hH ls hl
  obtain ⟨hx, hb, hml, hown, hts⟩ := X.1
  have hl : lv_has ls 4 [(0, .ref (a 6 8)), (1, .int (sh)), (2, .int (nu)), (3, .int (wt))] := hl
  have hH : zH D k a s (zM g 0 v u) s.heap [] := hH
  refine lv_iload_n hx hb dX6_ifAsked_0 rfl (lv_at hl 1 rfl) ?_
  refine z_callSi X hH (c_X6_isShape l D k a (zM g 0 v u) sh) k_X6_89 [] rfl rfl hl.1 (Nat.le_of_ble_eq_true rfl) ⟨Nat.le_of_ble_eq_true rfl, Nat.le_of_ble_eq_true rfl⟩ ⟨Nat.le_refl _, Nat.le_refl _⟩ dX6_ifAsked_1 (fun r1 g2 H locs h3 hH => ?_)
  rw [h3.2] at hH
  rw [h3.1]
  refine b_ifne (P := okS sh) (tgt := 9) hx hb dX6_ifAsked_4 (by decide) (fun c4 => ?_) (fun c4 => ?_)
  · obtain ⟨z, hz, rfl⟩ := zIx (B := 12) (b := 12) rfl (by decide) c4
    have hz1 : iN (nI z) = z := iNn (by omega)
    refine lv_iload_n hx hb dX6_ifAsked_9 rfl (lv_at hl 1 rfl) ?_
    refine lv_iload_n hx hb dX6_ifAsked_10 rfl (lv_at hl 2 rfl) ?_
    refine z_callSi X hH (c_X6_isNumber l D k a (zM g 0 v u) (z) (by omega) nu) k_X6_93 [] rfl rfl hl.1 (Nat.le_of_ble_eq_true rfl) ⟨Nat.le_of_ble_eq_true rfl, Nat.le_of_ble_eq_true rfl⟩ ⟨Nat.le_refl _, Nat.le_refl _⟩ dX6_ifAsked_11 (fun r5 g6 H locs h7 hH => ?_)
    rw [h7.2] at hH
    rw [h7.1]
    refine b_ifeq (P := okN z nu) (tgt := 36) hx hb dX6_ifAsked_14 (by decide) (fun c8 => ?_) (fun c8 => ?_)
    · refine lv_bipush (v := (-2)) hx hb dX6_ifAsked_36 (by decide) ?_
      exact hret _ _ _ _ _ _ rfl ⟨by simp only [kIf, ← z_4, ← z_3, ← z_5, z_if2, z_if3, c4, hz1, c8, okS, okT, okW, okN, hasP, zAct, if_true, if_false, not_true_eq_false, not_false_eq_true, and_self, or_true, true_or, or_false, false_or, and_true, true_and, and_false, false_and, or_self, Bool.false_eq_true, z10], zPo_n hJ⟩ hH dX6_ifAsked_38
    · refine lv_iload_n hx hb dX6_ifAsked_17 rfl (lv_at hl 3 rfl) ?_
      refine lv_iconst (v := 0) hx hb dX6_ifAsked_18 (by decide) ?_
      refine lv_iconst (v := 4) hx hb dX6_ifAsked_19 (by decide) ?_
      refine z_callSi X hH (c_X6_in l D k a (zM g 0 v u) wt 0 4) k_X6_17 [] rfl rfl hl.1 (Nat.le_of_ble_eq_true rfl) ⟨Nat.le_of_ble_eq_true rfl, Nat.le_of_ble_eq_true rfl⟩ ⟨Nat.le_refl _, Nat.le_refl _⟩ dX6_ifAsked_20 (fun r9 g10 H locs h11 hH => ?_)
      rw [h11.2] at hH
      rw [h11.1]
      refine b_ifeq (P := ¬ wt < 0 ∧ ¬ 4 < wt) (tgt := 36) hx hb dX6_ifAsked_23 (by decide) (fun c12 => ?_) (fun c12 => ?_)
      · refine lv_bipush (v := (-2)) hx hb dX6_ifAsked_36 (by decide) ?_
        exact hret _ _ _ _ _ _ rfl ⟨by simp only [kIf, ← z_4, ← z_3, ← z_5, z_if2, z_if3, c4, hz1, c8, c12, okS, okT, okW, okN, hasP, zAct, if_true, if_false, not_true_eq_false, not_false_eq_true, and_self, or_true, true_or, or_false, false_or, and_true, true_and, and_false, false_and, or_self, Bool.false_eq_true, z10], zPo_n hJ⟩ hH dX6_ifAsked_38
      · refine lv_aload_n hx hb dX6_ifAsked_26 rfl (lv_at hl 0 rfl) ?_
        refine lv_iload_n hx hb dX6_ifAsked_27 rfl (lv_at hl 1 rfl) ?_
        refine lv_iload_n hx hb dX6_ifAsked_28 rfl (lv_at hl 2 rfl) ?_
        refine lv_iload_n hx hb dX6_ifAsked_29 rfl (lv_at hl 3 rfl) ?_
        refine z_callVi X hH (c_X6_wouldAsk l D k a g v u hJ hv hf hk R eR hR hR2 h9 hg (z) (by omega) nu wt) k_X6_156 (rv_X6 X hH) [] rfl rfl hl.1 (Nat.le_of_ble_eq_true rfl) ⟨Nat.le_of_ble_eq_true rfl, Nat.le_of_ble_eq_true rfl⟩ ⟨Nat.le_refl _, Nat.le_refl _⟩ dX6_ifAsked_30 (fun r13 g14 H locs h15 hH => ?_)
        rw [h15.1]
        refine lv_goto (tgt := 38) hx hb dX6_ifAsked_33 (by decide) ?_
        exact hret _ _ _ _ _ _ rfl ⟨by simp only [kIf, ← z_4, ← z_3, ← z_5, z_if2, z_if3, c4, hz1, c8, c12, okS, okT, okW, okN, hasP, zAct, if_true, if_false, not_true_eq_false, not_false_eq_true, and_self, or_true, true_or, or_false, false_or, and_true, true_and, and_false, false_and, or_self, Bool.false_eq_true, z10], h15.2⟩ hH dX6_ifAsked_38
  · refine lv_iconst (v := (-1)) hx hb dX6_ifAsked_7 (by decide) ?_
    exact hret _ _ _ _ _ _ rfl ⟨by simp only [kIf, ← z_4, ← z_3, ← z_5, z_if2, z_if3, c4, okS, okT, okW, okN, hasP, zAct, if_true, if_false, not_true_eq_false, not_false_eq_true, and_self, or_true, true_or, or_false, false_or, and_true, true_and, and_false, false_and, or_self, Bool.false_eq_true, z10], zPo_n hJ⟩ hH dX6_ifAsked_8
set_option maxRecDepth 100000 in
set_option maxHeartbeats 4000000 in
theorem c_X6_count (l : Launch) (D : va_G) (k : Nat → ClassId) (a : Nat → Nat → Nat) (g : Mem) (v u : V) (hf : zFl v) (w : Int32) : zI l yX6_count cX6_count 2 .int 4 87 D k a [.ref (a 6 8), .int (w)] (zM g 0 v u) (fun r g' => r = (kCount v (u 0) (u 2) w) ∧ g' = (zM g 0 v u)) := by
  refine zI_of (own := RX6) (by decide +kernel) rfl (Nat.le_of_ble_eq_true rfl) ?_
  intro p e s m args below meth c X Q hret hH ls hl
  obtain ⟨hx, hb, hml, hown, hts⟩ := X.1
  have hl : lv_has ls 2 [(0, .ref (a 6 8)), (1, .int (w))] := hl
  have hH : zH D k a s (zM g 0 v u) s.heap [] := hH
  refine lv_iload_n hx hb dX6_count_0 rfl (lv_at hl 1 rfl) ?_
  refine lv_iconst (v := 3) hx hb dX6_count_1 (by decide) ?_
  refine lv_bipush (v := 9) hx hb dX6_count_2 (by decide) ?_
  refine z_callSi X hH (c_X6_in l D k a (zM g 0 v u) w 3 9) k_X6_17 [] rfl rfl hl.1 (Nat.le_of_ble_eq_true rfl) ⟨Nat.le_of_ble_eq_true rfl, Nat.le_of_ble_eq_true rfl⟩ ⟨Nat.le_refl _, Nat.le_refl _⟩ dX6_count_4 (fun r1 g2 H locs h3 hH => ?_)
  rw [h3.2] at hH
  rw [h3.1]
  refine b_ifeq (P := ¬ w < 3 ∧ ¬ 9 < w) (tgt := 23) hx hb dX6_count_7 (by decide) (fun c4 => ?_) (fun c4 => ?_)
  · refine lv_iload_n hx hb dX6_count_23 rfl (lv_at hl 1 rfl) ?_
    refine lv_bipush (v := 10) hx hb dX6_count_24 (by decide) ?_
    refine lv_bipush (v := 14) hx hb dX6_count_26 (by decide) ?_
    refine z_callSi X hH (c_X6_in l D k a (zM g 0 v u) w 10 14) k_X6_17 [] rfl rfl hl.1 (Nat.le_of_ble_eq_true rfl) ⟨Nat.le_of_ble_eq_true rfl, Nat.le_of_ble_eq_true rfl⟩ ⟨Nat.le_refl _, Nat.le_refl _⟩ dX6_count_28 (fun r5 g6 H locs h7 hH => ?_)
    rw [h7.2] at hH
    rw [h7.1]
    refine b_ifeq (P := ¬ w < 10 ∧ ¬ 14 < w) (tgt := 47) hx hb dX6_count_31 (by decide) (fun c8 => ?_) (fun c8 => ?_)
    · obtain ⟨a3, a4, a5, a6, a7, a8, a9⟩ := z_n7 c4
      obtain ⟨b0, b1, b2, b3, b4⟩ := z_n5 c8
      refine lv_iload_n hx hb dX6_count_47 rfl (lv_at hl 1 rfl) ?_
      by_cases c9 : w = 0
      · refine lv_lookup (off := 52) (tgt := 100) hx hb dX6_count_48 (by decide) (by rw [c9]; decide) (by decide) ?_
        refine lv_aload_n hx hb dX6_count_100 rfl (lv_at hl 0 rfl) ?_
        refine lv_iconst (v := 0) hx hb dX6_count_101 (by decide) ?_
        refine z_callVi X hH (c_X6_kept l D k a g 0 (by omega) v u hf) k_X6_58 (rv_X6 X hH) [] rfl rfl hl.1 (Nat.le_of_ble_eq_true rfl) ⟨Nat.le_of_ble_eq_true rfl, Nat.le_of_ble_eq_true rfl⟩ ⟨Nat.le_refl _, Nat.le_refl _⟩ dX6_count_102 (fun r10 g11 H locs h12 hH => ?_)
        rw [h12.2] at hH
        rw [h12.1]
        exact hret _ _ _ _ _ _ rfl ⟨by simp only [kCount, a3, a4, a5, a6, a7, a8, a9, b0, b1, b2, b3, b4, if_pos c9, if_true, if_false], rfl⟩ hH dX6_count_105
      by_cases c13 : w = 1
      · refine lv_lookup (off := 58) (tgt := 106) hx hb dX6_count_48 (by decide) (by rw [c13]; decide) (by decide) ?_
        refine lv_aload_n hx hb dX6_count_106 rfl (lv_at hl 0 rfl) ?_
        refine z_callVi X hH (c_X6_pinned l D k a g v u hf) k_X6_143 (rv_X6 X hH) [] rfl rfl hl.1 (Nat.le_of_ble_eq_true rfl) ⟨Nat.le_of_ble_eq_true rfl, Nat.le_of_ble_eq_true rfl⟩ ⟨Nat.le_refl _, Nat.le_refl _⟩ dX6_count_107 (fun r14 g15 H locs h16 hH => ?_)
        rw [h16.2] at hH
        rw [h16.1]
        exact hret _ _ _ _ _ _ rfl ⟨by simp only [kCount, a3, a4, a5, a6, a7, a8, a9, b0, b1, b2, b3, b4, c9, if_pos c13, if_true, if_false], rfl⟩ hH dX6_count_110
      by_cases c17 : w = 2
      · refine lv_lookup (off := 63) (tgt := 111) hx hb dX6_count_48 (by decide) (by rw [c17]; decide) (by decide) ?_
        refine lv_aload_n hx hb dX6_count_111 rfl (lv_at hl 0 rfl) ?_
        refine z_callVi X hH (c_X6_stale l D k a g v u hf) k_X6_162 (rv_X6 X hH) [] rfl rfl hl.1 (Nat.le_of_ble_eq_true rfl) ⟨Nat.le_of_ble_eq_true rfl, Nat.le_of_ble_eq_true rfl⟩ ⟨Nat.le_refl _, Nat.le_refl _⟩ dX6_count_112 (fun r18 g19 H locs h20 hH => ?_)
        rw [h20.2] at hH
        rw [h20.1]
        exact hret _ _ _ _ _ _ rfl ⟨by simp only [kCount, a3, a4, a5, a6, a7, a8, a9, b0, b1, b2, b3, b4, c9, c13, if_pos c17, if_true, if_false], rfl⟩ hH dX6_count_115
      by_cases c21 : w = 15
      · refine lv_lookup (off := 68) (tgt := 116) hx hb dX6_count_48 (by decide) (by rw [c21]; decide) (by decide) ?_
        refine lv_aload_n hx hb dX6_count_116 rfl (lv_at hl 0 rfl) ?_
        refine gm_X6_states X hH q_577 dX6_count_117 ?_
        exact hret _ _ _ _ _ _ rfl ⟨by simp only [kCount, a3, a4, a5, a6, a7, a8, a9, b0, b1, b2, b3, b4, c9, c13, c17, if_pos c21, if_true, if_false], rfl⟩ hH dX6_count_120
      by_cases c22 : w = 16
      · refine lv_lookup (off := 73) (tgt := 121) hx hb dX6_count_48 (by decide) (by rw [c22]; decide) (by decide) ?_
        refine lv_aload_n hx hb dX6_count_121 rfl (lv_at hl 0 rfl) ?_
        refine gm_X6_typed X hH q_580 dX6_count_122 ?_
        exact hret _ _ _ _ _ _ rfl ⟨by simp only [kCount, a3, a4, a5, a6, a7, a8, a9, b0, b1, b2, b3, b4, c9, c13, c17, c21, if_pos c22, if_true, if_false], rfl⟩ hH dX6_count_125
      refine lv_lookup (off := 78) (tgt := 126) hx hb dX6_count_48 (by decide) (by show Op.lookupswitch.offset [(0, 52), (1, 58), (2, 63), (15, 68), (16, 73)] _ _ = _; rw [lv_osw c9 (by decide), lv_osw c13 (by decide), lv_osw c17 (by decide), lv_osw c21 (by decide), lv_osw c22 (by decide)]; rfl) (by decide) ?_
      refine lv_bipush (v := (-2)) hx hb dX6_count_126 (by decide) ?_
      exact hret _ _ _ _ _ _ rfl ⟨by simp only [kCount, a3, a4, a5, a6, a7, a8, a9, b0, b1, b2, b3, b4, c9, c13, c17, c21, c22, if_true, if_false], rfl⟩ hH dX6_count_128
    · rcases z_w5 c8 with e9 | e9 | e9 | e9 | e9
      · subst e9
        refine lv_aload_n hx hb dX6_count_34 rfl (lv_at hl 0 rfl) ?_
        refine gf_X6_s X hH q_576 dX6_count_35 ?_
        refine lv_bipush (v := 8) hx hb dX6_count_38 (by decide) ?_
        refine lv_iload_n hx hb dX6_count_40 rfl (lv_at hl 1 rfl) ?_
        refine lv_iadd hx hb dX6_count_41 ?_
        rw [show (8 : Int32) + 10 = 18 from by decide]
        refine lv_bipush (v := 10) hx hb dX6_count_42 (by decide) ?_
        refine lv_isub hx hb dX6_count_44 ?_
        rw [show (18 : Int32) - 10 = 8 from by decide]
        refine am_s (z := 8) X (by omega) hH (8) (by omega) (by omega) dX6_count_45 ?_
        exact hret _ _ _ _ _ _ rfl ⟨rfl, rfl⟩ hH dX6_count_46
      · subst e9
        refine lv_aload_n hx hb dX6_count_34 rfl (lv_at hl 0 rfl) ?_
        refine gf_X6_s X hH q_576 dX6_count_35 ?_
        refine lv_bipush (v := 8) hx hb dX6_count_38 (by decide) ?_
        refine lv_iload_n hx hb dX6_count_40 rfl (lv_at hl 1 rfl) ?_
        refine lv_iadd hx hb dX6_count_41 ?_
        rw [show (8 : Int32) + 11 = 19 from by decide]
        refine lv_bipush (v := 10) hx hb dX6_count_42 (by decide) ?_
        refine lv_isub hx hb dX6_count_44 ?_
        rw [show (19 : Int32) - 10 = 9 from by decide]
        refine am_s (z := 9) X (by omega) hH (9) (by omega) (by omega) dX6_count_45 ?_
        exact hret _ _ _ _ _ _ rfl ⟨rfl, rfl⟩ hH dX6_count_46
      · subst e9
        refine lv_aload_n hx hb dX6_count_34 rfl (lv_at hl 0 rfl) ?_
        refine gf_X6_s X hH q_576 dX6_count_35 ?_
        refine lv_bipush (v := 8) hx hb dX6_count_38 (by decide) ?_
        refine lv_iload_n hx hb dX6_count_40 rfl (lv_at hl 1 rfl) ?_
        refine lv_iadd hx hb dX6_count_41 ?_
        rw [show (8 : Int32) + 12 = 20 from by decide]
        refine lv_bipush (v := 10) hx hb dX6_count_42 (by decide) ?_
        refine lv_isub hx hb dX6_count_44 ?_
        rw [show (20 : Int32) - 10 = 10 from by decide]
        refine am_s (z := 10) X (by omega) hH (10) (by omega) (by omega) dX6_count_45 ?_
        exact hret _ _ _ _ _ _ rfl ⟨rfl, rfl⟩ hH dX6_count_46
      · subst e9
        refine lv_aload_n hx hb dX6_count_34 rfl (lv_at hl 0 rfl) ?_
        refine gf_X6_s X hH q_576 dX6_count_35 ?_
        refine lv_bipush (v := 8) hx hb dX6_count_38 (by decide) ?_
        refine lv_iload_n hx hb dX6_count_40 rfl (lv_at hl 1 rfl) ?_
        refine lv_iadd hx hb dX6_count_41 ?_
        rw [show (8 : Int32) + 13 = 21 from by decide]
        refine lv_bipush (v := 10) hx hb dX6_count_42 (by decide) ?_
        refine lv_isub hx hb dX6_count_44 ?_
        rw [show (21 : Int32) - 10 = 11 from by decide]
        refine am_s (z := 11) X (by omega) hH (11) (by omega) (by omega) dX6_count_45 ?_
        exact hret _ _ _ _ _ _ rfl ⟨rfl, rfl⟩ hH dX6_count_46
      · subst e9
        refine lv_aload_n hx hb dX6_count_34 rfl (lv_at hl 0 rfl) ?_
        refine gf_X6_s X hH q_576 dX6_count_35 ?_
        refine lv_bipush (v := 8) hx hb dX6_count_38 (by decide) ?_
        refine lv_iload_n hx hb dX6_count_40 rfl (lv_at hl 1 rfl) ?_
        refine lv_iadd hx hb dX6_count_41 ?_
        rw [show (8 : Int32) + 14 = 22 from by decide]
        refine lv_bipush (v := 10) hx hb dX6_count_42 (by decide) ?_
        refine lv_isub hx hb dX6_count_44 ?_
        rw [show (22 : Int32) - 10 = 12 from by decide]
        refine am_s (z := 12) X (by omega) hH (12) (by omega) (by omega) dX6_count_45 ?_
        exact hret _ _ _ _ _ _ rfl ⟨rfl, rfl⟩ hH dX6_count_46
  · rcases z_w7 c4 with e9 | e9 | e9 | e9 | e9 | e9 | e9
    · subst e9
      refine lv_aload_n hx hb dX6_count_10 rfl (lv_at hl 0 rfl) ?_
      refine gf_X6_s X hH q_576 dX6_count_11 ?_
      refine lv_sipush (v := 145) hx hb dX6_count_14 (by decide) ?_
      refine lv_iload_n hx hb dX6_count_17 rfl (lv_at hl 1 rfl) ?_
      refine lv_iadd hx hb dX6_count_18 ?_
      rw [show (145 : Int32) + 3 = 148 from by decide]
      refine lv_iconst (v := 3) hx hb dX6_count_19 (by decide) ?_
      refine lv_isub hx hb dX6_count_20 ?_
      rw [show (148 : Int32) - 3 = 145 from by decide]
      refine am_s (z := 145) X (by omega) hH (145) (by omega) (by omega) dX6_count_21 ?_
      exact hret _ _ _ _ _ _ rfl ⟨rfl, rfl⟩ hH dX6_count_22
    · subst e9
      refine lv_aload_n hx hb dX6_count_10 rfl (lv_at hl 0 rfl) ?_
      refine gf_X6_s X hH q_576 dX6_count_11 ?_
      refine lv_sipush (v := 145) hx hb dX6_count_14 (by decide) ?_
      refine lv_iload_n hx hb dX6_count_17 rfl (lv_at hl 1 rfl) ?_
      refine lv_iadd hx hb dX6_count_18 ?_
      rw [show (145 : Int32) + 4 = 149 from by decide]
      refine lv_iconst (v := 3) hx hb dX6_count_19 (by decide) ?_
      refine lv_isub hx hb dX6_count_20 ?_
      rw [show (149 : Int32) - 3 = 146 from by decide]
      refine am_s (z := 146) X (by omega) hH (146) (by omega) (by omega) dX6_count_21 ?_
      exact hret _ _ _ _ _ _ rfl ⟨rfl, rfl⟩ hH dX6_count_22
    · subst e9
      refine lv_aload_n hx hb dX6_count_10 rfl (lv_at hl 0 rfl) ?_
      refine gf_X6_s X hH q_576 dX6_count_11 ?_
      refine lv_sipush (v := 145) hx hb dX6_count_14 (by decide) ?_
      refine lv_iload_n hx hb dX6_count_17 rfl (lv_at hl 1 rfl) ?_
      refine lv_iadd hx hb dX6_count_18 ?_
      rw [show (145 : Int32) + 5 = 150 from by decide]
      refine lv_iconst (v := 3) hx hb dX6_count_19 (by decide) ?_
      refine lv_isub hx hb dX6_count_20 ?_
      rw [show (150 : Int32) - 3 = 147 from by decide]
      refine am_s (z := 147) X (by omega) hH (147) (by omega) (by omega) dX6_count_21 ?_
      exact hret _ _ _ _ _ _ rfl ⟨rfl, rfl⟩ hH dX6_count_22
    · subst e9
      refine lv_aload_n hx hb dX6_count_10 rfl (lv_at hl 0 rfl) ?_
      refine gf_X6_s X hH q_576 dX6_count_11 ?_
      refine lv_sipush (v := 145) hx hb dX6_count_14 (by decide) ?_
      refine lv_iload_n hx hb dX6_count_17 rfl (lv_at hl 1 rfl) ?_
      refine lv_iadd hx hb dX6_count_18 ?_
      rw [show (145 : Int32) + 6 = 151 from by decide]
      refine lv_iconst (v := 3) hx hb dX6_count_19 (by decide) ?_
      refine lv_isub hx hb dX6_count_20 ?_
      rw [show (151 : Int32) - 3 = 148 from by decide]
      refine am_s (z := 148) X (by omega) hH (148) (by omega) (by omega) dX6_count_21 ?_
      exact hret _ _ _ _ _ _ rfl ⟨rfl, rfl⟩ hH dX6_count_22
    · subst e9
      refine lv_aload_n hx hb dX6_count_10 rfl (lv_at hl 0 rfl) ?_
      refine gf_X6_s X hH q_576 dX6_count_11 ?_
      refine lv_sipush (v := 145) hx hb dX6_count_14 (by decide) ?_
      refine lv_iload_n hx hb dX6_count_17 rfl (lv_at hl 1 rfl) ?_
      refine lv_iadd hx hb dX6_count_18 ?_
      rw [show (145 : Int32) + 7 = 152 from by decide]
      refine lv_iconst (v := 3) hx hb dX6_count_19 (by decide) ?_
      refine lv_isub hx hb dX6_count_20 ?_
      rw [show (152 : Int32) - 3 = 149 from by decide]
      refine am_s (z := 149) X (by omega) hH (149) (by omega) (by omega) dX6_count_21 ?_
      exact hret _ _ _ _ _ _ rfl ⟨rfl, rfl⟩ hH dX6_count_22
    · subst e9
      refine lv_aload_n hx hb dX6_count_10 rfl (lv_at hl 0 rfl) ?_
      refine gf_X6_s X hH q_576 dX6_count_11 ?_
      refine lv_sipush (v := 145) hx hb dX6_count_14 (by decide) ?_
      refine lv_iload_n hx hb dX6_count_17 rfl (lv_at hl 1 rfl) ?_
      refine lv_iadd hx hb dX6_count_18 ?_
      rw [show (145 : Int32) + 8 = 153 from by decide]
      refine lv_iconst (v := 3) hx hb dX6_count_19 (by decide) ?_
      refine lv_isub hx hb dX6_count_20 ?_
      rw [show (153 : Int32) - 3 = 150 from by decide]
      refine am_s (z := 150) X (by omega) hH (150) (by omega) (by omega) dX6_count_21 ?_
      exact hret _ _ _ _ _ _ rfl ⟨rfl, rfl⟩ hH dX6_count_22
    · subst e9
      refine lv_aload_n hx hb dX6_count_10 rfl (lv_at hl 0 rfl) ?_
      refine gf_X6_s X hH q_576 dX6_count_11 ?_
      refine lv_sipush (v := 145) hx hb dX6_count_14 (by decide) ?_
      refine lv_iload_n hx hb dX6_count_17 rfl (lv_at hl 1 rfl) ?_
      refine lv_iadd hx hb dX6_count_18 ?_
      rw [show (145 : Int32) + 9 = 154 from by decide]
      refine lv_iconst (v := 3) hx hb dX6_count_19 (by decide) ?_
      refine lv_isub hx hb dX6_count_20 ?_
      rw [show (154 : Int32) - 3 = 151 from by decide]
      refine am_s (z := 151) X (by omega) hH (151) (by omega) (by omega) dX6_count_21 ?_
      exact hret _ _ _ _ _ _ rfl ⟨rfl, rfl⟩ hH dX6_count_22
