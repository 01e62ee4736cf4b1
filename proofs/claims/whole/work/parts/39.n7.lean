set_option maxRecDepth 100000 in
set_option maxHeartbeats 4000000 in
theorem c_X6_table (l : Launch) (D : va_G) (k : Nat → ClassId) (a : Nat → Nat → Nat) (g : Mem) (v u : V) (n : Nat) (hn : n ≤ 4) (eu : u 0 = nI n) (hJ : zJk g) (hv : ∀ j, 160 ≤ j → v j = 0) (hf : zFl v) (ta bo ma : Int32) (hbo : bo = 0 ∨ bo = 1) : zI l yX6_table cX6_table 6 .int 2 44 D k a [.ref (a 6 8), .int (ta), .int (bo), .int (ma)] (zM g 0 v u) (fun r g' => r = (kTable v ta bo ma).1 ∧ zPo g v u n (kTable v ta bo ma).2 g') := by
  refine zI_of (own := RX6) (by decide +kernel) rfl (Nat.le_of_ble_eq_true rfl) ?_
  intro p e s m args below meth c X Q hret hH ls hl
  obtain ⟨hx, hb, hml, hown, hts⟩ := X.1
  have hl : lv_has ls 6 [(0, .ref (a 6 8)), (1, .int (ta)), (2, .int (bo)), (3, .int (ma))] := hl
  have hH : zH D k a s (zM g 0 v u) s.heap [] := hH
  refine lv_iload_n hx hb dX6_table_0 rfl (lv_at hl 1 rfl) ?_
  refine lv_iconst (v := 0) hx hb dX6_table_1 (by decide) ?_
  refine lv_iconst (v := 3) hx hb dX6_table_2 (by decide) ?_
  refine z_callSi X hH (c_X6_in l D k a (zM g 0 v u) ta 0 3) k_X6_17 [] rfl rfl hl.1 (Nat.le_of_ble_eq_true rfl) ⟨Nat.le_of_ble_eq_true rfl, Nat.le_of_ble_eq_true rfl⟩ ⟨Nat.le_refl _, Nat.le_refl _⟩ dX6_table_3 (fun r1 g2 H locs h3 hH => ?_)
  rw [h3.2] at hH
  rw [h3.1]
  refine b_ifne (P := ¬ ta < 0 ∧ ¬ 3 < ta) (tgt := 11) hx hb dX6_table_6 (by decide) (fun c4 => ?_) (fun c4 => ?_)
  · obtain ⟨q, hq, rfl⟩ := zIx (B := 4) (b := 4) rfl (by decide) ⟨c4.1, (z_4 _).mp c4.2⟩
    have hq1 : iN (nI q) = q := iNn (by omega)
    refine lv_iload_n hx hb dX6_table_11 rfl (lv_at hl 3 rfl) ?_
    refine lv_iload_n hx hb dX6_table_12 rfl (lv_at hl 2 rfl) ?_
    refine lv_if_eq (tgt := 20) hx hb dX6_table_13 (by decide) (fun c5 => ?_) (fun c5 => ?_)
    · refine lv_iconst (v := 0) hx hb dX6_table_20 (by decide) ?_
      refine lv_sipush (v := 9999) hx hb dX6_table_21 (by decide) ?_
      refine z_callSi X hH (c_X6_in l D k a (zM g 0 v u) ma 0 9999) k_X6_17 [] rfl rfl hl.1 (Nat.le_of_ble_eq_true rfl) ⟨Nat.le_of_ble_eq_true rfl, Nat.le_of_ble_eq_true rfl⟩ ⟨Nat.le_refl _, Nat.le_refl _⟩ dX6_table_24 (fun r6 g7 H locs h8 hH => ?_)
      rw [h8.2] at hH
      rw [h8.1]
      refine b_ifne (P := ¬ ma < 0 ∧ ¬ 9999 < ma) (tgt := 33) hx hb dX6_table_27 (by decide) (fun c9 => ?_) (fun c9 => ?_)
      · refine lv_iload_n hx hb dX6_table_33 rfl (lv_at hl 2 rfl) ?_
        refine lv_if_eq (tgt := 43) hx hb dX6_table_34 (by decide) (fun _ => ?_) (fun q => absurd c5 q)
        refine lv_iload_n hx hb dX6_table_43 rfl (lv_at hl 1 rfl) ?_
        refine lv_istore (lv' := [(4, .int (nI q)), (0, .ref (a 6 8)), (1, .int (nI q)), (2, .int (bo)), (3, .int (ma))]) hx hb dX6_table_44 hl (by decide) rfl (fun ls hl => ?_)
        refine lv_aload_n hx hb dX6_table_46 rfl (lv_at hl 1 rfl) ?_
        refine gf_X6_s X hH q_576 dX6_table_47 ?_
        refine lv_iload hx hb dX6_table_50 (lv_at hl 0 rfl) ?_
        refine am_s X (by omega) hH (q) (by omega) (by omega) dX6_table_52 ?_
        refine lv_istore (lv' := [(5, .int (v q)), (4, .int (nI q)), (0, .ref (a 6 8)), (1, .int (nI q)), (2, .int (bo)), (3, .int (ma))]) hx hb dX6_table_53 hl (by decide) rfl (fun ls hl => ?_)
        refine lv_iload hx hb dX6_table_55 (lv_at hl 0 rfl) ?_
        refine lv_iload_n hx hb dX6_table_57 rfl (lv_at hl 5 rfl) ?_
        refine lv_icmp_ne (tgt := 64) hx hb dX6_table_58 (by decide) (fun c10 => ?_) (fun c10 => ?_)
        · refine lv_aload_n hx hb dX6_table_64 rfl (lv_at hl 2 rfl) ?_
          refine z_callVv X hH (c_X6_records l D k a g v u n hn eu hJ hv) k_X6_86 (rv_X6 X hH) [] rfl rfl hl.1 (Nat.le_of_ble_eq_true rfl) ⟨Nat.le_of_ble_eq_true rfl, Nat.le_of_ble_eq_true rfl⟩ ⟨Nat.le_refl _, Nat.le_refl _⟩ dX6_table_65 (fun g11 H locs h12 hH => ?_)
          rw [h12] at hH
          refine lv_aload_n hx hb dX6_table_68 rfl (lv_at hl 2 rfl) ?_
          refine gf_X6_s X hH q_576 dX6_table_69 ?_
          refine lv_iload hx hb dX6_table_72 (lv_at hl 1 rfl) ?_
          refine lv_iload_n hx hb dX6_table_74 rfl (lv_at hl 5 rfl) ?_
          refine sm_s X (by omega) hH (q) (by omega) (by omega) dX6_table_75 (fun H locs hH => ?_)
          refine lv_iload hx hb dX6_table_76 (lv_at hl 0 rfl) ?_
          exact hret _ _ _ _ _ _ rfl ⟨by simp only [kTable, fResize, ← z_4, ← z_3, ← z_5, z_if2, z_if3, c4, hq1, c5, c9, c10, okS, okT, okW, okN, hasP, zAct, if_true, if_false, not_true_eq_false, not_false_eq_true, and_self, or_true, true_or, or_false, false_or, and_true, true_and, and_false, false_and, or_self, Bool.false_eq_true, z10], by simp only [kTable, fResize, ← z_4, ← z_3, ← z_5, z_if2, z_if3, c4, hq1, c5, c9, c10, okS, okT, okW, okN, hasP, zAct, if_true, if_false, not_true_eq_false, not_false_eq_true, and_self, or_true, true_or, or_false, false_or, and_true, true_and, and_false, false_and, or_self, Bool.false_eq_true, z10]; exact zPo_s hn hJ (fun j hj => rfl)⟩ hH dX6_table_78
        · refine lv_bipush (v := (-4)) hx hb dX6_table_61 (by decide) ?_
          exact hret _ _ _ _ _ _ rfl ⟨by simp only [kTable, fResize, ← z_4, ← z_3, ← z_5, z_if2, z_if3, c4, hq1, c5, c9, c10, okS, okT, okW, okN, hasP, zAct, if_true, if_false, not_true_eq_false, not_false_eq_true, and_self, or_true, true_or, or_false, false_or, and_true, true_and, and_false, false_and, or_self, Bool.false_eq_true, z10], by simp only [kTable, fResize, ← z_4, ← z_3, ← z_5, z_if2, z_if3, c4, hq1, c5, c9, c10, okS, okT, okW, okN, hasP, zAct, if_true, if_false, not_true_eq_false, not_false_eq_true, and_self, or_true, true_or, or_false, false_or, and_true, true_and, and_false, false_and, or_self, Bool.false_eq_true, z10]; exact zPo_n hJ⟩ hH dX6_table_63
      · refine lv_bipush (v := (-2)) hx hb dX6_table_30 (by decide) ?_
        exact hret _ _ _ _ _ _ rfl ⟨by simp only [kTable, fResize, ← z_4, ← z_3, ← z_5, z_if2, z_if3, c4, hq1, c5, c9, okS, okT, okW, okN, hasP, zAct, if_true, if_false, not_true_eq_false, not_false_eq_true, and_self, or_true, true_or, or_false, false_or, and_true, true_and, and_false, false_and, or_self, Bool.false_eq_true, z10], by simp only [kTable, fResize, ← z_4, ← z_3, ← z_5, z_if2, z_if3, c4, hq1, c5, c9, okS, okT, okW, okN, hasP, zAct, if_true, if_false, not_true_eq_false, not_false_eq_true, and_self, or_true, true_or, or_false, false_or, and_true, true_and, and_false, false_and, or_self, Bool.false_eq_true, z10]; exact zPo_n hJ⟩ hH dX6_table_32
    · refine lv_iconst (v := 1) hx hb dX6_table_16 (by decide) ?_
      refine lv_goto (tgt := 21) hx hb dX6_table_17 (by decide) ?_
      refine lv_sipush (v := 9999) hx hb dX6_table_21 (by decide) ?_
      refine z_callSi X hH (c_X6_in l D k a (zM g 0 v u) ma 1 9999) k_X6_17 [] rfl rfl hl.1 (Nat.le_of_ble_eq_true rfl) ⟨Nat.le_of_ble_eq_true rfl, Nat.le_of_ble_eq_true rfl⟩ ⟨Nat.le_refl _, Nat.le_refl _⟩ dX6_table_24 (fun r13 g14 H locs h15 hH => ?_)
      rw [h15.2] at hH
      rw [h15.1]
      refine b_ifne (P := ¬ ma < 1 ∧ ¬ 9999 < ma) (tgt := 33) hx hb dX6_table_27 (by decide) (fun c16 => ?_) (fun c16 => ?_)
      · refine lv_iload_n hx hb dX6_table_33 rfl (lv_at hl 2 rfl) ?_
        refine lv_if_eq (tgt := 43) hx hb dX6_table_34 (by decide) (fun q => absurd q c5) (fun _ => ?_)
        refine lv_iconst (v := 4) hx hb dX6_table_37 (by decide) ?_
        refine lv_iload_n hx hb dX6_table_38 rfl (lv_at hl 1 rfl) ?_
        refine n_iadd (A := 4) (B := q) hx hb (4 + q) (by omega) dX6_table_39 ?_
        refine lv_goto (tgt := 44) hx hb dX6_table_40 (by decide) ?_
        refine lv_istore (lv' := [(4, .int (nI (4 + q))), (0, .ref (a 6 8)), (1, .int (nI q)), (2, .int (bo)), (3, .int (ma))]) hx hb dX6_table_44 hl (by decide) rfl (fun ls hl => ?_)
        refine lv_aload_n hx hb dX6_table_46 rfl (lv_at hl 1 rfl) ?_
        refine gf_X6_s X hH q_576 dX6_table_47 ?_
        refine lv_iload hx hb dX6_table_50 (lv_at hl 0 rfl) ?_
        refine am_s X (by omega) hH (4 + q) (by omega) (by omega) dX6_table_52 ?_
        refine lv_istore (lv' := [(5, .int (v (4 + q))), (4, .int (nI (4 + q))), (0, .ref (a 6 8)), (1, .int (nI q)), (2, .int (bo)), (3, .int (ma))]) hx hb dX6_table_53 hl (by decide) rfl (fun ls hl => ?_)
        refine lv_iload hx hb dX6_table_55 (lv_at hl 0 rfl) ?_
        refine lv_iload_n hx hb dX6_table_57 rfl (lv_at hl 5 rfl) ?_
        refine lv_icmp_ne (tgt := 64) hx hb dX6_table_58 (by decide) (fun c17 => ?_) (fun c17 => ?_)
        · refine lv_aload_n hx hb dX6_table_64 rfl (lv_at hl 2 rfl) ?_
          refine z_callVv X hH (c_X6_records l D k a g v u n hn eu hJ hv) k_X6_86 (rv_X6 X hH) [] rfl rfl hl.1 (Nat.le_of_ble_eq_true rfl) ⟨Nat.le_of_ble_eq_true rfl, Nat.le_of_ble_eq_true rfl⟩ ⟨Nat.le_refl _, Nat.le_refl _⟩ dX6_table_65 (fun g18 H locs h19 hH => ?_)
          rw [h19] at hH
          refine lv_aload_n hx hb dX6_table_68 rfl (lv_at hl 2 rfl) ?_
          refine gf_X6_s X hH q_576 dX6_table_69 ?_
          refine lv_iload hx hb dX6_table_72 (lv_at hl 1 rfl) ?_
          refine lv_iload_n hx hb dX6_table_74 rfl (lv_at hl 5 rfl) ?_
          refine sm_s X (by omega) hH (4 + q) (by omega) (by omega) dX6_table_75 (fun H locs hH => ?_)
          refine lv_iload hx hb dX6_table_76 (lv_at hl 0 rfl) ?_
          exact hret _ _ _ _ _ _ rfl ⟨by simp only [kTable, fResize, ← z_4, ← z_3, ← z_5, z_if2, z_if3, c4, hq1, c5, c16, c17, okS, okT, okW, okN, hasP, zAct, if_true, if_false, not_true_eq_false, not_false_eq_true, and_self, or_true, true_or, or_false, false_or, and_true, true_and, and_false, false_and, or_self, Bool.false_eq_true, z10], by simp only [kTable, fResize, ← z_4, ← z_3, ← z_5, z_if2, z_if3, c4, hq1, c5, c16, c17, okS, okT, okW, okN, hasP, zAct, if_true, if_false, not_true_eq_false, not_false_eq_true, and_self, or_true, true_or, or_false, false_or, and_true, true_and, and_false, false_and, or_self, Bool.false_eq_true, z10]; exact zPo_s hn hJ (fun j hj => rfl)⟩ hH dX6_table_78
        · refine lv_bipush (v := (-4)) hx hb dX6_table_61 (by decide) ?_
          exact hret _ _ _ _ _ _ rfl ⟨by simp only [kTable, fResize, ← z_4, ← z_3, ← z_5, z_if2, z_if3, c4, hq1, c5, c16, c17, okS, okT, okW, okN, hasP, zAct, if_true, if_false, not_true_eq_false, not_false_eq_true, and_self, or_true, true_or, or_false, false_or, and_true, true_and, and_false, false_and, or_self, Bool.false_eq_true, z10], by simp only [kTable, fResize, ← z_4, ← z_3, ← z_5, z_if2, z_if3, c4, hq1, c5, c16, c17, okS, okT, okW, okN, hasP, zAct, if_true, if_false, not_true_eq_false, not_false_eq_true, and_self, or_true, true_or, or_false, false_or, and_true, true_and, and_false, false_and, or_self, Bool.false_eq_true, z10]; exact zPo_n hJ⟩ hH dX6_table_63
      · refine lv_bipush (v := (-2)) hx hb dX6_table_30 (by decide) ?_
        exact hret _ _ _ _ _ _ rfl ⟨by simp only [kTable, fResize, ← z_4, ← z_3, ← z_5, z_if2, z_if3, c4, hq1, c5, c16, okS, okT, okW, okN, hasP, zAct, if_true, if_false, not_true_eq_false, not_false_eq_true, and_self, or_true, true_or, or_false, false_or, and_true, true_and, and_false, false_and, or_self, Bool.false_eq_true, z10], by simp only [kTable, fResize, ← z_4, ← z_3, ← z_5, z_if2, z_if3, c4, hq1, c5, c16, okS, okT, okW, okN, hasP, zAct, if_true, if_false, not_true_eq_false, not_false_eq_true, and_self, or_true, true_or, or_false, false_or, and_true, true_and, and_false, false_and, or_self, Bool.false_eq_true, z10]; exact zPo_n hJ⟩ hH dX6_table_32
  · refine lv_iconst (v := (-1)) hx hb dX6_table_9 (by decide) ?_
    exact hret _ _ _ _ _ _ rfl ⟨by simp only [kTable, fResize, ← z_4, ← z_3, ← z_5, z_if2, z_if3, c4, okS, okT, okW, okN, hasP, zAct, if_true, if_false, not_true_eq_false, not_false_eq_true, and_self, or_true, true_or, or_false, false_or, and_true, true_and, and_false, false_and, or_self, Bool.false_eq_true, z10], by simp only [kTable, fResize, ← z_4, ← z_3, ← z_5, z_if2, z_if3, c4, okS, okT, okW, okN, hasP, zAct, if_true, if_false, not_true_eq_false, not_false_eq_true, and_self, or_true, true_or, or_false, false_or, and_true, true_and, and_false, false_and, or_self, Bool.false_eq_true, z10]; exact zPo_n hJ⟩ hH dX6_table_10
set_option maxRecDepth 100000 in
set_option maxHeartbeats 4000000 in
theorem c_X6_ask (l : Launch) (D : va_G) (k : Nat → ClassId) (a : Nat → Nat → Nat) (g : Mem) (v u : V) (n : Nat) (hn : n ≤ 4) (eu : u 0 = nI n) (hJ : zJk g) (hv : ∀ j, 160 ≤ j → v j = 0) (hf : zFl v) (hk : zKy v) (R : Nat) (eR : v 11 = nI R) (hR : 1 ≤ R) (hR2 : R ≤ 12) (h9 : ¬ v 9 < 1) (hg : zGu v) (sh nu : Int32) : zI l yX6_ask cX6_ask 3 .int 5 116 D k a [.ref (a 6 8), .int (sh), .int (nu)] (zM g 0 v u) (fun r g' => r = (kAsk v sh nu).1 ∧ zPo g v u n (kAsk v sh nu).2 g') := by
  refine zI_of (own := RX6) (by decide +kernel) rfl (Nat.le_of_ble_eq_true rfl) ?_
  intro p e s m args below meth c X Q hret hH ls hl
  obtain ⟨hx, hb, hml, hown, hts⟩ := X.1
  have hl : lv_has ls 3 [(0, .ref (a 6 8)), (1, .int (sh)), (2, .int (nu))] := hl
  have hH : zH D k a s (zM g 0 v u) s.heap [] := hH
  refine lv_iload_n hx hb dX6_ask_0 rfl (lv_at hl 1 rfl) ?_
  refine z_callSi X hH (c_X6_isShape l D k a (zM g 0 v u) sh) k_X6_89 [] rfl rfl hl.1 (Nat.le_of_ble_eq_true rfl) ⟨Nat.le_of_ble_eq_true rfl, Nat.le_of_ble_eq_true rfl⟩ ⟨Nat.le_refl _, Nat.le_refl _⟩ dX6_ask_1 (fun r1 g2 H locs h3 hH => ?_)
  rw [h3.2] at hH
  rw [h3.1]
  refine b_ifne (P := okS sh) (tgt := 9) hx hb dX6_ask_4 (by decide) (fun c4 => ?_) (fun c4 => ?_)
  · obtain ⟨z, hz, rfl⟩ := zIx (B := 12) (b := 12) rfl (by decide) c4
    have hz1 : iN (nI z) = z := iNn (by omega)
    refine lv_iload_n hx hb dX6_ask_9 rfl (lv_at hl 1 rfl) ?_
    refine lv_iload_n hx hb dX6_ask_10 rfl (lv_at hl 2 rfl) ?_
    refine z_callSi X hH (c_X6_isNumber l D k a (zM g 0 v u) (z) (by omega) nu) k_X6_93 [] rfl rfl hl.1 (Nat.le_of_ble_eq_true rfl) ⟨Nat.le_of_ble_eq_true rfl, Nat.le_of_ble_eq_true rfl⟩ ⟨Nat.le_refl _, Nat.le_refl _⟩ dX6_ask_11 (fun r5 g6 H locs h7 hH => ?_)
    rw [h7.2] at hH
    rw [h7.1]
    refine b_ifne (P := okN z nu) (tgt := 20) hx hb dX6_ask_14 (by decide) (fun c8 => ?_) (fun c8 => ?_)
    · refine lv_aload_n hx hb dX6_ask_20 rfl (lv_at hl 0 rfl) ?_
      refine z_callVv X hH (c_X6_records l D k a g v u n hn eu hJ hv) k_X6_86 (rv_X6 X hH) [] rfl rfl hl.1 (Nat.le_of_ble_eq_true rfl) ⟨Nat.le_of_ble_eq_true rfl, Nat.le_of_ble_eq_true rfl⟩ ⟨Nat.le_refl _, Nat.le_refl _⟩ dX6_ask_21 (fun g9 H locs h10 hH => ?_)
      rw [h10] at hH
      refine lv_aload_n hx hb dX6_ask_24 rfl (lv_at hl 0 rfl) ?_
      refine lv_iconst (v := 0) hx hb dX6_ask_25 (by decide) ?_
      refine lv_iload_n hx hb dX6_ask_26 rfl (lv_at hl 1 rfl) ?_
      refine lv_iload_n hx hb dX6_ask_27 rfl (lv_at hl 2 rfl) ?_
      refine z_callVi X hH (c_X6_asks l D k a (mRecG g v n) 0 (by omega) v (mRecU u n) hf hk R eR hR hR2 h9 hg (z) (by omega) nu) k_X6_96 (rv_X6 X hH) [] rfl rfl hl.1 (Nat.le_of_ble_eq_true rfl) ⟨Nat.le_of_ble_eq_true rfl, Nat.le_of_ble_eq_true rfl⟩ ⟨Nat.le_refl _, Nat.le_refl _⟩ dX6_ask_28 (fun r11 g12 H locs h13 hH => ?_)
      obtain ⟨hr9, u', hg9, hu9, h79, h89, h99⟩ := h13
      rw [hg9] at hH
      rw [hr9]
      exact hret _ _ _ _ _ _ rfl ⟨by simp only [kAsk, ← z_4, ← z_3, ← z_5, z_if2, z_if3, c4, hz1, c8, okS, okT, okW, okN, hasP, zAct, if_true, if_false, not_true_eq_false, not_false_eq_true, and_self, or_true, true_or, or_false, false_or, and_true, true_and, and_false, false_and, or_self, Bool.false_eq_true, z10], by simp only [kAsk, ← z_4, ← z_3, ← z_5, z_if2, z_if3, c4, hz1, c8, okS, okT, okW, okN, hasP, zAct, if_true, if_false, not_true_eq_false, not_false_eq_true, and_self, or_true, true_or, or_false, false_or, and_true, true_and, and_false, false_and, or_self, Bool.false_eq_true, z10]; exact zPo_s hn hJ (fun j hj => hu9 j (by omega))⟩ hH dX6_ask_31
    · refine lv_bipush (v := (-2)) hx hb dX6_ask_17 (by decide) ?_
      exact hret _ _ _ _ _ _ rfl ⟨by simp only [kAsk, ← z_4, ← z_3, ← z_5, z_if2, z_if3, c4, hz1, c8, okS, okT, okW, okN, hasP, zAct, if_true, if_false, not_true_eq_false, not_false_eq_true, and_self, or_true, true_or, or_false, false_or, and_true, true_and, and_false, false_and, or_self, Bool.false_eq_true, z10], by simp only [kAsk, ← z_4, ← z_3, ← z_5, z_if2, z_if3, c4, hz1, c8, okS, okT, okW, okN, hasP, zAct, if_true, if_false, not_true_eq_false, not_false_eq_true, and_self, or_true, true_or, or_false, false_or, and_true, true_and, and_false, false_and, or_self, Bool.false_eq_true, z10]; exact zPo_n hJ⟩ hH dX6_ask_19
  · refine lv_iconst (v := (-1)) hx hb dX6_ask_7 (by decide) ?_
    exact hret _ _ _ _ _ _ rfl ⟨by simp only [kAsk, ← z_4, ← z_3, ← z_5, z_if2, z_if3, c4, okS, okT, okW, okN, hasP, zAct, if_true, if_false, not_true_eq_false, not_false_eq_true, and_self, or_true, true_or, or_false, false_or, and_true, true_and, and_false, false_and, or_self, Bool.false_eq_true, z10], by simp only [kAsk, ← z_4, ← z_3, ← z_5, z_if2, z_if3, c4, okS, okT, okW, okN, hasP, zAct, if_true, if_false, not_true_eq_false, not_false_eq_true, and_self, or_true, true_or, or_false, false_or, and_true, true_and, and_false, false_and, or_self, Bool.false_eq_true, z10]; exact zPo_n hJ⟩ hH dX6_ask_8
set_option maxRecDepth 100000 in
set_option maxHeartbeats 4000000 in
theorem c_X6_pin (l : Launch) (D : va_G) (k : Nat → ClassId) (a : Nat → Nat → Nat) (g : Mem) (v u : V) (n : Nat) (hn : n ≤ 4) (eu : u 0 = nI n) (hJ : zJk g) (hv : ∀ j, 160 ≤ j → v j = 0) (hf : zFl v) (sh bo : Int32) (hbo : bo = 0 ∨ bo = 1) : zI l yX6_pin cX6_pin 4 .int 3 63 D k a [.ref (a 6 8), .int (sh), .int (bo)] (zM g 0 v u) (fun r g' => r = (kPin v sh bo).1 ∧ zPo g v u n (kPin v sh bo).2 g') := by
  refine zI_of (own := RX6) (by decide +kernel) rfl (Nat.le_of_ble_eq_true rfl) ?_
  intro p e s m args below meth c X Q hret hH ls hl
  obtain ⟨hx, hb, hml, hown, hts⟩ := X.1
  have hl : lv_has ls 4 [(0, .ref (a 6 8)), (1, .int (sh)), (2, .int (bo))] := hl
  have hH : zH D k a s (zM g 0 v u) s.heap [] := hH
  rcases hbo with e0 | e0
  · subst e0
    refine lv_aload_n hx hb dX6_pin_0 rfl (lv_at hl 0 rfl) ?_
    refine lv_iload_n hx hb dX6_pin_1 rfl (lv_at hl 1 rfl) ?_
    refine z_callVi X hH (c_X6_hasPlan l D k a g v u hf sh) k_X6_140 (rv_X6 X hH) [] rfl rfl hl.1 (Nat.le_of_ble_eq_true rfl) ⟨Nat.le_of_ble_eq_true rfl, Nat.le_of_ble_eq_true rfl⟩ ⟨Nat.le_refl _, Nat.le_refl _⟩ dX6_pin_2 (fun r1 g2 H locs h3 hH => ?_)
    rw [h3.2] at hH
    rw [h3.1]
    refine b_ifne (P := hasP v sh) (tgt := 10) hx hb dX6_pin_5 (by decide) (fun c4 => ?_) (fun c4 => ?_)
    · obtain ⟨z, hz, rfl⟩ := zIx (B := 12) (b := 12) rfl (by decide) c4.1
      have hz1 : iN (nI z) = z := iNn (by omega)
      have hz2 : ¬ v (13 + 11 * z + 0) = 0 := by have q9 := c4.2; rw [hz1] at q9; exact q9
      refine lv_iconst (v := 0) hx hb dX6_pin_10 (by decide) ?_
      refine lv_iload_n hx hb dX6_pin_11 rfl (lv_at hl 1 rfl) ?_
      refine z_callSi X hH (c_X6_planAt l D k a (zM g 0 v u) 0 (z)) k_X6_38 [] rfl rfl hl.1 (Nat.le_of_ble_eq_true rfl) ⟨Nat.le_of_ble_eq_true rfl, Nat.le_of_ble_eq_true rfl⟩ ⟨Nat.le_refl _, Nat.le_refl _⟩ dX6_pin_12 (fun r5 g6 H locs h7 hH => ?_)
      rw [h7.2] at hH
      rw [h7.1]
      refine lv_bipush (v := 8) hx hb dX6_pin_15 (by decide) ?_
      refine n_iadd (A := 160 * 0 + 13 + 11 * z) (B := 8) hx hb (160 * 0 + 13 + 11 * z + 8) (by omega) dX6_pin_17 ?_
      refine lv_istore_n (lv' := [(3, .int (nI (160 * 0 + 13 + 11 * z + 8))), (0, .ref (a 6 8)), (1, .int (nI z)), (2, .int 0)]) hx hb dX6_pin_18 rfl hl (by decide) rfl (fun ls hl => ?_)
      refine lv_aload_n hx hb dX6_pin_19 rfl (lv_at hl 1 rfl) ?_
      refine gf_X6_s X hH q_576 dX6_pin_20 ?_
      refine lv_iload_n hx hb dX6_pin_23 rfl (lv_at hl 0 rfl) ?_
      refine am_s X (by omega) hH (13 + 11 * z + 8) (by omega) (by omega) dX6_pin_24 ?_
      refine lv_iload_n hx hb dX6_pin_25 rfl (lv_at hl 3 rfl) ?_
      refine lv_if_eq (tgt := 33) hx hb dX6_pin_26 (by decide) (fun _ => ?_) (fun q => absurd (by decide) q)
      refine lv_iconst (v := 0) hx hb dX6_pin_33 (by decide) ?_
      refine lv_icmp_ne (tgt := 40) hx hb dX6_pin_34 (by decide) (fun c8 => ?_) (fun c8 => ?_)
      · refine lv_aload_n hx hb dX6_pin_40 rfl (lv_at hl 1 rfl) ?_
        refine z_callVv X hH (c_X6_records l D k a g v u n hn eu hJ hv) k_X6_86 (rv_X6 X hH) [] rfl rfl hl.1 (Nat.le_of_ble_eq_true rfl) ⟨Nat.le_of_ble_eq_true rfl, Nat.le_of_ble_eq_true rfl⟩ ⟨Nat.le_refl _, Nat.le_refl _⟩ dX6_pin_41 (fun g9 H locs h10 hH => ?_)
        rw [h10] at hH
        refine lv_aload_n hx hb dX6_pin_44 rfl (lv_at hl 1 rfl) ?_
        refine gf_X6_s X hH q_576 dX6_pin_45 ?_
        refine lv_iload_n hx hb dX6_pin_48 rfl (lv_at hl 0 rfl) ?_
        refine lv_iload_n hx hb dX6_pin_49 rfl (lv_at hl 3 rfl) ?_
        refine lv_if_eq (tgt := 57) hx hb dX6_pin_50 (by decide) (fun _ => ?_) (fun q => absurd (by decide) q)
        refine lv_iconst (v := 0) hx hb dX6_pin_57 (by decide) ?_
        refine sm_s X (by omega) hH (13 + 11 * z + 8) (by omega) (by omega) dX6_pin_58 (fun H locs hH => ?_)
        refine lv_aload_n hx hb dX6_pin_59 rfl (lv_at hl 1 rfl) ?_
        refine z_callVi X hH (c_X6_pinned l D k a (mRecG g v n) (upd v (13 + 11 * z + 8) 0) (mRecU u n) (zFl_f8 hf (Or.inl rfl))) k_X6_143 (rv_X6 X hH) [] rfl rfl hl.1 (Nat.le_of_ble_eq_true rfl) ⟨Nat.le_of_ble_eq_true rfl, Nat.le_of_ble_eq_true rfl⟩ ⟨Nat.le_refl _, Nat.le_refl _⟩ dX6_pin_60 (fun r11 g12 H locs h13 hH => ?_)
        rw [h13.2] at hH
        rw [h13.1]
        exact hret _ _ _ _ _ _ rfl ⟨by simp only [kPin, ← z_4, ← z_3, ← z_5, z_if2, z_if3, c4, hz1, hz2, c8, okS, okT, okW, okN, hasP, zAct, if_true, if_false, not_true_eq_false, not_false_eq_true, and_self, or_true, true_or, or_false, false_or, and_true, true_and, and_false, false_and, or_self, Bool.false_eq_true, z10], by simp only [kPin, ← z_4, ← z_3, ← z_5, z_if2, z_if3, c4, hz1, hz2, c8, okS, okT, okW, okN, hasP, zAct, if_true, if_false, not_true_eq_false, not_false_eq_true, and_self, or_true, true_or, or_false, false_or, and_true, true_and, and_false, false_and, or_self, Bool.false_eq_true, z10]; exact zPo_s hn hJ (fun j hj => rfl)⟩ hH dX6_pin_63
      · refine lv_bipush (v := (-4)) hx hb dX6_pin_37 (by decide) ?_
        exact hret _ _ _ _ _ _ rfl ⟨by simp only [kPin, ← z_4, ← z_3, ← z_5, z_if2, z_if3, c4, hz1, hz2, c8, okS, okT, okW, okN, hasP, zAct, if_true, if_false, not_true_eq_false, not_false_eq_true, and_self, or_true, true_or, or_false, false_or, and_true, true_and, and_false, false_and, or_self, Bool.false_eq_true, z10], by simp only [kPin, ← z_4, ← z_3, ← z_5, z_if2, z_if3, c4, hz1, hz2, c8, okS, okT, okW, okN, hasP, zAct, if_true, if_false, not_true_eq_false, not_false_eq_true, and_self, or_true, true_or, or_false, false_or, and_true, true_and, and_false, false_and, or_self, Bool.false_eq_true, z10]; exact zPo_n hJ⟩ hH dX6_pin_39
    · refine lv_iconst (v := (-1)) hx hb dX6_pin_8 (by decide) ?_
      exact hret _ _ _ _ _ _ rfl ⟨by simp only [kPin, ← z_4, ← z_3, ← z_5, z_if2, z_if3, c4, okS, okT, okW, okN, hasP, zAct, if_true, if_false, not_true_eq_false, not_false_eq_true, and_self, or_true, true_or, or_false, false_or, and_true, true_and, and_false, false_and, or_self, Bool.false_eq_true, z10], by simp only [kPin, ← z_4, ← z_3, ← z_5, z_if2, z_if3, c4, okS, okT, okW, okN, hasP, zAct, if_true, if_false, not_true_eq_false, not_false_eq_true, and_self, or_true, true_or, or_false, false_or, and_true, true_and, and_false, false_and, or_self, Bool.false_eq_true, z10]; exact zPo_n hJ⟩ hH dX6_pin_9
  · subst e0
    refine lv_aload_n hx hb dX6_pin_0 rfl (lv_at hl 0 rfl) ?_
    refine lv_iload_n hx hb dX6_pin_1 rfl (lv_at hl 1 rfl) ?_
    refine z_callVi X hH (c_X6_hasPlan l D k a g v u hf sh) k_X6_140 (rv_X6 X hH) [] rfl rfl hl.1 (Nat.le_of_ble_eq_true rfl) ⟨Nat.le_of_ble_eq_true rfl, Nat.le_of_ble_eq_true rfl⟩ ⟨Nat.le_refl _, Nat.le_refl _⟩ dX6_pin_2 (fun r14 g15 H locs h16 hH => ?_)
    rw [h16.2] at hH
    rw [h16.1]
    refine b_ifne (P := hasP v sh) (tgt := 10) hx hb dX6_pin_5 (by decide) (fun c17 => ?_) (fun c17 => ?_)
    · obtain ⟨z, hz, rfl⟩ := zIx (B := 12) (b := 12) rfl (by decide) c17.1
      have hz1 : iN (nI z) = z := iNn (by omega)
      have hz2 : ¬ v (13 + 11 * z + 0) = 0 := by have q9 := c17.2; rw [hz1] at q9; exact q9
      refine lv_iconst (v := 0) hx hb dX6_pin_10 (by decide) ?_
      refine lv_iload_n hx hb dX6_pin_11 rfl (lv_at hl 1 rfl) ?_
      refine z_callSi X hH (c_X6_planAt l D k a (zM g 0 v u) 0 (z)) k_X6_38 [] rfl rfl hl.1 (Nat.le_of_ble_eq_true rfl) ⟨Nat.le_of_ble_eq_true rfl, Nat.le_of_ble_eq_true rfl⟩ ⟨Nat.le_refl _, Nat.le_refl _⟩ dX6_pin_12 (fun r18 g19 H locs h20 hH => ?_)
      rw [h20.2] at hH
      rw [h20.1]
      refine lv_bipush (v := 8) hx hb dX6_pin_15 (by decide) ?_
      refine n_iadd (A := 160 * 0 + 13 + 11 * z) (B := 8) hx hb (160 * 0 + 13 + 11 * z + 8) (by omega) dX6_pin_17 ?_
      refine lv_istore_n (lv' := [(3, .int (nI (160 * 0 + 13 + 11 * z + 8))), (0, .ref (a 6 8)), (1, .int (nI z)), (2, .int 1)]) hx hb dX6_pin_18 rfl hl (by decide) rfl (fun ls hl => ?_)
      refine lv_aload_n hx hb dX6_pin_19 rfl (lv_at hl 1 rfl) ?_
      refine gf_X6_s X hH q_576 dX6_pin_20 ?_
      refine lv_iload_n hx hb dX6_pin_23 rfl (lv_at hl 0 rfl) ?_
      refine am_s X (by omega) hH (13 + 11 * z + 8) (by omega) (by omega) dX6_pin_24 ?_
      refine lv_iload_n hx hb dX6_pin_25 rfl (lv_at hl 3 rfl) ?_
      refine lv_if_eq (tgt := 33) hx hb dX6_pin_26 (by decide) (fun q => absurd q (by decide)) (fun _ => ?_)
      refine lv_iconst (v := 1) hx hb dX6_pin_29 (by decide) ?_
      refine lv_goto (tgt := 34) hx hb dX6_pin_30 (by decide) ?_
      refine lv_icmp_ne (tgt := 40) hx hb dX6_pin_34 (by decide) (fun c21 => ?_) (fun c21 => ?_)
      · refine lv_aload_n hx hb dX6_pin_40 rfl (lv_at hl 1 rfl) ?_
        refine z_callVv X hH (c_X6_records l D k a g v u n hn eu hJ hv) k_X6_86 (rv_X6 X hH) [] rfl rfl hl.1 (Nat.le_of_ble_eq_true rfl) ⟨Nat.le_of_ble_eq_true rfl, Nat.le_of_ble_eq_true rfl⟩ ⟨Nat.le_refl _, Nat.le_refl _⟩ dX6_pin_41 (fun g22 H locs h23 hH => ?_)
        rw [h23] at hH
        refine lv_aload_n hx hb dX6_pin_44 rfl (lv_at hl 1 rfl) ?_
        refine gf_X6_s X hH q_576 dX6_pin_45 ?_
        refine lv_iload_n hx hb dX6_pin_48 rfl (lv_at hl 0 rfl) ?_
        refine lv_iload_n hx hb dX6_pin_49 rfl (lv_at hl 3 rfl) ?_
        refine lv_if_eq (tgt := 57) hx hb dX6_pin_50 (by decide) (fun q => absurd q (by decide)) (fun _ => ?_)
        refine lv_iconst (v := 1) hx hb dX6_pin_53 (by decide) ?_
        refine lv_goto (tgt := 58) hx hb dX6_pin_54 (by decide) ?_
        refine sm_s X (by omega) hH (13 + 11 * z + 8) (by omega) (by omega) dX6_pin_58 (fun H locs hH => ?_)
        refine lv_aload_n hx hb dX6_pin_59 rfl (lv_at hl 1 rfl) ?_
        refine z_callVi X hH (c_X6_pinned l D k a (mRecG g v n) (upd v (13 + 11 * z + 8) 1) (mRecU u n) (zFl_f8 hf (Or.inr rfl))) k_X6_143 (rv_X6 X hH) [] rfl rfl hl.1 (Nat.le_of_ble_eq_true rfl) ⟨Nat.le_of_ble_eq_true rfl, Nat.le_of_ble_eq_true rfl⟩ ⟨Nat.le_refl _, Nat.le_refl _⟩ dX6_pin_60 (fun r24 g25 H locs h26 hH => ?_)
        rw [h26.2] at hH
        rw [h26.1]
        exact hret _ _ _ _ _ _ rfl ⟨by simp only [kPin, ← z_4, ← z_3, ← z_5, z_if2, z_if3, c17, hz1, hz2, c21, okS, okT, okW, okN, hasP, zAct, if_true, if_false, not_true_eq_false, not_false_eq_true, and_self, or_true, true_or, or_false, false_or, and_true, true_and, and_false, false_and, or_self, Bool.false_eq_true, z10], by simp only [kPin, ← z_4, ← z_3, ← z_5, z_if2, z_if3, c17, hz1, hz2, c21, okS, okT, okW, okN, hasP, zAct, if_true, if_false, not_true_eq_false, not_false_eq_true, and_self, or_true, true_or, or_false, false_or, and_true, true_and, and_false, false_and, or_self, Bool.false_eq_true, z10]; exact zPo_s hn hJ (fun j hj => rfl)⟩ hH dX6_pin_63
      · refine lv_bipush (v := (-4)) hx hb dX6_pin_37 (by decide) ?_
        exact hret _ _ _ _ _ _ rfl ⟨by simp only [kPin, ← z_4, ← z_3, ← z_5, z_if2, z_if3, c17, hz1, hz2, c21, okS, okT, okW, okN, hasP, zAct, if_true, if_false, not_true_eq_false, not_false_eq_true, and_self, or_true, true_or, or_false, false_or, and_true, true_and, and_false, false_and, or_self, Bool.false_eq_true, z10], by simp only [kPin, ← z_4, ← z_3, ← z_5, z_if2, z_if3, c17, hz1, hz2, c21, okS, okT, okW, okN, hasP, zAct, if_true, if_false, not_true_eq_false, not_false_eq_true, and_self, or_true, true_or, or_false, false_or, and_true, true_and, and_false, false_and, or_self, Bool.false_eq_true, z10]; exact zPo_n hJ⟩ hH dX6_pin_39
    · refine lv_iconst (v := (-1)) hx hb dX6_pin_8 (by decide) ?_
      exact hret _ _ _ _ _ _ rfl ⟨by simp only [kPin, ← z_4, ← z_3, ← z_5, z_if2, z_if3, c17, okS, okT, okW, okN, hasP, zAct, if_true, if_false, not_true_eq_false, not_false_eq_true, and_self, or_true, true_or, or_false, false_or, and_true, true_and, and_false, false_and, or_self, Bool.false_eq_true, z10], by simp only [kPin, ← z_4, ← z_3, ← z_5, z_if2, z_if3, c17, okS, okT, okW, okN, hasP, zAct, if_true, if_false, not_true_eq_false, not_false_eq_true, and_self, or_true, true_or, or_false, false_or, and_true, true_and, and_false, false_and, or_self, Bool.false_eq_true, z10]; exact zPo_n hJ⟩ hH dX6_pin_9
set_option maxRecDepth 100000 in
set_option maxHeartbeats 4000000 in
theorem c_X6_throwOut (l : Launch) (D : va_G) (k : Nat → ClassId) (a : Nat → Nat → Nat) (g : Mem) (v u : V) (n : Nat) (hn : n ≤ 4) (eu : u 0 = nI n) (hJ : zJk g) (hv : ∀ j, 160 ≤ j → v j = 0) (hf : zFl v) (sh : Int32) : zI l yX6_throwOut cX6_throwOut 2 .int 3 63 D k a [.ref (a 6 8), .int (sh)] (zM g 0 v u) (fun r g' => r = (kThrow v sh).1 ∧ zPo g v u n (kThrow v sh).2 g') := by
  refine zI_of (own := RX6) (by decide +kernel) rfl (Nat.le_of_ble_eq_true rfl) ?_
  intro p e s m args below meth c X Q hret hH ls hl
  obtain ⟨hx, hb, hml, hown, hts⟩ := X.1
  have hl : lv_has ls 2 [(0, .ref (a 6 8)), (1, .int (sh))] := hl
  have hH : zH D k a s (zM g 0 v u) s.heap [] := hH
  refine lv_aload_n hx hb dX6_throwOut_0 rfl (lv_at hl 0 rfl) ?_
  refine lv_iload_n hx hb dX6_throwOut_1 rfl (lv_at hl 1 rfl) ?_
  refine z_callVi X hH (c_X6_hasPlan l D k a g v u hf sh) k_X6_140 (rv_X6 X hH) [] rfl rfl hl.1 (Nat.le_of_ble_eq_true rfl) ⟨Nat.le_of_ble_eq_true rfl, Nat.le_of_ble_eq_true rfl⟩ ⟨Nat.le_refl _, Nat.le_refl _⟩ dX6_throwOut_2 (fun r1 g2 H locs h3 hH => ?_)
  rw [h3.2] at hH
  rw [h3.1]
  refine b_ifne (P := hasP v sh) (tgt := 10) hx hb dX6_throwOut_5 (by decide) (fun c4 => ?_) (fun c4 => ?_)
  · obtain ⟨z, hz, rfl⟩ := zIx (B := 12) (b := 12) rfl (by decide) c4.1
    have hz1 : iN (nI z) = z := iNn (by omega)
    have hz2 : ¬ v (13 + 11 * z + 0) = 0 := by have q9 := c4.2; rw [hz1] at q9; exact q9
    refine lv_aload_n hx hb dX6_throwOut_10 rfl (lv_at hl 0 rfl) ?_
    refine z_callVv X hH (c_X6_records l D k a g v u n hn eu hJ hv) k_X6_86 (rv_X6 X hH) [] rfl rfl hl.1 (Nat.le_of_ble_eq_true rfl) ⟨Nat.le_of_ble_eq_true rfl, Nat.le_of_ble_eq_true rfl⟩ ⟨Nat.le_refl _, Nat.le_refl _⟩ dX6_throwOut_11 (fun g5 H locs h6 hH => ?_)
    rw [h6] at hH
    refine lv_aload_n hx hb dX6_throwOut_14 rfl (lv_at hl 0 rfl) ?_
    refine gf_X6_s X hH q_576 dX6_throwOut_15 ?_
    refine lv_iconst (v := 0) hx hb dX6_throwOut_18 (by decide) ?_
    refine lv_iload_n hx hb dX6_throwOut_19 rfl (lv_at hl 1 rfl) ?_
    refine z_callSi X hH (c_X6_planAt l D k a (zM (mRecG g v n) 0 v (mRecU u n)) 0 (z)) k_X6_38 [.ref (a 6 9)] rfl rfl hl.1 (Nat.le_of_ble_eq_true rfl) ⟨Nat.le_of_ble_eq_true rfl, Nat.le_of_ble_eq_true rfl⟩ ⟨Nat.le_refl _, Nat.le_refl _⟩ dX6_throwOut_20 (fun r7 g8 H locs h9 hH => ?_)
    rw [h9.2] at hH
    rw [h9.1]
    refine lv_iconst (v := 0) hx hb dX6_throwOut_23 (by decide) ?_
    refine sm_s X (by omega) hH (13 + 11 * z + 0) (by omega) (by omega) dX6_throwOut_24 (fun H locs hH => ?_)
    refine lv_aload_n hx hb dX6_throwOut_25 rfl (lv_at hl 0 rfl) ?_
    refine lv_iconst (v := 0) hx hb dX6_throwOut_26 (by decide) ?_
    refine z_callVi X hH (c_X6_kept l D k a (mRecG g v n) 0 (by omega) (upd v (13 + 11 * z + 0) 0) (mRecU u n) (zFl_f0 hf (Or.inl rfl))) k_X6_58 (rv_X6 X hH) [] rfl rfl hl.1 (Nat.le_of_ble_eq_true rfl) ⟨Nat.le_of_ble_eq_true rfl, Nat.le_of_ble_eq_true rfl⟩ ⟨Nat.le_refl _, Nat.le_refl _⟩ dX6_throwOut_27 (fun r10 g11 H locs h12 hH => ?_)
    rw [h12.2] at hH
    rw [h12.1]
    exact hret _ _ _ _ _ _ rfl ⟨by simp only [kThrow, ← z_4, ← z_3, ← z_5, z_if2, z_if3, c4, hz1, hz2, okS, okT, okW, okN, hasP, zAct, if_true, if_false, not_true_eq_false, not_false_eq_true, and_self, or_true, true_or, or_false, false_or, and_true, true_and, and_false, false_and, or_self, Bool.false_eq_true, z10], by simp only [kThrow, ← z_4, ← z_3, ← z_5, z_if2, z_if3, c4, hz1, hz2, okS, okT, okW, okN, hasP, zAct, if_true, if_false, not_true_eq_false, not_false_eq_true, and_self, or_true, true_or, or_false, false_or, and_true, true_and, and_false, false_and, or_self, Bool.false_eq_true, z10]; exact zPo_s hn hJ (fun j hj => rfl)⟩ hH dX6_throwOut_30
  · refine lv_iconst (v := (-1)) hx hb dX6_throwOut_8 (by decide) ?_
    exact hret _ _ _ _ _ _ rfl ⟨by simp only [kThrow, ← z_4, ← z_3, ← z_5, z_if2, z_if3, c4, okS, okT, okW, okN, hasP, zAct, if_true, if_false, not_true_eq_false, not_false_eq_true, and_self, or_true, true_or, or_false, false_or, and_true, true_and, and_false, false_and, or_self, Bool.false_eq_true, z10], by simp only [kThrow, ← z_4, ← z_3, ← z_5, z_if2, z_if3, c4, okS, okT, okW, okN, hasP, zAct, if_true, if_false, not_true_eq_false, not_false_eq_true, and_self, or_true, true_or, or_false, false_or, and_true, true_and, and_false, false_and, or_self, Bool.false_eq_true, z10]; exact zPo_n hJ⟩ hH dX6_throwOut_9
