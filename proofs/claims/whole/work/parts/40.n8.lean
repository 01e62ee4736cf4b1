set_option maxRecDepth 100000 in
set_option maxHeartbeats 4000000 in
theorem c_X6_make (l : Launch) (D : va_G) (k : Nat → ClassId) (a : Nat → Nat → Nat) (g : Mem) (v u : V) (n : Nat) (hn : n ≤ 4) (eu : u 0 = nI n) (hJ : zJk g) (hv : ∀ j, 160 ≤ j → v j = 0) (hf : zFl v) (hk : zKy v) (R : Nat) (eR : v 11 = nI R) (hR : 1 ≤ R) (hR2 : R ≤ 12) (sh wa nu lo hi : Int32) : zI l yX6_make cX6_make 7 .int 4 90 D k a [.ref (a 6 8), .int (sh), .int (wa), .int (nu), .int (lo), .int (hi)] (zM g 0 v u) (fun r g' => r = (kMake v sh wa nu lo hi).1 ∧ zPo g v u n (kMake v sh wa nu lo hi).2 g') := by
  refine zI_of (own := RX6) (by decide +kernel) rfl (Nat.le_of_ble_eq_true rfl) ?_
  intro p e s m args below meth c X Q hret hH ls hl
  obtain ⟨hx, hb, hml, hown, hts⟩ := X.1
  have hl : lv_has ls 7 [(0, .ref (a 6 8)), (1, .int (sh)), (2, .int (wa)), (3, .int (nu)), (4, .int (lo)), (5, .int (hi))] := hl
  have hH : zH D k a s (zM g 0 v u) s.heap [] := hH
  refine lv_iload_n hx hb dX6_make_0 rfl (lv_at hl 1 rfl) ?_
  refine z_callSi X hH (c_X6_isShape l D k a (zM g 0 v u) sh) k_X6_89 [] rfl rfl hl.1 (Nat.le_of_ble_eq_true rfl) ⟨Nat.le_of_ble_eq_true rfl, Nat.le_of_ble_eq_true rfl⟩ ⟨Nat.le_refl _, Nat.le_refl _⟩ dX6_make_1 (fun r1 g2 H locs h3 hH => ?_)
  rw [h3.2] at hH
  rw [h3.1]
  refine b_ifne (P := okS sh) (tgt := 9) hx hb dX6_make_4 (by decide) (fun c4 => ?_) (fun c4 => ?_)
  · obtain ⟨z, hz, rfl⟩ := zIx (B := 12) (b := 12) rfl (by decide) c4
    have hz1 : iN (nI z) = z := iNn (by omega)
    refine lv_iload_n hx hb dX6_make_9 rfl (lv_at hl 2 rfl) ?_
    refine lv_iconst (v := 0) hx hb dX6_make_10 (by decide) ?_
    refine lv_iconst (v := 2) hx hb dX6_make_11 (by decide) ?_
    refine z_callSi X hH (c_X6_in l D k a (zM g 0 v u) wa 0 2) k_X6_17 [] rfl rfl hl.1 (Nat.le_of_ble_eq_true rfl) ⟨Nat.le_of_ble_eq_true rfl, Nat.le_of_ble_eq_true rfl⟩ ⟨Nat.le_refl _, Nat.le_refl _⟩ dX6_make_12 (fun r5 g6 H locs h7 hH => ?_)
    rw [h7.2] at hH
    rw [h7.1]
    refine b_ifeq (P := ¬ wa < 0 ∧ ¬ 2 < wa) (tgt := 50) hx hb dX6_make_15 (by decide) (fun c8 => ?_) (fun c8 => ?_)
    · refine lv_bipush (v := (-2)) hx hb dX6_make_50 (by decide) ?_
      exact hret _ _ _ _ _ _ rfl ⟨by simp only [kMake, kMakeV, ← z_4, ← z_3, ← z_5, z_if2, z_if3, c4, hz1, c8, okS, okT, okW, okN, hasP, zAct, if_true, if_false, not_true_eq_false, not_false_eq_true, and_self, or_true, true_or, or_false, false_or, and_true, true_and, and_false, false_and, or_self, Bool.false_eq_true, z10], by simp only [kMake, kMakeV, ← z_4, ← z_3, ← z_5, z_if2, z_if3, c4, hz1, c8, okS, okT, okW, okN, hasP, zAct, if_true, if_false, not_true_eq_false, not_false_eq_true, and_self, or_true, true_or, or_false, false_or, and_true, true_and, and_false, false_and, or_self, Bool.false_eq_true, z10]; exact zPo_n hJ⟩ hH dX6_make_52
    · refine lv_iload_n hx hb dX6_make_18 rfl (lv_at hl 1 rfl) ?_
      refine lv_iload_n hx hb dX6_make_19 rfl (lv_at hl 3 rfl) ?_
      refine z_callSi X hH (c_X6_isNumber l D k a (zM g 0 v u) (z) (by omega) nu) k_X6_93 [] rfl rfl hl.1 (Nat.le_of_ble_eq_true rfl) ⟨Nat.le_of_ble_eq_true rfl, Nat.le_of_ble_eq_true rfl⟩ ⟨Nat.le_refl _, Nat.le_refl _⟩ dX6_make_20 (fun r9 g10 H locs h11 hH => ?_)
      rw [h11.2] at hH
      rw [h11.1]
      refine b_ifeq (P := okN z nu) (tgt := 50) hx hb dX6_make_23 (by decide) (fun c12 => ?_) (fun c12 => ?_)
      · refine lv_bipush (v := (-2)) hx hb dX6_make_50 (by decide) ?_
        exact hret _ _ _ _ _ _ rfl ⟨by simp only [kMake, kMakeV, ← z_4, ← z_3, ← z_5, z_if2, z_if3, c4, hz1, c8, c12, okS, okT, okW, okN, hasP, zAct, if_true, if_false, not_true_eq_false, not_false_eq_true, and_self, or_true, true_or, or_false, false_or, and_true, true_and, and_false, false_and, or_self, Bool.false_eq_true, z10], by simp only [kMake, kMakeV, ← z_4, ← z_3, ← z_5, z_if2, z_if3, c4, hz1, c8, c12, okS, okT, okW, okN, hasP, zAct, if_true, if_false, not_true_eq_false, not_false_eq_true, and_self, or_true, true_or, or_false, false_or, and_true, true_and, and_false, false_and, or_self, Bool.false_eq_true, z10]; exact zPo_n hJ⟩ hH dX6_make_52
      · refine lv_iload hx hb dX6_make_26 (lv_at hl 4 rfl) ?_
        refine lv_iconst (v := 0) hx hb dX6_make_28 (by decide) ?_
        refine lv_sipush (v := 9999) hx hb dX6_make_29 (by decide) ?_
        refine z_callSi X hH (c_X6_in l D k a (zM g 0 v u) lo 0 9999) k_X6_17 [] rfl rfl hl.1 (Nat.le_of_ble_eq_true rfl) ⟨Nat.le_of_ble_eq_true rfl, Nat.le_of_ble_eq_true rfl⟩ ⟨Nat.le_refl _, Nat.le_refl _⟩ dX6_make_32 (fun r13 g14 H locs h15 hH => ?_)
        rw [h15.2] at hH
        rw [h15.1]
        refine b_ifeq (P := ¬ lo < 0 ∧ ¬ 9999 < lo) (tgt := 50) hx hb dX6_make_35 (by decide) (fun c16 => ?_) (fun c16 => ?_)
        · refine lv_bipush (v := (-2)) hx hb dX6_make_50 (by decide) ?_
          exact hret _ _ _ _ _ _ rfl ⟨by simp only [kMake, kMakeV, ← z_4, ← z_3, ← z_5, z_if2, z_if3, c4, hz1, c8, c12, c16, okS, okT, okW, okN, hasP, zAct, if_true, if_false, not_true_eq_false, not_false_eq_true, and_self, or_true, true_or, or_false, false_or, and_true, true_and, and_false, false_and, or_self, Bool.false_eq_true, z10], by simp only [kMake, kMakeV, ← z_4, ← z_3, ← z_5, z_if2, z_if3, c4, hz1, c8, c12, c16, okS, okT, okW, okN, hasP, zAct, if_true, if_false, not_true_eq_false, not_false_eq_true, and_self, or_true, true_or, or_false, false_or, and_true, true_and, and_false, false_and, or_self, Bool.false_eq_true, z10]; exact zPo_n hJ⟩ hH dX6_make_52
        · refine lv_iload hx hb dX6_make_38 (lv_at hl 5 rfl) ?_
          refine lv_iload hx hb dX6_make_40 (lv_at hl 4 rfl) ?_
          refine lv_ldc hx hb hown (hts _ q_745) dX6_make_42 ?_
          refine z_callSi X hH (c_X6_in l D k a (zM g 0 v u) hi lo 99999) k_X6_17 [] rfl rfl hl.1 (Nat.le_of_ble_eq_true rfl) ⟨Nat.le_of_ble_eq_true rfl, Nat.le_of_ble_eq_true rfl⟩ ⟨Nat.le_refl _, Nat.le_refl _⟩ dX6_make_44 (fun r17 g18 H locs h19 hH => ?_)
          rw [h19.2] at hH
          rw [h19.1]
          refine b_ifne (P := ¬ hi < lo ∧ ¬ 99999 < hi) (tgt := 53) hx hb dX6_make_47 (by decide) (fun c20 => ?_) (fun c20 => ?_)
          · refine lv_aload_n hx hb dX6_make_53 rfl (lv_at hl 0 rfl) ?_
            refine lv_iconst (v := 0) hx hb dX6_make_54 (by decide) ?_
            refine lv_bipush (v := 6) hx hb dX6_make_55 (by decide) ?_
            refine z_callVv X (by rw [zM_in _ _ _ (by omega) (by omega)]; exact hH) (c_X6_copies l D k a (zUp g (10 + 0) v) (0) (6) (by omega) (by omega) (by omega) (g (10 + 6)) u (fun j hj => (hJ (6) (by omega) j hj).trans (((congrFun (zUp_s _ _ _) j).trans (hv j hj)).symm))) k_X6_25 (rv_X6 X hH) [] rfl rfl hl.1 (Nat.le_of_ble_eq_true rfl) ⟨Nat.le_of_ble_eq_true rfl, Nat.le_of_ble_eq_true rfl⟩ ⟨Nat.le_refl _, Nat.le_refl _⟩ dX6_make_57 (fun g21 H locs h22 hH => ?_)
            rw [h22, show (zUp g (10 + 0) v) (10 + 0) = v from (zUp_s _ _ _), zM_out _ _ _ _ (by omega) (by omega)] at hH
            refine lv_sipush (v := 960) hx hb dX6_make_60 (by decide) ?_
            refine lv_istore (lv' := [(6, .int 960), (0, .ref (a 6 8)), (1, .int (nI z)), (2, .int (wa)), (3, .int (nu)), (4, .int (lo)), (5, .int (hi))]) hx hb dX6_make_63 hl (by decide) rfl (fun ls hl => ?_)
            rw [← zM_out g v v u (by omega) (by omega)] at hH
            refine lv_aload_n hx hb dX6_make_65 rfl (lv_at hl 1 rfl) ?_
            refine lv_iload hx hb dX6_make_66 (lv_at hl 0 rfl) ?_
            refine lv_iload_n hx hb dX6_make_68 rfl (lv_at hl 2 rfl) ?_
            refine z_callVi X hH (c_X6_hasRoom l D k a (zUp g (10 + 0) v) 6 (by omega) v u hf R eR hR hR2 (z) (by omega)) k_X6_79 (rv_X6 X hH) [] rfl rfl hl.1 (Nat.le_of_ble_eq_true rfl) ⟨Nat.le_of_ble_eq_true rfl, Nat.le_of_ble_eq_true rfl⟩ ⟨Nat.le_refl _, Nat.le_refl _⟩ dX6_make_69 (fun r23 g24 H locs h25 hH => ?_)
            rw [h25.2] at hH
            rw [h25.1]
            refine b_ifne (P := fCould (fRoom v z) z = true) (tgt := 78) hx hb dX6_make_72 (by decide) (fun c26 => ?_) (fun c26 => ?_)
            · rw [fCould_r hz] at c26
              refine lv_aload_n hx hb dX6_make_78 rfl (lv_at hl 1 rfl) ?_
              refine lv_iload hx hb dX6_make_79 (lv_at hl 0 rfl) ?_
              refine lv_iload_n hx hb dX6_make_81 rfl (lv_at hl 2 rfl) ?_
              refine lv_iload_n hx hb dX6_make_82 rfl (lv_at hl 3 rfl) ?_
              refine lv_iload_n hx hb dX6_make_83 rfl (lv_at hl 4 rfl) ?_
              refine lv_iload hx hb dX6_make_84 (lv_at hl 5 rfl) ?_
              refine lv_iload hx hb dX6_make_86 (lv_at hl 6 rfl) ?_
              refine z_callVv X hH (c_X6_lays l D k a (zUp g (10 + 0) v) 6 (by omega) (fRoom v z) (mRoomU v u z) (fun t ht => by rw [fRoom_o (by omega)]; exact hk t ht) (z) (by omega) wa nu lo hi) k_X6_82 (rv_X6 X hH) [] rfl rfl hl.1 (Nat.le_of_ble_eq_true rfl) ⟨Nat.le_of_ble_eq_true rfl, Nat.le_of_ble_eq_true rfl⟩ ⟨Nat.le_refl _, Nat.le_refl _⟩ dX6_make_88 (fun g27 H locs h28 hH => ?_)
              rw [h28] at hH
              rw [zM_out _ _ _ _ (by omega) (by omega)] at hH
              refine lv_aload_n hx hb dX6_make_91 rfl (lv_at hl 1 rfl) ?_
              refine z_callVv X hH (c_X6_records l D k a (zUp g (10 + 6) (fPlace (fRoom v z) z wa nu lo hi)) v (mRoomU v u z) n hn ((mRoomU_o (by decide)).trans eu) (zJk_up hJ (zJv_place hz (zJv_room hv))) hv) k_X6_86 (rv_X6 X hH) [] rfl rfl hl.1 (Nat.le_of_ble_eq_true rfl) ⟨Nat.le_of_ble_eq_true rfl, Nat.le_of_ble_eq_true rfl⟩ ⟨Nat.le_refl _, Nat.le_refl _⟩ dX6_make_92 (fun g29 H locs h30 hH => ?_)
              rw [h30] at hH
              refine lv_aload_n hx hb dX6_make_95 rfl (lv_at hl 1 rfl) ?_
              refine lv_bipush (v := 6) hx hb dX6_make_96 (by decide) ?_
              refine lv_iconst (v := 0) hx hb dX6_make_98 (by decide) ?_
              refine z_callVv X hH (c_X6_copies l D k a (mRecG (zUp g (10 + 6) (fPlace (fRoom v z) z wa nu lo hi)) v n) (6) 0 (by omega) (by omega) (by omega) v (mRecU (mRoomU v u z) n) (fun j hj => (hv j hj).trans ((zJk_rec hn (zJk_up hJ (zJv_place hz (zJv_room hv))) hv) (6) (by omega) j hj).symm)) k_X6_25 (rv_X6 X hH) [] rfl rfl hl.1 (Nat.le_of_ble_eq_true rfl) ⟨Nat.le_of_ble_eq_true rfl, Nat.le_of_ble_eq_true rfl⟩ ⟨Nat.le_refl _, Nat.le_refl _⟩ dX6_make_99 (fun g31 H locs h32 hH => ?_)
              rw [h32] at hH
              rw [show (mRecG (zUp g (10 + 6) (fPlace (fRoom v z) z wa nu lo hi)) v n) (10 + 6) = fPlace (fRoom v z) z wa nu lo hi from (mRecG_o hn (by omega)).trans (zUp_s _ _ _)] at hH
              refine lv_aload_n hx hb dX6_make_102 rfl (lv_at hl 1 rfl) ?_
              refine lv_iconst (v := 0) hx hb dX6_make_103 (by decide) ?_
              refine z_callVi X hH (c_X6_kept l D k a (mRecG (zUp g (10 + 6) (fPlace (fRoom v z) z wa nu lo hi)) v n) 0 (by omega) (fPlace (fRoom v z) z wa nu lo hi) (mRecU (mRoomU v u z) n) (zFl_place (zFl_room hf))) k_X6_58 (rv_X6 X hH) [] rfl rfl hl.1 (Nat.le_of_ble_eq_true rfl) ⟨Nat.le_of_ble_eq_true rfl, Nat.le_of_ble_eq_true rfl⟩ ⟨Nat.le_refl _, Nat.le_refl _⟩ dX6_make_104 (fun r33 g34 H locs h35 hH => ?_)
              rw [h35.2] at hH
              rw [h35.1]
              exact hret _ _ _ _ _ _ rfl ⟨by simp only [kMake, kMakeV, fCould_r hz, ← z_4, ← z_3, ← z_5, z_if2, z_if3, c4, hz1, c8, c12, c16, c20, c26, okS, okT, okW, okN, hasP, zAct, if_true, if_false, not_true_eq_false, not_false_eq_true, and_self, or_true, true_or, or_false, false_or, and_true, true_and, and_false, false_and, or_self, Bool.false_eq_true, z10], by simp only [kMake, kMakeV, fCould_r hz, ← z_4, ← z_3, ← z_5, z_if2, z_if3, c4, hz1, c8, c12, c16, c20, c26, okS, okT, okW, okN, hasP, zAct, if_true, if_false, not_true_eq_false, not_false_eq_true, and_self, or_true, true_or, or_false, false_or, and_true, true_and, and_false, false_and, or_self, Bool.false_eq_true, z10]; exact zPo_sw hn (zJv_place hz (zJv_room hv)) (mRecU_co (fun j hj => mRoomU_o (by omega)))⟩ hH dX6_make_107
            · rw [fCould_r hz] at c26
              refine lv_bipush (v := (-4)) hx hb dX6_make_75 (by decide) ?_
              exact hret _ _ _ _ _ _ rfl ⟨by simp only [kMake, kMakeV, fCould_r hz, ← z_4, ← z_3, ← z_5, z_if2, z_if3, c4, hz1, c8, c12, c16, c20, c26, okS, okT, okW, okN, hasP, zAct, if_true, if_false, not_true_eq_false, not_false_eq_true, and_self, or_true, true_or, or_false, false_or, and_true, true_and, and_false, false_and, or_self, Bool.false_eq_true, z10], by simp only [kMake, kMakeV, fCould_r hz, ← z_4, ← z_3, ← z_5, z_if2, z_if3, c4, hz1, c8, c12, c16, c20, c26, okS, okT, okW, okN, hasP, zAct, if_true, if_false, not_true_eq_false, not_false_eq_true, and_self, or_true, true_or, or_false, false_or, and_true, true_and, and_false, false_and, or_self, Bool.false_eq_true, z10]; rw [zM_out _ _ _ _ (by omega) (by omega)]; exact zPo_nw (zJv_room hv) (fun j hj => mRoomU_o (by omega))⟩ hH dX6_make_77
          · refine lv_bipush (v := (-2)) hx hb dX6_make_50 (by decide) ?_
            exact hret _ _ _ _ _ _ rfl ⟨by simp only [kMake, kMakeV, ← z_4, ← z_3, ← z_5, z_if2, z_if3, c4, hz1, c8, c12, c16, c20, okS, okT, okW, okN, hasP, zAct, if_true, if_false, not_true_eq_false, not_false_eq_true, and_self, or_true, true_or, or_false, false_or, and_true, true_and, and_false, false_and, or_self, Bool.false_eq_true, z10], by simp only [kMake, kMakeV, ← z_4, ← z_3, ← z_5, z_if2, z_if3, c4, hz1, c8, c12, c16, c20, okS, okT, okW, okN, hasP, zAct, if_true, if_false, not_true_eq_false, not_false_eq_true, and_self, or_true, true_or, or_false, false_or, and_true, true_and, and_false, false_and, or_self, Bool.false_eq_true, z10]; exact zPo_n hJ⟩ hH dX6_make_52
  · refine lv_iconst (v := (-1)) hx hb dX6_make_7 (by decide) ?_
    exact hret _ _ _ _ _ _ rfl ⟨by simp only [kMake, kMakeV, ← z_4, ← z_3, ← z_5, z_if2, z_if3, c4, okS, okT, okW, okN, hasP, zAct, if_true, if_false, not_true_eq_false, not_false_eq_true, and_self, or_true, true_or, or_false, false_or, and_true, true_and, and_false, false_and, or_self, Bool.false_eq_true, z10], by simp only [kMake, kMakeV, ← z_4, ← z_3, ← z_5, z_if2, z_if3, c4, okS, okT, okW, okN, hasP, zAct, if_true, if_false, not_true_eq_false, not_false_eq_true, and_self, or_true, true_or, or_false, false_or, and_true, true_and, and_false, false_and, or_self, Bool.false_eq_true, z10]; exact zPo_n hJ⟩ hH dX6_make_8
set_option maxRecDepth 100000 in
set_option maxHeartbeats 4000000 in
theorem c_X6_set (l : Launch) (D : va_G) (k : Nat → ClassId) (a : Nat → Nat → Nat) (g : Mem) (v u : V) (n : Nat) (hn : n ≤ 4) (eu : u 0 = nI n) (hJ : zJk g) (hv : ∀ j, 160 ≤ j → v j = 0) (hf : zFl v) (wh va : Int32) : zI l yX6_set cX6_set 4 .int 3 68 D k a [.ref (a 6 8), .int (wh), .int (va)] (zM g 0 v u) (fun r g' => r = (kSet v wh va).1 ∧ zPo g v u n (kSet v wh va).2 g') := by
  refine zI_of (own := RX6) (by decide +kernel) rfl (Nat.le_of_ble_eq_true rfl) ?_
  intro p e s m args below meth c X Q hret hH ls hl
  obtain ⟨hx, hb, hml, hown, hts⟩ := X.1
  have hl : lv_has ls 4 [(0, .ref (a 6 8)), (1, .int (wh)), (2, .int (va))] := hl
  have hH : zH D k a s (zM g 0 v u) s.heap [] := hH
  refine lv_iload_n hx hb dX6_set_0 rfl (lv_at hl 1 rfl) ?_
  refine lv_iconst (v := 0) hx hb dX6_set_1 (by decide) ?_
  refine lv_iconst (v := 4) hx hb dX6_set_2 (by decide) ?_
  refine z_callSi X hH (c_X6_in l D k a (zM g 0 v u) wh 0 4) k_X6_17 [] rfl rfl hl.1 (Nat.le_of_ble_eq_true rfl) ⟨Nat.le_of_ble_eq_true rfl, Nat.le_of_ble_eq_true rfl⟩ ⟨Nat.le_refl _, Nat.le_refl _⟩ dX6_set_3 (fun r1 g2 H locs h3 hH => ?_)
  rw [h3.2] at hH
  rw [h3.1]
  refine b_ifne (P := ¬ wh < 0 ∧ ¬ 4 < wh) (tgt := 11) hx hb dX6_set_6 (by decide) (fun c4 => ?_) (fun c4 => ?_)
  · obtain ⟨q, hq, rfl⟩ := zIx (B := 5) (b := 5) rfl (by decide) ⟨c4.1, (z_5 _).mp c4.2⟩
    have hq1 : iN (nI q) = q := iNn (by omega)
    refine lv_iload_n hx hb dX6_set_11 rfl (lv_at hl 2 rfl) ?_
    refine lv_iload_n hx hb dX6_set_12 rfl (lv_at hl 1 rfl) ?_
    refine z_callSi X hH (c_X6_lowest l D k a (zM g 0 v u) (q) (by omega)) k_X6_147 [.int (va)] rfl rfl hl.1 (Nat.le_of_ble_eq_true rfl) ⟨Nat.le_of_ble_eq_true rfl, Nat.le_of_ble_eq_true rfl⟩ ⟨Nat.le_refl _, Nat.le_refl _⟩ dX6_set_13 (fun r5 g6 H locs h7 hH => ?_)
    rw [h7.2] at hH
    rw [h7.1]
    refine lv_iload_n hx hb dX6_set_16 rfl (lv_at hl 1 rfl) ?_
    refine z_callSi X hH (c_X6_highest l D k a (zM g 0 v u) (q) (by omega)) k_X6_150 [.int (zLe q), .int (va)] rfl rfl hl.1 (Nat.le_of_ble_eq_true rfl) ⟨Nat.le_of_ble_eq_true rfl, Nat.le_of_ble_eq_true rfl⟩ ⟨Nat.le_refl _, Nat.le_refl _⟩ dX6_set_17 (fun r8 g9 H locs h10 hH => ?_)
    rw [h10.2] at hH
    rw [h10.1]
    refine z_callSi X hH (c_X6_in l D k a (zM g 0 v u) va (zLe q) (zMo q)) k_X6_17 [] rfl rfl hl.1 (Nat.le_of_ble_eq_true rfl) ⟨Nat.le_of_ble_eq_true rfl, Nat.le_of_ble_eq_true rfl⟩ ⟨Nat.le_refl _, Nat.le_refl _⟩ dX6_set_20 (fun r11 g12 H locs h13 hH => ?_)
    rw [h13.2] at hH
    rw [h13.1]
    refine b_ifne (P := ¬ va < (zLe q) ∧ ¬ (zMo q) < va) (tgt := 29) hx hb dX6_set_23 (by decide) (fun c14 => ?_) (fun c14 => ?_)
    · refine lv_aload_n hx hb dX6_set_29 rfl (lv_at hl 0 rfl) ?_
      refine gf_X6_s X hH q_576 dX6_set_30 ?_
      refine lv_bipush (v := 8) hx hb dX6_set_33 (by decide) ?_
      refine lv_iload_n hx hb dX6_set_35 rfl (lv_at hl 1 rfl) ?_
      refine n_iadd (A := 8) (B := q) hx hb (8 + q) (by omega) dX6_set_36 ?_
      refine am_s X (by omega) hH (8 + q) (by omega) (by omega) dX6_set_37 ?_
      refine lv_istore_n (lv' := [(3, .int (v (8 + q))), (0, .ref (a 6 8)), (1, .int (nI q)), (2, .int (va))]) hx hb dX6_set_38 rfl hl (by decide) rfl (fun ls hl => ?_)
      refine lv_iload_n hx hb dX6_set_39 rfl (lv_at hl 0 rfl) ?_
      refine lv_iload_n hx hb dX6_set_40 rfl (lv_at hl 3 rfl) ?_
      refine lv_icmp_ne (tgt := 47) hx hb dX6_set_41 (by decide) (fun c15 => ?_) (fun c15 => ?_)
      · refine lv_aload_n hx hb dX6_set_47 rfl (lv_at hl 1 rfl) ?_
        refine z_callVv X hH (c_X6_records l D k a g v u n hn eu hJ hv) k_X6_86 (rv_X6 X hH) [] rfl rfl hl.1 (Nat.le_of_ble_eq_true rfl) ⟨Nat.le_of_ble_eq_true rfl, Nat.le_of_ble_eq_true rfl⟩ ⟨Nat.le_refl _, Nat.le_refl _⟩ dX6_set_48 (fun g16 H locs h17 hH => ?_)
        rw [h17] at hH
        refine lv_aload_n hx hb dX6_set_51 rfl (lv_at hl 1 rfl) ?_
        refine gf_X6_s X hH q_576 dX6_set_52 ?_
        refine lv_bipush (v := 8) hx hb dX6_set_55 (by decide) ?_
        refine lv_iload_n hx hb dX6_set_57 rfl (lv_at hl 2 rfl) ?_
        refine n_iadd (A := 8) (B := q) hx hb (8 + q) (by omega) dX6_set_58 ?_
        refine lv_iload_n hx hb dX6_set_59 rfl (lv_at hl 3 rfl) ?_
        refine sm_s X (by omega) hH (8 + q) (by omega) (by omega) dX6_set_60 (fun H locs hH => ?_)
        by_cases h3 : q = 3
        · subst h3
          have eva : ∃ Y, 1 ≤ Y ∧ Y ≤ 12 ∧ va = nI Y := by
            have hb := c14
            rw [zLe_3, zMo_3] at hb
            obtain ⟨Y, hY, e⟩ := nI_of (x := va) (fun q9 => hb.1 (by rw [z_i] at q9 ⊢; exact Int.lt_of_lt_of_le q9 (by decide)))
            subst e
            exact ⟨Y, Nat.not_lt.mp (fun q9 => hb.1 (nI_lt (a := Y) (b := 1) q9 (by omega))), Nat.not_lt.mp (fun q9 => hb.2 (nI_lt (a := 12) (b := Y) q9 hY)), rfl⟩
          obtain ⟨Y, hY1, hY2, rfl⟩ := eva
          have hks : kSet v (nI 3) (nI Y) = (v (8 + 3), some (fDown (upd v 11 (nI Y)) (nI Y))) := by simp only [kSet, Classical.not_not, ← z_4, ← z_3, ← z_5, z_if2, z_if3, c4, hq1, c14, c15, okS, okT, okW, okN, hasP, zAct, if_true, if_false, not_true_eq_false, not_false_eq_true, and_self, or_true, true_or, or_false, false_or, and_true, true_and, and_false, false_and, or_self, Bool.false_eq_true, z10]
          have hf0 : zFl (upd v 11 (nI Y)) := zFl_co (fun j h1 h2 => zu_n _ _ (by omega)) hf
          have Lp : ∀ (j : Nat) (v1 u1 : V), Y + j ≤ 12 → ((j = 0 ∧ ¬ v1 11 < fK v1 12) ∨ fK v1 12 = nI (Y + j)) → zFl v1 → v1 11 = nI Y → fCrowd j v1 = fDown (upd v 11 (nI Y)) (nI Y) → (∀ i, i < 3 → u1 i = mRecU u n i) → ∀ (H : Heap) (locs : List Loc) (ls : Array Slot), zH D k a s (zM (mRecG g v n) 0 v1 u1) H locs → lv_has ls 4 [(3, .int (v (8 + 3))), (0, .ref (a 6 8)), (1, .int (nI 3)), (2, .int (nI Y))] → W p l e (zRoom 3 68) s m args below meth c H locs 0 0 Q (F0 m 61 ls []) := by
            intro j
            induction j with
            | zero =>
              intro v1 u1 hj hk1 hf1 e11 hv1 hu H locs ls hH hl
              have hno : ¬ v1 11 < fK v1 12 := by rcases hk1 with q9 | q9; exact q9.2; rw [q9, e11]; exact nI_nlt (by omega) (by omega)
              refine lv_aload_n hx hb dX6_set_61 rfl (lv_at hl 1 rfl) ?_
              refine lv_iconst (v := 0) hx hb dX6_set_62 (by decide) ?_
              refine z_callVi X hH (c_X6_kept l D k a (mRecG g v n) 0 (by omega) v1 u1 hf1) k_X6_58 (rv_X6 X hH) [] rfl rfl hl.1 (Nat.le_of_ble_eq_true rfl) ⟨Nat.le_of_ble_eq_true rfl, Nat.le_of_ble_eq_true rfl⟩ ⟨Nat.le_refl _, Nat.le_refl _⟩ dX6_set_63 (fun r18 g19 H locs h20 hH => ?_)
              rw [h20.2] at hH
              rw [h20.1]
              refine lv_aload_n hx hb dX6_set_66 rfl (lv_at hl 1 rfl) ?_
              refine gf_X6_s X hH q_576 dX6_set_67 ?_
              refine lv_bipush (v := 11) hx hb dX6_set_70 (by decide) ?_
              refine am_s (z := 11) X (by omega) hH (11) (by omega) (by omega) dX6_set_72 ?_
              refine i_icmp_le (tgt := 97) hx hb dX6_set_73 (by decide) (fun c21 => ?_) (fun q => absurd q hno)
              refine lv_iload_n hx hb dX6_set_97 rfl (lv_at hl 0 rfl) ?_
              exact hret _ _ _ _ _ _ rfl ⟨by rw [hks], by rw [hks]; rw [show v1 = fDown (upd v 11 (nI Y)) (nI Y) from hv1]; exact zPo_s hn hJ hu⟩ hH dX6_set_98
            | succ j ih =>
              intro v1 u1 hj hk1 hf1 e11 hv1 hu H locs ls hH hl
              have hk2 : fK v1 12 = nI (Y + (j + 1)) := by rcases hk1 with q9 | q9; exact absurd q9.1 (by omega); exact q9
              have hlt : v1 11 < fK v1 12 := by rw [hk2, e11]; exact nI_lt (by omega) (by omega)
              refine lv_aload_n hx hb dX6_set_61 rfl (lv_at hl 1 rfl) ?_
              refine lv_iconst (v := 0) hx hb dX6_set_62 (by decide) ?_
              refine z_callVi X hH (c_X6_kept l D k a (mRecG g v n) 0 (by omega) v1 u1 hf1) k_X6_58 (rv_X6 X hH) [] rfl rfl hl.1 (Nat.le_of_ble_eq_true rfl) ⟨Nat.le_of_ble_eq_true rfl, Nat.le_of_ble_eq_true rfl⟩ ⟨Nat.le_refl _, Nat.le_refl _⟩ dX6_set_63 (fun r22 g23 H locs h24 hH => ?_)
              rw [h24.2] at hH
              rw [h24.1]
              refine lv_aload_n hx hb dX6_set_66 rfl (lv_at hl 1 rfl) ?_
              refine gf_X6_s X hH q_576 dX6_set_67 ?_
              refine lv_bipush (v := 11) hx hb dX6_set_70 (by decide) ?_
              refine am_s (z := 11) X (by omega) hH (11) (by omega) (by omega) dX6_set_72 ?_
              refine i_icmp_le (tgt := 97) hx hb dX6_set_73 (by decide) (fun q => absurd hlt q) (fun c25 => ?_)
              refine lv_aload_n hx hb dX6_set_76 rfl (lv_at hl 1 rfl) ?_
              refine lv_iconst (v := 0) hx hb dX6_set_77 (by decide) ?_
              refine z_callVi X hH (c_X6_oldestOf l D k a (mRecG g v n) 0 (by omega) v1 u1 hf1) k_X6_52 (rv_X6 X hH) [] rfl rfl hl.1 (Nat.le_of_ble_eq_true rfl) ⟨Nat.le_of_ble_eq_true rfl, Nat.le_of_ble_eq_true rfl⟩ ⟨Nat.le_refl _, Nat.le_refl _⟩ dX6_set_78 (fun r26 g27 H locs h28 hH => ?_)
              rw [h28.2] at hH
              rw [h28.1]
              refine i_if_lt (tgt := 97) hx hb dX6_set_81 (by decide) (fun c29 => ?_) (fun c29 => ?_)
              · refine lv_iload_n hx hb dX6_set_97 rfl (lv_at hl 0 rfl) ?_
                exact hret _ _ _ _ _ _ rfl ⟨by rw [hks], by rw [hks]; rw [show v1 = fDown (upd v 11 (nI Y)) (nI Y) from by rw [← hv1, fCrowd, if_pos c29]]; exact zPo_s hn hJ hu⟩ hH dX6_set_98
              · refine lv_iload_n hx hb dX6_set_84 rfl (lv_at hl 2 rfl) ?_
                refine lv_iconst (v := 3) hx hb dX6_set_85 (by decide) ?_
                refine n_icmp_ne (A := 3) (B := 3) (tgt := 97) hx hb (by omega) (by omega) dX6_set_86 (by decide) (fun q => absurd rfl q) (fun c30 => ?_)
                obtain ⟨S, hS, eS, hkS, -⟩ := fOldest_nat c29
                refine lv_aload_n hx hb dX6_set_89 rfl (lv_at hl 1 rfl) ?_
                refine lv_iconst (v := 0) hx hb dX6_set_90 (by decide) ?_
                refine z_callVv X hH (c_X6_throwsOldest l D k a (mRecG g v n) 0 (by omega) v1 u1 hf1 S hS eS) k_X6_61 (rv_X6 X hH) [] rfl rfl hl.1 (Nat.le_of_ble_eq_true rfl) ⟨Nat.le_of_ble_eq_true rfl, Nat.le_of_ble_eq_true rfl⟩ ⟨Nat.le_refl _, Nat.le_refl _⟩ dX6_set_91 (fun g31 H locs h32 hH => ?_)
                rw [h32] at hH
                refine lv_goto (tgt := 61) hx hb dX6_set_94 (by decide) ?_
                refine ih _ _ (by omega) (Or.inr ?_) (zFl_kill hf1) (by rw [fKill_o (by omega) (by omega)]; exact e11) (by rw [← hv1, fCrowd, if_neg c29, eS, nI_clamp (by omega)]) (fun i hi => (zu_n _ _ (by omega)).trans (hu i hi)) _ _ _ hH (lv_sub hl [0, 1, 2, 3] rfl)
                have q1 := fK_kill1 hS hkS 12 hS (Nat.le_refl _)
                obtain ⟨kk, hk3, hk4⟩ := fK_nat (v := fKill v1 S) 12
                rw [hk4, hk2, nI_1] at q1
                have q2 := (nI_eq (by omega) (by omega)).mp q1
                rw [hk4, show kk = Y + j by omega]
          have hdn : ∃ j, Y + j ≤ 12 ∧ ((j = 0 ∧ ¬ (upd v 11 (nI Y)) 11 < fK (upd v 11 (nI Y)) 12) ∨ fK (upd v 11 (nI Y)) 12 = nI (Y + j)) ∧ fCrowd j (upd v 11 (nI Y)) = fDown (upd v 11 (nI Y)) (nI Y) := by
            obtain ⟨kk, hk3, hk4⟩ := fK_nat (v := (upd v 11 (nI Y))) 12
            by_cases hle : Y ≤ kk
            · exact ⟨kk - Y, by omega, Or.inr (by rw [hk4]; congr 1; omega), (fDown_n (by rw [hk4]; congr 1; omega) (by omega)).symm⟩
            · have hno : ¬ nI Y < fK (upd v 11 (nI Y)) 12 := by rw [hk4]; exact nI_nlt (by omega) (by omega)
              exact ⟨0, by omega, Or.inl ⟨rfl, by rw [zu_s]; exact hno⟩, (fDown_0 hno (by rw [nI_toInt (by omega)]; omega)).symm⟩
          obtain ⟨j, hj1, hj2, hj3⟩ := hdn
          exact Lp j _ _ hj1 hj2 hf0 (zu_s _ _ _) hj3 (fun _ _ => rfl) _ _ _ hH (lv_sub hl [0, 1, 2, 3] rfl)
        · skip
          refine lv_aload_n hx hb dX6_set_61 rfl (lv_at hl 1 rfl) ?_
          refine lv_iconst (v := 0) hx hb dX6_set_62 (by decide) ?_
          refine z_callVi X hH (c_X6_kept l D k a (mRecG g v n) 0 (by omega) (upd v (8 + q) va) (mRecU u n) (zFl_s (by omega) hf)) k_X6_58 (rv_X6 X hH) [] rfl rfl hl.1 (Nat.le_of_ble_eq_true rfl) ⟨Nat.le_of_ble_eq_true rfl, Nat.le_of_ble_eq_true rfl⟩ ⟨Nat.le_refl _, Nat.le_refl _⟩ dX6_set_63 (fun r33 g34 H locs h35 hH => ?_)
          rw [h35.2] at hH
          rw [h35.1]
          refine lv_aload_n hx hb dX6_set_66 rfl (lv_at hl 1 rfl) ?_
          refine gf_X6_s X hH q_576 dX6_set_67 ?_
          refine lv_bipush (v := 11) hx hb dX6_set_70 (by decide) ?_
          refine am_s (z := 11) X (by omega) hH (11) (by omega) (by omega) dX6_set_72 ?_
          rw [show (upd v (8 + q) va) 11 = v 11 from (zu_n _ _ (by omega))]
          refine i_icmp_le (tgt := 97) hx hb dX6_set_73 (by decide) (fun c36 => ?_) (fun c36 => ?_)
          · refine lv_iload_n hx hb dX6_set_97 rfl (lv_at hl 0 rfl) ?_
            exact hret _ _ _ _ _ _ rfl ⟨by simp only [kSet, Classical.not_not, ← z_4, ← z_3, ← z_5, z_if2, z_if3, c4, hq1, c14, c15, h3, okS, okT, okW, okN, hasP, zAct, if_true, if_false, not_true_eq_false, not_false_eq_true, and_self, or_true, true_or, or_false, false_or, and_true, true_and, and_false, false_and, or_self, Bool.false_eq_true, z10], by simp only [kSet, Classical.not_not, ← z_4, ← z_3, ← z_5, z_if2, z_if3, c4, hq1, c14, c15, h3, okS, okT, okW, okN, hasP, zAct, if_true, if_false, not_true_eq_false, not_false_eq_true, and_self, or_true, true_or, or_false, false_or, and_true, true_and, and_false, false_and, or_self, Bool.false_eq_true, z10]; exact zPo_s hn hJ (fun j hj => rfl)⟩ hH dX6_set_98
          · refine lv_aload_n hx hb dX6_set_76 rfl (lv_at hl 1 rfl) ?_
            refine lv_iconst (v := 0) hx hb dX6_set_77 (by decide) ?_
            refine z_callVi X hH (c_X6_oldestOf l D k a (mRecG g v n) 0 (by omega) (upd v (8 + q) va) (mRecU u n) (zFl_s (by omega) hf)) k_X6_52 (rv_X6 X hH) [] rfl rfl hl.1 (Nat.le_of_ble_eq_true rfl) ⟨Nat.le_of_ble_eq_true rfl, Nat.le_of_ble_eq_true rfl⟩ ⟨Nat.le_refl _, Nat.le_refl _⟩ dX6_set_78 (fun r37 g38 H locs h39 hH => ?_)
            rw [h39.2] at hH
            rw [h39.1]
            refine i_if_lt (tgt := 97) hx hb dX6_set_81 (by decide) (fun c40 => ?_) (fun c40 => ?_)
            · refine lv_iload_n hx hb dX6_set_97 rfl (lv_at hl 0 rfl) ?_
              exact hret _ _ _ _ _ _ rfl ⟨by simp only [kSet, Classical.not_not, ← z_4, ← z_3, ← z_5, z_if2, z_if3, c4, hq1, c14, c15, h3, okS, okT, okW, okN, hasP, zAct, if_true, if_false, not_true_eq_false, not_false_eq_true, and_self, or_true, true_or, or_false, false_or, and_true, true_and, and_false, false_and, or_self, Bool.false_eq_true, z10], by simp only [kSet, Classical.not_not, ← z_4, ← z_3, ← z_5, z_if2, z_if3, c4, hq1, c14, c15, h3, okS, okT, okW, okN, hasP, zAct, if_true, if_false, not_true_eq_false, not_false_eq_true, and_self, or_true, true_or, or_false, false_or, and_true, true_and, and_false, false_and, or_self, Bool.false_eq_true, z10]; exact zPo_s hn hJ (fun j hj => rfl)⟩ hH dX6_set_98
            · refine lv_iload_n hx hb dX6_set_84 rfl (lv_at hl 2 rfl) ?_
              refine lv_iconst (v := 3) hx hb dX6_set_85 (by decide) ?_
              refine n_icmp_ne (A := q) (B := 3) (tgt := 97) hx hb (by omega) (by omega) dX6_set_86 (by decide) (fun c41 => ?_) (fun q => absurd q h3)
              refine lv_iload_n hx hb dX6_set_97 rfl (lv_at hl 0 rfl) ?_
              exact hret _ _ _ _ _ _ rfl ⟨by simp only [kSet, Classical.not_not, ← z_4, ← z_3, ← z_5, z_if2, z_if3, c4, hq1, c14, c15, h3, okS, okT, okW, okN, hasP, zAct, if_true, if_false, not_true_eq_false, not_false_eq_true, and_self, or_true, true_or, or_false, false_or, and_true, true_and, and_false, false_and, or_self, Bool.false_eq_true, z10], by simp only [kSet, Classical.not_not, ← z_4, ← z_3, ← z_5, z_if2, z_if3, c4, hq1, c14, c15, h3, okS, okT, okW, okN, hasP, zAct, if_true, if_false, not_true_eq_false, not_false_eq_true, and_self, or_true, true_or, or_false, false_or, and_true, true_and, and_false, false_and, or_self, Bool.false_eq_true, z10]; exact zPo_s hn hJ (fun j hj => rfl)⟩ hH dX6_set_98
      · refine lv_bipush (v := (-4)) hx hb dX6_set_44 (by decide) ?_
        exact hret _ _ _ _ _ _ rfl ⟨by simp only [kSet, Classical.not_not, ← z_4, ← z_3, ← z_5, z_if2, z_if3, c4, hq1, c14, c15, okS, okT, okW, okN, hasP, zAct, if_true, if_false, not_true_eq_false, not_false_eq_true, and_self, or_true, true_or, or_false, false_or, and_true, true_and, and_false, false_and, or_self, Bool.false_eq_true, z10], by simp only [kSet, Classical.not_not, ← z_4, ← z_3, ← z_5, z_if2, z_if3, c4, hq1, c14, c15, okS, okT, okW, okN, hasP, zAct, if_true, if_false, not_true_eq_false, not_false_eq_true, and_self, or_true, true_or, or_false, false_or, and_true, true_and, and_false, false_and, or_self, Bool.false_eq_true, z10]; exact zPo_n hJ⟩ hH dX6_set_46
    · refine lv_bipush (v := (-2)) hx hb dX6_set_26 (by decide) ?_
      exact hret _ _ _ _ _ _ rfl ⟨by simp only [kSet, Classical.not_not, ← z_4, ← z_3, ← z_5, z_if2, z_if3, c4, hq1, c14, okS, okT, okW, okN, hasP, zAct, if_true, if_false, not_true_eq_false, not_false_eq_true, and_self, or_true, true_or, or_false, false_or, and_true, true_and, and_false, false_and, or_self, Bool.false_eq_true, z10], by simp only [kSet, Classical.not_not, ← z_4, ← z_3, ← z_5, z_if2, z_if3, c4, hq1, c14, okS, okT, okW, okN, hasP, zAct, if_true, if_false, not_true_eq_false, not_false_eq_true, and_self, or_true, true_or, or_false, false_or, and_true, true_and, and_false, false_and, or_self, Bool.false_eq_true, z10]; exact zPo_n hJ⟩ hH dX6_set_28
  · refine lv_iconst (v := (-1)) hx hb dX6_set_9 (by decide) ?_
    exact hret _ _ _ _ _ _ rfl ⟨by simp only [kSet, Classical.not_not, ← z_4, ← z_3, ← z_5, z_if2, z_if3, c4, okS, okT, okW, okN, hasP, zAct, if_true, if_false, not_true_eq_false, not_false_eq_true, and_self, or_true, true_or, or_false, false_or, and_true, true_and, and_false, false_and, or_self, Bool.false_eq_true, z10], by simp only [kSet, Classical.not_not, ← z_4, ← z_3, ← z_5, z_if2, z_if3, c4, okS, okT, okW, okN, hasP, zAct, if_true, if_false, not_true_eq_false, not_false_eq_true, and_self, or_true, true_or, or_false, false_or, and_true, true_and, and_false, false_and, or_self, Bool.false_eq_true, z10]; exact zPo_n hJ⟩ hH dX6_set_10
