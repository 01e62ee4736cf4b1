set_option maxRecDepth 100000 in
set_option maxHeartbeats 4000000 in
theorem c_X6_reads (l : Launch) (D : va_G) (k : Nat → ClassId) (a : Nat → Nat → Nat) (g : Mem) (v u : V) (L A : Nat) (hL : L ≤ 80) (hA : A ≤ L) (e2 : u 2 = nI L) (e3 : u 3 = nI A) : zI l yX6_reads cX6_reads 1 .boolean 3 64 D k a [.ref (a 6 8)] (zM g 0 v u) (zLineP g v u L A) := by
  refine zI_of (own := RX6) (by decide +kernel) rfl (Nat.le_of_ble_eq_true rfl) ?_
  intro p e s m args below meth c X Q hret hH ls hl
  obtain ⟨hx, hb, hml, hown, hts⟩ := X.1
  have hl : lv_has ls 1 [(0, .ref (a 6 8))] := hl
  have hH : zH D k a s (zM g 0 v u) s.heap [] := hH
  refine lv_aload_n hx hb dX6_reads_0 rfl (lv_at hl 0 rfl) ?_
  refine z_callVi X hH (c_X6_word l D k a g v u L A hL hA e2 e3) k_X6_115 (rv_X6 X hH) [] rfl rfl hl.1 (Nat.le_of_ble_eq_true rfl) ⟨Nat.le_of_ble_eq_true rfl, Nat.le_of_ble_eq_true rfl⟩ ⟨Nat.le_refl _, Nat.le_refl _⟩ dX6_reads_1 (fun r1 g2 H locs h3 hH => ?_)
  obtain ⟨hr, u1, hg1, hu1, k13, k14⟩ := h3
  rw [hg1] at hH
  rw [hr]
  by_cases hw : (fWord (g 19) L A).1 = -1
  · rw [if_pos hw]
    refine lv_if_eq (tgt := 27) hx hb dX6_reads_4 (by decide) (fun _ => ?_) (fun q => absurd (by decide) q)
    refine lv_iconst (v := 0) hx hb dX6_reads_27 (by decide) ?_
    exact hret _ _ _ _ _ _ rfl ⟨by rw [(show fLine (g 19) L A = (false, (fWord (g 19) L A).2, 0, 0, 0) from by rw [fLine, if_pos hw])]; rfl, _, rfl, (fun j hj => (hu1 j (by omega) (by omega))), by rw [(show fLine (g 19) L A = (false, (fWord (g 19) L A).2, 0, 0, 0) from by rw [fLine, if_pos hw])]; exact k13, by rw [(show fLine (g 19) L A = (false, (fWord (g 19) L A).2, 0, 0, 0) from by rw [fLine, if_pos hw])]; exact fun q => absurd q Bool.false_ne_true⟩ hH dX6_reads_28
  · rw [if_neg hw]
    obtain ⟨A1, eA⟩ : ∃ A1, A1 = (fWord (g 19) L A).2 := ⟨_, rfl⟩
    obtain ⟨W1, eW⟩ : ∃ W1, W1 = (fWord (g 19) L A).1 := ⟨_, rfl⟩
    rw [← eA] at k13
    have k14 := k14 hw
    rw [← eW] at k14 hw
    have hA1 : A1 ≤ L := by rw [eA]; exact (fWord_b hA).2
    have e21 : u1 2 = nI L := (hu1 2 (by decide) (by decide)).trans e2
    refine lv_if_eq (tgt := 27) hx hb dX6_reads_4 (by decide) (fun q => absurd q (by decide)) (fun _ => ?_)
    refine lv_aload_n hx hb dX6_reads_7 rfl (lv_at hl 0 rfl) ?_
    refine lv_bipush (v := 32) hx hb dX6_reads_8 (by decide) ?_
    refine z_callVi X hH (c_X6_takes l D k a g v u1 L (A1) hL (by omega) e21 k13 32 (by decide)) k_X6_109 (rv_X6 X hH) [] rfl rfl hl.1 (Nat.le_of_ble_eq_true rfl) ⟨Nat.le_of_ble_eq_true rfl, Nat.le_of_ble_eq_true rfl⟩ ⟨Nat.le_refl _, Nat.le_refl _⟩ dX6_reads_10 (fun r4 g5 H locs h6 hH => ?_)
    by_cases c7 : fSign (g 19) L A1 = 32
    · rw [h6.2, if_pos c7] at hH
      rw [h6.1, if_pos c7]
      have c7l : A1 < L := fSign_lt (by rw [c7]; decide)
      refine lv_if_eq (tgt := 27) hx hb dX6_reads_13 (by decide) (fun q => absurd q (by decide)) (fun _ => ?_)
      refine lv_aload_n hx hb dX6_reads_16 rfl (lv_at hl 0 rfl) ?_
      refine lv_bipush (v := 48) hx hb dX6_reads_17 (by decide) ?_
      refine lv_bipush (v := 51) hx hb dX6_reads_19 (by decide) ?_
      refine z_callVi X hH (c_X6_isDigit l D k a g v (upd u1 3 (nI (A1 + 1))) L (A1 + 1) hL (by omega) ((zu_n _ _ (by omega)).trans e21) (zu_s _ _ _) 48 51) k_X6_119 (rv_X6 X hH) [] rfl rfl hl.1 (Nat.le_of_ble_eq_true rfl) ⟨Nat.le_of_ble_eq_true rfl, Nat.le_of_ble_eq_true rfl⟩ ⟨Nat.le_refl _, Nat.le_refl _⟩ dX6_reads_21 (fun r8 g9 H locs h10 hH => ?_)
      by_cases c11 : A1 + 1 < L ∧ ¬ g 19 (A1 + 1) < 48 ∧ ¬ 51 < g 19 (A1 + 1)
      · rw [h10.2] at hH
        rw [h10.1, if_pos c11]
        have c11l := c11.1
        refine lv_if_ne (tgt := 29) hx hb dX6_reads_24 (by decide) (fun _ => ?_) (fun q => absurd q (by decide))
        have hd1 := fDg_y (x := g 19) (L := L) (lo := 0) (hi := 3) (b := 48) (t := 51) (by decide) (by decide) (Or.inl (by decide)) (by decide) c11
        have hn1 : fNum (g 19) L A1 0 3 = (g 19 (A1 + 1) - 48, A1 + 1 + 1) := by rw [fNum_y c7 hd1.2.1 hd1.2.2, fNumL_3 hd1.2.1 hd1.2.2, hd1.1]
        have hT : ¬ g 19 (A1 + 1) - 48 = -1 := by rw [← hd1.1]; exact z_m1 hd1.2.1
        refine lv_aload_n hx hb dX6_reads_29 rfl (lv_at hl 0 rfl) ?_
        refine lv_aload_n hx hb dX6_reads_30 rfl (lv_at hl 0 rfl) ?_
        refine gf_X6_text X hH q_579 dX6_reads_31 ?_
        refine lv_aload_n hx hb dX6_reads_34 rfl (lv_at hl 0 rfl) ?_
        refine gm_X6_at X hH q_581 dX6_reads_35 ?_
        rw [show (upd u1 3 (nI (A1 + 1))) 3 = nI (A1 + 1) from (zu_s _ _ _)]
        refine ar_text X hH (A1 + 1) (by omega) dX6_reads_38 ?_
        rw [show (zM g 0 v (upd u1 3 (nI (A1 + 1)))) 19 (A1 + 1) = (g) 19 (A1 + 1) from congrFun (zM_o _ _ _ (by decide) (by decide)) _]
        refine lv_bipush (v := 48) hx hb dX6_reads_39 (by decide) ?_
        refine lv_isub hx hb dX6_reads_41 ?_
        refine pm_X6_table X hH q_583 dX6_reads_42 (fun H locs hH => ?_)
        refine lv_aload_n hx hb dX6_reads_45 rfl (lv_at hl 0 rfl) ?_
        refine lv_dup hx hb dX6_reads_46 rfl ?_
        refine gm_X6_at X hH q_581 dX6_reads_47 ?_
        rw [show (upd (upd u1 3 (nI (A1 + 1))) 5 ((g 19 (A1 + 1)) - 48)) 3 = nI (A1 + 1) from ((zu_n _ _ (by omega)).trans (zu_s _ _ _))]
        refine lv_iconst (v := 1) hx hb dX6_reads_50 (by decide) ?_
        refine n_iadd (A := A1 + 1) (B := 1) hx hb (A1 + 1 + 1) (by omega) dX6_reads_51 ?_
        refine pm_X6_at X hH q_581 dX6_reads_52 (fun H locs hH => ?_)
        refine lv_aload_n hx hb dX6_reads_55 rfl (lv_at hl 0 rfl) ?_
        refine lv_bipush (v := 32) hx hb dX6_reads_56 (by decide) ?_
        refine z_callVi X hH (c_X6_takes l D k a g v (upd (upd (upd u1 3 (nI (A1 + 1))) 5 ((g 19 (A1 + 1)) - 48)) 3 (nI (A1 + 1 + 1))) L (A1 + 1 + 1) hL (by omega) (((zu_n _ _ (by omega)).trans ((zu_n _ _ (by omega)).trans (zu_n _ _ (by omega)))).trans e21) (zu_s _ _ _) 32 (by decide)) k_X6_109 (rv_X6 X hH) [] rfl rfl hl.1 (Nat.le_of_ble_eq_true rfl) ⟨Nat.le_of_ble_eq_true rfl, Nat.le_of_ble_eq_true rfl⟩ ⟨Nat.le_refl _, Nat.le_refl _⟩ dX6_reads_58 (fun r12 g13 H locs h14 hH => ?_)
        by_cases c15 : fSign (g 19) L (A1 + 1 + 1) = 32
        · rw [h14.2, if_pos c15] at hH
          rw [h14.1, if_pos c15]
          have c15l : A1 + 1 + 1 < L := fSign_lt (by rw [c15]; decide)
          refine lv_if_eq (tgt := 95) hx hb dX6_reads_61 (by decide) (fun q => absurd q (by decide)) (fun _ => ?_)
          refine lv_aload_n hx hb dX6_reads_64 rfl (lv_at hl 0 rfl) ?_
          refine lv_aload_n hx hb dX6_reads_65 rfl (lv_at hl 0 rfl) ?_
          refine gm_X6_order X hH q_582 dX6_reads_66 ?_
          rw [show (upd (upd (upd (upd u1 3 (nI (A1 + 1))) 5 ((g 19 (A1 + 1)) - 48)) 3 (nI (A1 + 1 + 1))) 3 (nI (A1 + 1 + 1 + 1))) 4 = u1 4 from ((zu_n _ _ (by omega)).trans ((zu_n _ _ (by omega)).trans ((zu_n _ _ (by omega)).trans (zu_n _ _ (by omega)))))]
          rw [k14]
          refine lv_if_eq (tgt := 80) hx hb dX6_reads_69 (by decide) (fun c16 => ?_) (fun c16 => ?_)
          · refine lv_bipush (v := 48) hx hb dX6_reads_80 (by decide) ?_
            refine lv_goto (tgt := 87) hx hb dX6_reads_82 (by decide) ?_
            have eLo : fLo W1 = 0 := by rw [fLo, if_pos c16]
            refine lv_bipush (v := 57) hx hb dX6_reads_87 (by decide) ?_
            refine z_callVi X hH (c_X6_isDigit l D k a g v (upd (upd (upd (upd u1 3 (nI (A1 + 1))) 5 ((g 19 (A1 + 1)) - 48)) 3 (nI (A1 + 1 + 1))) 3 (nI (A1 + 1 + 1 + 1))) L (A1 + 1 + 1 + 1) hL (by omega) (((zu_n _ _ (by omega)).trans ((zu_n _ _ (by omega)).trans ((zu_n _ _ (by omega)).trans (zu_n _ _ (by omega))))).trans e21) (zu_s _ _ _) 48 57) k_X6_119 (rv_X6 X hH) [] rfl rfl hl.1 (Nat.le_of_ble_eq_true rfl) ⟨Nat.le_of_ble_eq_true rfl, Nat.le_of_ble_eq_true rfl⟩ ⟨Nat.le_refl _, Nat.le_refl _⟩ dX6_reads_89 (fun r17 g18 H locs h19 hH => ?_)
            by_cases c20 : A1 + 1 + 1 + 1 < L ∧ ¬ g 19 (A1 + 1 + 1 + 1) < 48 ∧ ¬ 57 < g 19 (A1 + 1 + 1 + 1)
            · rw [h19.2] at hH
              rw [h19.1, if_pos c20]
              have c20l := c20.1
              refine lv_if_ne (tgt := 97) hx hb dX6_reads_92 (by decide) (fun _ => ?_) (fun q => absurd q (by decide))
              refine lv_aload_n hx hb dX6_reads_97 rfl (lv_at hl 0 rfl) ?_
              refine lv_aload_n hx hb dX6_reads_98 rfl (lv_at hl 0 rfl) ?_
              refine gf_X6_text X hH q_579 dX6_reads_99 ?_
              refine lv_aload_n hx hb dX6_reads_102 rfl (lv_at hl 0 rfl) ?_
              refine gm_X6_at X hH q_581 dX6_reads_103 ?_
              rw [show (upd (upd (upd (upd u1 3 (nI (A1 + 1))) 5 ((g 19 (A1 + 1)) - 48)) 3 (nI (A1 + 1 + 1))) 3 (nI (A1 + 1 + 1 + 1))) 3 = nI (A1 + 1 + 1 + 1) from (zu_s _ _ _)]
              refine ar_text X hH (A1 + 1 + 1 + 1) (by omega) dX6_reads_106 ?_
              rw [show (zM g 0 v (upd (upd (upd (upd u1 3 (nI (A1 + 1))) 5 ((g 19 (A1 + 1)) - 48)) 3 (nI (A1 + 1 + 1))) 3 (nI (A1 + 1 + 1 + 1)))) 19 (A1 + 1 + 1 + 1) = (g) 19 (A1 + 1 + 1 + 1) from congrFun (zM_o _ _ _ (by decide) (by decide)) _]
              refine lv_bipush (v := 48) hx hb dX6_reads_107 (by decide) ?_
              refine lv_isub hx hb dX6_reads_109 ?_
              refine pm_X6_number X hH q_584 dX6_reads_110 (fun H locs hH => ?_)
              refine lv_aload_n hx hb dX6_reads_113 rfl (lv_at hl 0 rfl) ?_
              refine lv_dup hx hb dX6_reads_114 rfl ?_
              refine gm_X6_at X hH q_581 dX6_reads_115 ?_
              rw [show (upd (upd (upd (upd (upd u1 3 (nI (A1 + 1))) 5 ((g 19 (A1 + 1)) - 48)) 3 (nI (A1 + 1 + 1))) 3 (nI (A1 + 1 + 1 + 1))) 6 ((g 19 (A1 + 1 + 1 + 1)) - 48)) 3 = nI (A1 + 1 + 1 + 1) from ((zu_n _ _ (by omega)).trans (zu_s _ _ _))]
              refine lv_iconst (v := 1) hx hb dX6_reads_118 (by decide) ?_
              refine n_iadd (A := A1 + 1 + 1 + 1) (B := 1) hx hb (A1 + 1 + 1 + 1 + 1) (by omega) dX6_reads_119 ?_
              refine pm_X6_at X hH q_581 dX6_reads_120 (fun H locs hH => ?_)
              have hd2 := fDg_y (x := g 19) (L := L) (lo := fLo W1) (hi := 9999) (b := 48) (t := 57) (by rw [eLo]; decide) (by rw [eLo]; decide) (Or.inr (by decide)) (by decide) c20
              obtain ⟨NM, eN⟩ : ∃ NM, NM = fNumL (g 19) L 9999 (L - (A1 + 1 + 1 + 1 + 1)) (A1 + 1 + 1 + 1 + 1) (g 19 (A1 + 1 + 1 + 1) - 48) := ⟨_, rfl⟩
              have hp0 : ¬ g 19 (A1 + 1 + 1 + 1) - 48 < 0 := by have q9 := hd2.2.1; rw [hd2.1, eLo] at q9; exact q9
              have hline : fLine (g 19) L A = (true, NM.2, W1, g 19 (A1 + 1) - 48, NM.1) := by
                have hn2 : fNum (g 19) L (A1 + 1 + 1) (fLo W1) 9999 = NM := by rw [fNum_y c15 hd2.2.1 hd2.2.2, hd2.1]; exact eN.symm
                have hN9 : ¬ NM.1 = -1 := by rw [eN]; exact z_m1 (fNumL_9 _ _ _ hp0 (by have q9 := hd2.2.2; rw [hd2.1] at q9; exact q9)).1
                unfold fLine; rw [← eW, ← eA, if_neg hw, hn1]; dsimp only; rw [if_neg hT, hn2, if_neg hN9]
              have Lp : ∀ (jx A2 : Nat) (d : Int32) (u2 : V), A2 + jx = L → fNumL (g 19) L 9999 (L - A2) A2 d = NM → (∀ j, j < 3 ∨ 6 < j → u2 j = u j) → u2 3 = nI A2 → u2 4 = W1 → u2 5 = g 19 (A1 + 1) - 48 → u2 6 = d → ∀ (H : Heap) (locs : List Loc) (ls : Array Slot), zH D k a s (zM g 0 v u2) H locs → lv_has ls 1 [(0, .ref (a 6 8))] → W p l e (zRoom 3 64) s m args below meth c H locs 0 0 Q (F0 m 123 ls []) := by
                intro jx
                induction jx with
                | zero =>
                  intro A2 d u2 hjx hN hu2 k23 k24 k25 k26 H locs ls hH hl
                  refine lv_aload_n hx hb dX6_reads_123 rfl (lv_at hl 0 rfl) ?_
                  refine gm_X6_number X hH q_584 dX6_reads_124 ?_
                  rw [k26]
                  refine i_if_le (tgt := 204) hx hb dX6_reads_127 (by decide) (fun c21 => ?_) (fun c21 => ?_)
                  · refine lv_iconst (v := 1) hx hb dX6_reads_204 (by decide) ?_
                    exact hret _ _ _ _ _ _ rfl ⟨by rw [hline]; rfl, _, rfl, hu2, by rw [hline, ← hN, fNumL_z c21]; exact k23, fun _ => by rw [hline, ← hN, fNumL_z c21]; exact ⟨k24, k25, k26⟩⟩ hH dX6_reads_205
                  · refine lv_aload_n hx hb dX6_reads_130 rfl (lv_at hl 0 rfl) ?_
                    refine lv_bipush (v := 48) hx hb dX6_reads_131 (by decide) ?_
                    refine lv_bipush (v := 57) hx hb dX6_reads_133 (by decide) ?_
                    refine z_callVi X hH (c_X6_isDigit l D k a g v u2 L (A2) hL (by omega) ((hu2 2 (by omega)).trans e2) k23 48 57) k_X6_119 (rv_X6 X hH) [] rfl rfl hl.1 (Nat.le_of_ble_eq_true rfl) ⟨Nat.le_of_ble_eq_true rfl, Nat.le_of_ble_eq_true rfl⟩ ⟨Nat.le_refl _, Nat.le_refl _⟩ dX6_reads_135 (fun r22 g23 H locs h24 hH => ?_)
                    by_cases c25 : A2 < L ∧ ¬ g 19 A2 < 48 ∧ ¬ 57 < g 19 A2
                    · rw [h24.2] at hH
                      rw [h24.1, if_pos c25]
                      have c25l := c25.1
                      refine lv_if_eq (tgt := 204) hx hb dX6_reads_138 (by decide) (fun q => absurd q (by decide)) (fun _ => ?_)
                      refine lv_bipush (v := 10) hx hb dX6_reads_141 (by decide) ?_
                      refine lv_aload_n hx hb dX6_reads_143 rfl (lv_at hl 0 rfl) ?_
                      refine gm_X6_number X hH q_584 dX6_reads_144 ?_
                      rw [k26]
                      refine lv_imul hx hb dX6_reads_147 ?_
                      refine lv_aload_n hx hb dX6_reads_148 rfl (lv_at hl 0 rfl) ?_
                      refine gf_X6_text X hH q_579 dX6_reads_149 ?_
                      refine lv_aload_n hx hb dX6_reads_152 rfl (lv_at hl 0 rfl) ?_
                      refine gm_X6_at X hH q_581 dX6_reads_153 ?_
                      rw [k23]
                      refine ar_text X hH (A2) (by omega) dX6_reads_156 ?_
                      rw [show (zM g 0 v u2) 19 A2 = (g) 19 A2 from congrFun (zM_o _ _ _ (by decide) (by decide)) _]
                      refine lv_iadd hx hb dX6_reads_157 ?_
                      refine lv_bipush (v := 48) hx hb dX6_reads_158 (by decide) ?_
                      refine lv_isub hx hb dX6_reads_160 ?_
                      refine lv_sipush (v := 9999) hx hb dX6_reads_161 (by decide) ?_
                      refine i_icmp_gt (tgt := 204) hx hb dX6_reads_164 (by decide) (fun c26 => ?_) (fun c26 => ?_)
                      · refine lv_iconst (v := 1) hx hb dX6_reads_204 (by decide) ?_
                        exact hret _ _ _ _ _ _ rfl ⟨by rw [hline]; rfl, _, rfl, hu2, by rw [hline, ← hN, fNumL_g c25.1 c25.2.1 c25.2.2 c26]; exact k23, fun _ => by rw [hline, ← hN, fNumL_g c25.1 c25.2.1 c25.2.2 c26]; exact ⟨k24, k25, k26⟩⟩ hH dX6_reads_205
                      · refine lv_aload_n hx hb dX6_reads_167 rfl (lv_at hl 0 rfl) ?_
                        refine lv_bipush (v := 10) hx hb dX6_reads_168 (by decide) ?_
                        refine lv_aload_n hx hb dX6_reads_170 rfl (lv_at hl 0 rfl) ?_
                        refine gm_X6_number X hH q_584 dX6_reads_171 ?_
                        rw [k26]
                        refine lv_imul hx hb dX6_reads_174 ?_
                        refine lv_aload_n hx hb dX6_reads_175 rfl (lv_at hl 0 rfl) ?_
                        refine gf_X6_text X hH q_579 dX6_reads_176 ?_
                        refine lv_aload_n hx hb dX6_reads_179 rfl (lv_at hl 0 rfl) ?_
                        refine gm_X6_at X hH q_581 dX6_reads_180 ?_
                        rw [k23]
                        refine ar_text X hH (A2) (by omega) dX6_reads_183 ?_
                        rw [show (zM g 0 v u2) 19 A2 = (g) 19 A2 from congrFun (zM_o _ _ _ (by decide) (by decide)) _]
                        refine lv_iadd hx hb dX6_reads_184 ?_
                        refine lv_bipush (v := 48) hx hb dX6_reads_185 (by decide) ?_
                        refine lv_isub hx hb dX6_reads_187 ?_
                        refine pm_X6_number X hH q_584 dX6_reads_188 (fun H locs hH => ?_)
                        refine lv_aload_n hx hb dX6_reads_191 rfl (lv_at hl 0 rfl) ?_
                        refine lv_dup hx hb dX6_reads_192 rfl ?_
                        refine gm_X6_at X hH q_581 dX6_reads_193 ?_
                        rw [show (upd u2 6 (((10 * d) + (g 19 A2)) - 48)) 3 = u2 3 from (zu_n _ _ (by omega))]
                        rw [k23]
                        refine lv_iconst (v := 1) hx hb dX6_reads_196 (by decide) ?_
                        refine n_iadd (A := A2) (B := 1) hx hb (A2 + 1) (by omega) dX6_reads_197 ?_
                        refine pm_X6_at X hH q_581 dX6_reads_198 (fun H locs hH => ?_)
                        refine lv_goto (tgt := 123) hx hb dX6_reads_201 (by decide) ?_
                        omega
                    · rw [h24.2] at hH
                      rw [h24.1, if_neg c25]
                      refine lv_if_eq (tgt := 204) hx hb dX6_reads_138 (by decide) (fun _ => ?_) (fun q => absurd (by decide) q)
                      refine lv_iconst (v := 1) hx hb dX6_reads_204 (by decide) ?_
                      exact hret _ _ _ _ _ _ rfl ⟨by rw [hline]; rfl, _, rfl, hu2, by rw [hline, ← hN, fNumL_d c25]; exact k23, fun _ => by rw [hline, ← hN, fNumL_d c25]; exact ⟨k24, k25, k26⟩⟩ hH dX6_reads_205
                | succ jx ih =>
                  intro A2 d u2 hjx hN hu2 k23 k24 k25 k26 H locs ls hH hl
                  refine lv_aload_n hx hb dX6_reads_123 rfl (lv_at hl 0 rfl) ?_
                  refine gm_X6_number X hH q_584 dX6_reads_124 ?_
                  rw [k26]
                  refine i_if_le (tgt := 204) hx hb dX6_reads_127 (by decide) (fun c27 => ?_) (fun c27 => ?_)
                  · refine lv_iconst (v := 1) hx hb dX6_reads_204 (by decide) ?_
                    exact hret _ _ _ _ _ _ rfl ⟨by rw [hline]; rfl, _, rfl, hu2, by rw [hline, ← hN, fNumL_z c27]; exact k23, fun _ => by rw [hline, ← hN, fNumL_z c27]; exact ⟨k24, k25, k26⟩⟩ hH dX6_reads_205
                  · refine lv_aload_n hx hb dX6_reads_130 rfl (lv_at hl 0 rfl) ?_
                    refine lv_bipush (v := 48) hx hb dX6_reads_131 (by decide) ?_
                    refine lv_bipush (v := 57) hx hb dX6_reads_133 (by decide) ?_
                    refine z_callVi X hH (c_X6_isDigit l D k a g v u2 L (A2) hL (by omega) ((hu2 2 (by omega)).trans e2) k23 48 57) k_X6_119 (rv_X6 X hH) [] rfl rfl hl.1 (Nat.le_of_ble_eq_true rfl) ⟨Nat.le_of_ble_eq_true rfl, Nat.le_of_ble_eq_true rfl⟩ ⟨Nat.le_refl _, Nat.le_refl _⟩ dX6_reads_135 (fun r28 g29 H locs h30 hH => ?_)
                    by_cases c31 : A2 < L ∧ ¬ g 19 A2 < 48 ∧ ¬ 57 < g 19 A2
                    · rw [h30.2] at hH
                      rw [h30.1, if_pos c31]
                      have c31l := c31.1
                      refine lv_if_eq (tgt := 204) hx hb dX6_reads_138 (by decide) (fun q => absurd q (by decide)) (fun _ => ?_)
                      refine lv_bipush (v := 10) hx hb dX6_reads_141 (by decide) ?_
                      refine lv_aload_n hx hb dX6_reads_143 rfl (lv_at hl 0 rfl) ?_
                      refine gm_X6_number X hH q_584 dX6_reads_144 ?_
                      rw [k26]
                      refine lv_imul hx hb dX6_reads_147 ?_
                      refine lv_aload_n hx hb dX6_reads_148 rfl (lv_at hl 0 rfl) ?_
                      refine gf_X6_text X hH q_579 dX6_reads_149 ?_
                      refine lv_aload_n hx hb dX6_reads_152 rfl (lv_at hl 0 rfl) ?_
                      refine gm_X6_at X hH q_581 dX6_reads_153 ?_
                      rw [k23]
                      refine ar_text X hH (A2) (by omega) dX6_reads_156 ?_
                      rw [show (zM g 0 v u2) 19 A2 = (g) 19 A2 from congrFun (zM_o _ _ _ (by decide) (by decide)) _]
                      refine lv_iadd hx hb dX6_reads_157 ?_
                      refine lv_bipush (v := 48) hx hb dX6_reads_158 (by decide) ?_
                      refine lv_isub hx hb dX6_reads_160 ?_
                      refine lv_sipush (v := 9999) hx hb dX6_reads_161 (by decide) ?_
                      refine i_icmp_gt (tgt := 204) hx hb dX6_reads_164 (by decide) (fun c32 => ?_) (fun c32 => ?_)
                      · refine lv_iconst (v := 1) hx hb dX6_reads_204 (by decide) ?_
                        exact hret _ _ _ _ _ _ rfl ⟨by rw [hline]; rfl, _, rfl, hu2, by rw [hline, ← hN, fNumL_g c31.1 c31.2.1 c31.2.2 c32]; exact k23, fun _ => by rw [hline, ← hN, fNumL_g c31.1 c31.2.1 c31.2.2 c32]; exact ⟨k24, k25, k26⟩⟩ hH dX6_reads_205
                      · refine lv_aload_n hx hb dX6_reads_167 rfl (lv_at hl 0 rfl) ?_
                        refine lv_bipush (v := 10) hx hb dX6_reads_168 (by decide) ?_
                        refine lv_aload_n hx hb dX6_reads_170 rfl (lv_at hl 0 rfl) ?_
                        refine gm_X6_number X hH q_584 dX6_reads_171 ?_
                        rw [k26]
                        refine lv_imul hx hb dX6_reads_174 ?_
                        refine lv_aload_n hx hb dX6_reads_175 rfl (lv_at hl 0 rfl) ?_
                        refine gf_X6_text X hH q_579 dX6_reads_176 ?_
                        refine lv_aload_n hx hb dX6_reads_179 rfl (lv_at hl 0 rfl) ?_
                        refine gm_X6_at X hH q_581 dX6_reads_180 ?_
                        rw [k23]
                        refine ar_text X hH (A2) (by omega) dX6_reads_183 ?_
                        rw [show (zM g 0 v u2) 19 A2 = (g) 19 A2 from congrFun (zM_o _ _ _ (by decide) (by decide)) _]
                        refine lv_iadd hx hb dX6_reads_184 ?_
                        refine lv_bipush (v := 48) hx hb dX6_reads_185 (by decide) ?_
                        refine lv_isub hx hb dX6_reads_187 ?_
                        refine pm_X6_number X hH q_584 dX6_reads_188 (fun H locs hH => ?_)
                        refine lv_aload_n hx hb dX6_reads_191 rfl (lv_at hl 0 rfl) ?_
                        refine lv_dup hx hb dX6_reads_192 rfl ?_
                        refine gm_X6_at X hH q_581 dX6_reads_193 ?_
                        rw [show (upd u2 6 (((10 * d) + (g 19 A2)) - 48)) 3 = u2 3 from (zu_n _ _ (by omega))]
                        rw [k23]
                        refine lv_iconst (v := 1) hx hb dX6_reads_196 (by decide) ?_
                        refine n_iadd (A := A2) (B := 1) hx hb (A2 + 1) (by omega) dX6_reads_197 ?_
                        refine pm_X6_at X hH q_581 dX6_reads_198 (fun H locs hH => ?_)
                        refine lv_goto (tgt := 123) hx hb dX6_reads_201 (by decide) ?_
                        exact ih (A2 + 1) _ _ (by omega) (by rw [← fNumL_s c27 c31.1 c31.2.1 c31.2.2 c32]; exact hN) (fun j hj => ((zu_n _ _ (by omega)).trans (zu_n _ _ (by omega))).trans (hu2 j hj)) (zu_s _ _ _) (((zu_n _ _ (by omega)).trans (zu_n _ _ (by omega))).trans k24) (((zu_n _ _ (by omega)).trans (zu_n _ _ (by omega))).trans k25) ((zu_n _ _ (by omega)).trans (zu_s _ _ _)) _ _ _ hH (lv_sub hl [0] rfl)
                    · rw [h30.2] at hH
                      rw [h30.1, if_neg c31]
                      refine lv_if_eq (tgt := 204) hx hb dX6_reads_138 (by decide) (fun _ => ?_) (fun q => absurd (by decide) q)
                      refine lv_iconst (v := 1) hx hb dX6_reads_204 (by decide) ?_
                      exact hret _ _ _ _ _ _ rfl ⟨by rw [hline]; rfl, _, rfl, hu2, by rw [hline, ← hN, fNumL_d c31]; exact k23, fun _ => by rw [hline, ← hN, fNumL_d c31]; exact ⟨k24, k25, k26⟩⟩ hH dX6_reads_205
              exact Lp (L - (A1 + 1 + 1 + 1 + 1)) (A1 + 1 + 1 + 1 + 1) _ _ (by omega) eN.symm (fun j hj => ((zu_n _ _ (by omega)).trans ((zu_n _ _ (by omega)).trans ((zu_n _ _ (by omega)).trans ((zu_n _ _ (by omega)).trans ((zu_n _ _ (by omega)).trans (zu_n _ _ (by omega))))))).trans (hu1 j (by omega) (by omega))) (zu_s _ _ _) (((zu_n _ _ (by omega)).trans ((zu_n _ _ (by omega)).trans ((zu_n _ _ (by omega)).trans ((zu_n _ _ (by omega)).trans ((zu_n _ _ (by omega)).trans (zu_n _ _ (by omega))))))).trans k14) ((zu_n _ _ (by omega)).trans ((zu_n _ _ (by omega)).trans ((zu_n _ _ (by omega)).trans ((zu_n _ _ (by omega)).trans (zu_s _ _ _))))) ((zu_n _ _ (by omega)).trans (zu_s _ _ _)) _ _ _ hH (lv_sub hl [0] rfl)
            · rw [h19.2] at hH
              rw [h19.1, if_neg c20]
              refine lv_if_ne (tgt := 97) hx hb dX6_reads_92 (by decide) (fun q => absurd rfl q) (fun _ => ?_)
              refine lv_iconst (v := 0) hx hb dX6_reads_95 (by decide) ?_
              exact hret _ _ _ _ _ _ rfl ⟨by rw [(show fLine (g 19) L A = (false, A1 + 1 + 1 + 1, 0, 0, 0) from by unfold fLine; rw [← eW, ← eA, if_neg hw, hn1]; dsimp only; rw [if_neg hT, fNum_n c15 (fDg_n (b := 48) (t := 57) (by rw [eLo]; decide) (by rw [eLo]; decide) (Or.inr (by decide)) (by decide) c20)]; rfl)]; rfl, _, rfl, (fun j hj => ((zu_n _ _ (by omega)).trans ((zu_n _ _ (by omega)).trans ((zu_n _ _ (by omega)).trans (zu_n _ _ (by omega))))).trans (hu1 j (by omega) (by omega))), by rw [(show fLine (g 19) L A = (false, A1 + 1 + 1 + 1, 0, 0, 0) from by unfold fLine; rw [← eW, ← eA, if_neg hw, hn1]; dsimp only; rw [if_neg hT, fNum_n c15 (fDg_n (b := 48) (t := 57) (by rw [eLo]; decide) (by rw [eLo]; decide) (Or.inr (by decide)) (by decide) c20)]; rfl)]; exact (zu_s _ _ _), by rw [(show fLine (g 19) L A = (false, A1 + 1 + 1 + 1, 0, 0, 0) from by unfold fLine; rw [← eW, ← eA, if_neg hw, hn1]; dsimp only; rw [if_neg hT, fNum_n c15 (fDg_n (b := 48) (t := 57) (by rw [eLo]; decide) (by rw [eLo]; decide) (Or.inr (by decide)) (by decide) c20)]; rfl)]; exact fun q => absurd q Bool.false_ne_true⟩ hH dX6_reads_96
          · refine lv_aload_n hx hb dX6_reads_72 rfl (lv_at hl 0 rfl) ?_
            refine gm_X6_order X hH q_582 dX6_reads_73 ?_
            rw [show (upd (upd (upd (upd u1 3 (nI (A1 + 1))) 5 ((g 19 (A1 + 1)) - 48)) 3 (nI (A1 + 1 + 1))) 3 (nI (A1 + 1 + 1 + 1))) 4 = u1 4 from ((zu_n _ _ (by omega)).trans ((zu_n _ _ (by omega)).trans ((zu_n _ _ (by omega)).trans (zu_n _ _ (by omega)))))]
            rw [k14]
            refine lv_iconst (v := 3) hx hb dX6_reads_76 (by decide) ?_
            refine lv_icmp_ne (tgt := 85) hx hb dX6_reads_77 (by decide) (fun c33 => ?_) (fun c33 => ?_)
            · refine lv_bipush (v := 49) hx hb dX6_reads_85 (by decide) ?_
              have eLo : fLo W1 = 1 := by rw [fLo, if_neg c16, if_neg c33]
              refine lv_bipush (v := 57) hx hb dX6_reads_87 (by decide) ?_
              refine z_callVi X hH (c_X6_isDigit l D k a g v (upd (upd (upd (upd u1 3 (nI (A1 + 1))) 5 ((g 19 (A1 + 1)) - 48)) 3 (nI (A1 + 1 + 1))) 3 (nI (A1 + 1 + 1 + 1))) L (A1 + 1 + 1 + 1) hL (by omega) (((zu_n _ _ (by omega)).trans ((zu_n _ _ (by omega)).trans ((zu_n _ _ (by omega)).trans (zu_n _ _ (by omega))))).trans e21) (zu_s _ _ _) 49 57) k_X6_119 (rv_X6 X hH) [] rfl rfl hl.1 (Nat.le_of_ble_eq_true rfl) ⟨Nat.le_of_ble_eq_true rfl, Nat.le_of_ble_eq_true rfl⟩ ⟨Nat.le_refl _, Nat.le_refl _⟩ dX6_reads_89 (fun r34 g35 H locs h36 hH => ?_)
              by_cases c37 : A1 + 1 + 1 + 1 < L ∧ ¬ g 19 (A1 + 1 + 1 + 1) < 49 ∧ ¬ 57 < g 19 (A1 + 1 + 1 + 1)
              · rw [h36.2] at hH
                rw [h36.1, if_pos c37]
                have c37l := c37.1
                refine lv_if_ne (tgt := 97) hx hb dX6_reads_92 (by decide) (fun _ => ?_) (fun q => absurd q (by decide))
                refine lv_aload_n hx hb dX6_reads_97 rfl (lv_at hl 0 rfl) ?_
                refine lv_aload_n hx hb dX6_reads_98 rfl (lv_at hl 0 rfl) ?_
                refine gf_X6_text X hH q_579 dX6_reads_99 ?_
                refine lv_aload_n hx hb dX6_reads_102 rfl (lv_at hl 0 rfl) ?_
                refine gm_X6_at X hH q_581 dX6_reads_103 ?_
                rw [show (upd (upd (upd (upd u1 3 (nI (A1 + 1))) 5 ((g 19 (A1 + 1)) - 48)) 3 (nI (A1 + 1 + 1))) 3 (nI (A1 + 1 + 1 + 1))) 3 = nI (A1 + 1 + 1 + 1) from (zu_s _ _ _)]
                refine ar_text X hH (A1 + 1 + 1 + 1) (by omega) dX6_reads_106 ?_
                rw [show (zM g 0 v (upd (upd (upd (upd u1 3 (nI (A1 + 1))) 5 ((g 19 (A1 + 1)) - 48)) 3 (nI (A1 + 1 + 1))) 3 (nI (A1 + 1 + 1 + 1)))) 19 (A1 + 1 + 1 + 1) = (g) 19 (A1 + 1 + 1 + 1) from congrFun (zM_o _ _ _ (by decide) (by decide)) _]
                refine lv_bipush (v := 48) hx hb dX6_reads_107 (by decide) ?_
                refine lv_isub hx hb dX6_reads_109 ?_
                refine pm_X6_number X hH q_584 dX6_reads_110 (fun H locs hH => ?_)
                refine lv_aload_n hx hb dX6_reads_113 rfl (lv_at hl 0 rfl) ?_
                refine lv_dup hx hb dX6_reads_114 rfl ?_
                refine gm_X6_at X hH q_581 dX6_reads_115 ?_
                rw [show (upd (upd (upd (upd (upd u1 3 (nI (A1 + 1))) 5 ((g 19 (A1 + 1)) - 48)) 3 (nI (A1 + 1 + 1))) 3 (nI (A1 + 1 + 1 + 1))) 6 ((g 19 (A1 + 1 + 1 + 1)) - 48)) 3 = nI (A1 + 1 + 1 + 1) from ((zu_n _ _ (by omega)).trans (zu_s _ _ _))]
                refine lv_iconst (v := 1) hx hb dX6_reads_118 (by decide) ?_
                refine n_iadd (A := A1 + 1 + 1 + 1) (B := 1) hx hb (A1 + 1 + 1 + 1 + 1) (by omega) dX6_reads_119 ?_
                refine pm_X6_at X hH q_581 dX6_reads_120 (fun H locs hH => ?_)
                have hd2 := fDg_y (x := g 19) (L := L) (lo := fLo W1) (hi := 9999) (b := 49) (t := 57) (by rw [eLo]; decide) (by rw [eLo]; decide) (Or.inr (by decide)) (by decide) c37
                obtain ⟨NM, eN⟩ : ∃ NM, NM = fNumL (g 19) L 9999 (L - (A1 + 1 + 1 + 1 + 1)) (A1 + 1 + 1 + 1 + 1) (g 19 (A1 + 1 + 1 + 1) - 48) := ⟨_, rfl⟩
                have hp0 : ¬ g 19 (A1 + 1 + 1 + 1) - 48 < 0 := by have q9 := hd2.2.1; rw [hd2.1, eLo] at q9; exact z01 (Or.inr rfl) q9
                have hline : fLine (g 19) L A = (true, NM.2, W1, g 19 (A1 + 1) - 48, NM.1) := by
                  have hn2 : fNum (g 19) L (A1 + 1 + 1) (fLo W1) 9999 = NM := by rw [fNum_y c15 hd2.2.1 hd2.2.2, hd2.1]; exact eN.symm
                  have hN9 : ¬ NM.1 = -1 := by rw [eN]; exact z_m1 (fNumL_9 _ _ _ hp0 (by have q9 := hd2.2.2; rw [hd2.1] at q9; exact q9)).1
                  unfold fLine; rw [← eW, ← eA, if_neg hw, hn1]; dsimp only; rw [if_neg hT, hn2, if_neg hN9]
                have Lp : ∀ (jx A2 : Nat) (d : Int32) (u2 : V), A2 + jx = L → fNumL (g 19) L 9999 (L - A2) A2 d = NM → (∀ j, j < 3 ∨ 6 < j → u2 j = u j) → u2 3 = nI A2 → u2 4 = W1 → u2 5 = g 19 (A1 + 1) - 48 → u2 6 = d → ∀ (H : Heap) (locs : List Loc) (ls : Array Slot), zH D k a s (zM g 0 v u2) H locs → lv_has ls 1 [(0, .ref (a 6 8))] → W p l e (zRoom 3 64) s m args below meth c H locs 0 0 Q (F0 m 123 ls []) := by
                  intro jx
                  induction jx with
                  | zero =>
                    intro A2 d u2 hjx hN hu2 k23 k24 k25 k26 H locs ls hH hl
                    refine lv_aload_n hx hb dX6_reads_123 rfl (lv_at hl 0 rfl) ?_
                    refine gm_X6_number X hH q_584 dX6_reads_124 ?_
                    rw [k26]
                    refine i_if_le (tgt := 204) hx hb dX6_reads_127 (by decide) (fun c38 => ?_) (fun c38 => ?_)
                    · refine lv_iconst (v := 1) hx hb dX6_reads_204 (by decide) ?_
                      exact hret _ _ _ _ _ _ rfl ⟨by rw [hline]; rfl, _, rfl, hu2, by rw [hline, ← hN, fNumL_z c38]; exact k23, fun _ => by rw [hline, ← hN, fNumL_z c38]; exact ⟨k24, k25, k26⟩⟩ hH dX6_reads_205
                    · refine lv_aload_n hx hb dX6_reads_130 rfl (lv_at hl 0 rfl) ?_
                      refine lv_bipush (v := 48) hx hb dX6_reads_131 (by decide) ?_
                      refine lv_bipush (v := 57) hx hb dX6_reads_133 (by decide) ?_
                      refine z_callVi X hH (c_X6_isDigit l D k a g v u2 L (A2) hL (by omega) ((hu2 2 (by omega)).trans e2) k23 48 57) k_X6_119 (rv_X6 X hH) [] rfl rfl hl.1 (Nat.le_of_ble_eq_true rfl) ⟨Nat.le_of_ble_eq_true rfl, Nat.le_of_ble_eq_true rfl⟩ ⟨Nat.le_refl _, Nat.le_refl _⟩ dX6_reads_135 (fun r39 g40 H locs h41 hH => ?_)
                      by_cases c42 : A2 < L ∧ ¬ g 19 A2 < 48 ∧ ¬ 57 < g 19 A2
                      · rw [h41.2] at hH
                        rw [h41.1, if_pos c42]
                        have c42l := c42.1
                        refine lv_if_eq (tgt := 204) hx hb dX6_reads_138 (by decide) (fun q => absurd q (by decide)) (fun _ => ?_)
                        refine lv_bipush (v := 10) hx hb dX6_reads_141 (by decide) ?_
                        refine lv_aload_n hx hb dX6_reads_143 rfl (lv_at hl 0 rfl) ?_
                        refine gm_X6_number X hH q_584 dX6_reads_144 ?_
                        rw [k26]
                        refine lv_imul hx hb dX6_reads_147 ?_
                        refine lv_aload_n hx hb dX6_reads_148 rfl (lv_at hl 0 rfl) ?_
                        refine gf_X6_text X hH q_579 dX6_reads_149 ?_
                        refine lv_aload_n hx hb dX6_reads_152 rfl (lv_at hl 0 rfl) ?_
                        refine gm_X6_at X hH q_581 dX6_reads_153 ?_
                        rw [k23]
                        refine ar_text X hH (A2) (by omega) dX6_reads_156 ?_
                        rw [show (zM g 0 v u2) 19 A2 = (g) 19 A2 from congrFun (zM_o _ _ _ (by decide) (by decide)) _]
                        refine lv_iadd hx hb dX6_reads_157 ?_
                        refine lv_bipush (v := 48) hx hb dX6_reads_158 (by decide) ?_
                        refine lv_isub hx hb dX6_reads_160 ?_
                        refine lv_sipush (v := 9999) hx hb dX6_reads_161 (by decide) ?_
                        refine i_icmp_gt (tgt := 204) hx hb dX6_reads_164 (by decide) (fun c43 => ?_) (fun c43 => ?_)
                        · refine lv_iconst (v := 1) hx hb dX6_reads_204 (by decide) ?_
                          exact hret _ _ _ _ _ _ rfl ⟨by rw [hline]; rfl, _, rfl, hu2, by rw [hline, ← hN, fNumL_g c42.1 c42.2.1 c42.2.2 c43]; exact k23, fun _ => by rw [hline, ← hN, fNumL_g c42.1 c42.2.1 c42.2.2 c43]; exact ⟨k24, k25, k26⟩⟩ hH dX6_reads_205
                        · refine lv_aload_n hx hb dX6_reads_167 rfl (lv_at hl 0 rfl) ?_
                          refine lv_bipush (v := 10) hx hb dX6_reads_168 (by decide) ?_
                          refine lv_aload_n hx hb dX6_reads_170 rfl (lv_at hl 0 rfl) ?_
                          refine gm_X6_number X hH q_584 dX6_reads_171 ?_
                          rw [k26]
                          refine lv_imul hx hb dX6_reads_174 ?_
                          refine lv_aload_n hx hb dX6_reads_175 rfl (lv_at hl 0 rfl) ?_
                          refine gf_X6_text X hH q_579 dX6_reads_176 ?_
                          refine lv_aload_n hx hb dX6_reads_179 rfl (lv_at hl 0 rfl) ?_
                          refine gm_X6_at X hH q_581 dX6_reads_180 ?_
                          rw [k23]
                          refine ar_text X hH (A2) (by omega) dX6_reads_183 ?_
                          rw [show (zM g 0 v u2) 19 A2 = (g) 19 A2 from congrFun (zM_o _ _ _ (by decide) (by decide)) _]
                          refine lv_iadd hx hb dX6_reads_184 ?_
                          refine lv_bipush (v := 48) hx hb dX6_reads_185 (by decide) ?_
                          refine lv_isub hx hb dX6_reads_187 ?_
                          refine pm_X6_number X hH q_584 dX6_reads_188 (fun H locs hH => ?_)
                          refine lv_aload_n hx hb dX6_reads_191 rfl (lv_at hl 0 rfl) ?_
                          refine lv_dup hx hb dX6_reads_192 rfl ?_
                          refine gm_X6_at X hH q_581 dX6_reads_193 ?_
                          rw [show (upd u2 6 (((10 * d) + (g 19 A2)) - 48)) 3 = u2 3 from (zu_n _ _ (by omega))]
                          rw [k23]
                          refine lv_iconst (v := 1) hx hb dX6_reads_196 (by decide) ?_
                          refine n_iadd (A := A2) (B := 1) hx hb (A2 + 1) (by omega) dX6_reads_197 ?_
                          refine pm_X6_at X hH q_581 dX6_reads_198 (fun H locs hH => ?_)
                          refine lv_goto (tgt := 123) hx hb dX6_reads_201 (by decide) ?_
                          omega
                      · rw [h41.2] at hH
                        rw [h41.1, if_neg c42]
                        refine lv_if_eq (tgt := 204) hx hb dX6_reads_138 (by decide) (fun _ => ?_) (fun q => absurd (by decide) q)
                        refine lv_iconst (v := 1) hx hb dX6_reads_204 (by decide) ?_
                        exact hret _ _ _ _ _ _ rfl ⟨by rw [hline]; rfl, _, rfl, hu2, by rw [hline, ← hN, fNumL_d c42]; exact k23, fun _ => by rw [hline, ← hN, fNumL_d c42]; exact ⟨k24, k25, k26⟩⟩ hH dX6_reads_205
                  | succ jx ih =>
                    intro A2 d u2 hjx hN hu2 k23 k24 k25 k26 H locs ls hH hl
                    refine lv_aload_n hx hb dX6_reads_123 rfl (lv_at hl 0 rfl) ?_
                    refine gm_X6_number X hH q_584 dX6_reads_124 ?_
                    rw [k26]
                    refine i_if_le (tgt := 204) hx hb dX6_reads_127 (by decide) (fun c44 => ?_) (fun c44 => ?_)
                    · refine lv_iconst (v := 1) hx hb dX6_reads_204 (by decide) ?_
                      exact hret _ _ _ _ _ _ rfl ⟨by rw [hline]; rfl, _, rfl, hu2, by rw [hline, ← hN, fNumL_z c44]; exact k23, fun _ => by rw [hline, ← hN, fNumL_z c44]; exact ⟨k24, k25, k26⟩⟩ hH dX6_reads_205
                    · refine lv_aload_n hx hb dX6_reads_130 rfl (lv_at hl 0 rfl) ?_
                      refine lv_bipush (v := 48) hx hb dX6_reads_131 (by decide) ?_
                      refine lv_bipush (v := 57) hx hb dX6_reads_133 (by decide) ?_
                      refine z_callVi X hH (c_X6_isDigit l D k a g v u2 L (A2) hL (by omega) ((hu2 2 (by omega)).trans e2) k23 48 57) k_X6_119 (rv_X6 X hH) [] rfl rfl hl.1 (Nat.le_of_ble_eq_true rfl) ⟨Nat.le_of_ble_eq_true rfl, Nat.le_of_ble_eq_true rfl⟩ ⟨Nat.le_refl _, Nat.le_refl _⟩ dX6_reads_135 (fun r45 g46 H locs h47 hH => ?_)
                      by_cases c48 : A2 < L ∧ ¬ g 19 A2 < 48 ∧ ¬ 57 < g 19 A2
                      · rw [h47.2] at hH
                        rw [h47.1, if_pos c48]
                        have c48l := c48.1
                        refine lv_if_eq (tgt := 204) hx hb dX6_reads_138 (by decide) (fun q => absurd q (by decide)) (fun _ => ?_)
                        refine lv_bipush (v := 10) hx hb dX6_reads_141 (by decide) ?_
                        refine lv_aload_n hx hb dX6_reads_143 rfl (lv_at hl 0 rfl) ?_
                        refine gm_X6_number X hH q_584 dX6_reads_144 ?_
                        rw [k26]
                        refine lv_imul hx hb dX6_reads_147 ?_
                        refine lv_aload_n hx hb dX6_reads_148 rfl (lv_at hl 0 rfl) ?_
                        refine gf_X6_text X hH q_579 dX6_reads_149 ?_
                        refine lv_aload_n hx hb dX6_reads_152 rfl (lv_at hl 0 rfl) ?_
                        refine gm_X6_at X hH q_581 dX6_reads_153 ?_
                        rw [k23]
                        refine ar_text X hH (A2) (by omega) dX6_reads_156 ?_
                        rw [show (zM g 0 v u2) 19 A2 = (g) 19 A2 from congrFun (zM_o _ _ _ (by decide) (by decide)) _]
                        refine lv_iadd hx hb dX6_reads_157 ?_
                        refine lv_bipush (v := 48) hx hb dX6_reads_158 (by decide) ?_
                        refine lv_isub hx hb dX6_reads_160 ?_
                        refine lv_sipush (v := 9999) hx hb dX6_reads_161 (by decide) ?_
                        refine i_icmp_gt (tgt := 204) hx hb dX6_reads_164 (by decide) (fun c49 => ?_) (fun c49 => ?_)
                        · refine lv_iconst (v := 1) hx hb dX6_reads_204 (by decide) ?_
                          exact hret _ _ _ _ _ _ rfl ⟨by rw [hline]; rfl, _, rfl, hu2, by rw [hline, ← hN, fNumL_g c48.1 c48.2.1 c48.2.2 c49]; exact k23, fun _ => by rw [hline, ← hN, fNumL_g c48.1 c48.2.1 c48.2.2 c49]; exact ⟨k24, k25, k26⟩⟩ hH dX6_reads_205
                        · refine lv_aload_n hx hb dX6_reads_167 rfl (lv_at hl 0 rfl) ?_
                          refine lv_bipush (v := 10) hx hb dX6_reads_168 (by decide) ?_
                          refine lv_aload_n hx hb dX6_reads_170 rfl (lv_at hl 0 rfl) ?_
                          refine gm_X6_number X hH q_584 dX6_reads_171 ?_
                          rw [k26]
                          refine lv_imul hx hb dX6_reads_174 ?_
                          refine lv_aload_n hx hb dX6_reads_175 rfl (lv_at hl 0 rfl) ?_
                          refine gf_X6_text X hH q_579 dX6_reads_176 ?_
                          refine lv_aload_n hx hb dX6_reads_179 rfl (lv_at hl 0 rfl) ?_
                          refine gm_X6_at X hH q_581 dX6_reads_180 ?_
                          rw [k23]
                          refine ar_text X hH (A2) (by omega) dX6_reads_183 ?_
                          rw [show (zM g 0 v u2) 19 A2 = (g) 19 A2 from congrFun (zM_o _ _ _ (by decide) (by decide)) _]
                          refine lv_iadd hx hb dX6_reads_184 ?_
                          refine lv_bipush (v := 48) hx hb dX6_reads_185 (by decide) ?_
                          refine lv_isub hx hb dX6_reads_187 ?_
                          refine pm_X6_number X hH q_584 dX6_reads_188 (fun H locs hH => ?_)
                          refine lv_aload_n hx hb dX6_reads_191 rfl (lv_at hl 0 rfl) ?_
                          refine lv_dup hx hb dX6_reads_192 rfl ?_
                          refine gm_X6_at X hH q_581 dX6_reads_193 ?_
                          rw [show (upd u2 6 (((10 * d) + (g 19 A2)) - 48)) 3 = u2 3 from (zu_n _ _ (by omega))]
                          rw [k23]
                          refine lv_iconst (v := 1) hx hb dX6_reads_196 (by decide) ?_
                          refine n_iadd (A := A2) (B := 1) hx hb (A2 + 1) (by omega) dX6_reads_197 ?_
                          refine pm_X6_at X hH q_581 dX6_reads_198 (fun H locs hH => ?_)
                          refine lv_goto (tgt := 123) hx hb dX6_reads_201 (by decide) ?_
                          exact ih (A2 + 1) _ _ (by omega) (by rw [← fNumL_s c44 c48.1 c48.2.1 c48.2.2 c49]; exact hN) (fun j hj => ((zu_n _ _ (by omega)).trans (zu_n _ _ (by omega))).trans (hu2 j hj)) (zu_s _ _ _) (((zu_n _ _ (by omega)).trans (zu_n _ _ (by omega))).trans k24) (((zu_n _ _ (by omega)).trans (zu_n _ _ (by omega))).trans k25) ((zu_n _ _ (by omega)).trans (zu_s _ _ _)) _ _ _ hH (lv_sub hl [0] rfl)
                      · rw [h47.2] at hH
                        rw [h47.1, if_neg c48]
                        refine lv_if_eq (tgt := 204) hx hb dX6_reads_138 (by decide) (fun _ => ?_) (fun q => absurd (by decide) q)
                        refine lv_iconst (v := 1) hx hb dX6_reads_204 (by decide) ?_
                        exact hret _ _ _ _ _ _ rfl ⟨by rw [hline]; rfl, _, rfl, hu2, by rw [hline, ← hN, fNumL_d c48]; exact k23, fun _ => by rw [hline, ← hN, fNumL_d c48]; exact ⟨k24, k25, k26⟩⟩ hH dX6_reads_205
                exact Lp (L - (A1 + 1 + 1 + 1 + 1)) (A1 + 1 + 1 + 1 + 1) _ _ (by omega) eN.symm (fun j hj => ((zu_n _ _ (by omega)).trans ((zu_n _ _ (by omega)).trans ((zu_n _ _ (by omega)).trans ((zu_n _ _ (by omega)).trans ((zu_n _ _ (by omega)).trans (zu_n _ _ (by omega))))))).trans (hu1 j (by omega) (by omega))) (zu_s _ _ _) (((zu_n _ _ (by omega)).trans ((zu_n _ _ (by omega)).trans ((zu_n _ _ (by omega)).trans ((zu_n _ _ (by omega)).trans ((zu_n _ _ (by omega)).trans (zu_n _ _ (by omega))))))).trans k14) ((zu_n _ _ (by omega)).trans ((zu_n _ _ (by omega)).trans ((zu_n _ _ (by omega)).trans ((zu_n _ _ (by omega)).trans (zu_s _ _ _))))) ((zu_n _ _ (by omega)).trans (zu_s _ _ _)) _ _ _ hH (lv_sub hl [0] rfl)
              · rw [h36.2] at hH
                rw [h36.1, if_neg c37]
                refine lv_if_ne (tgt := 97) hx hb dX6_reads_92 (by decide) (fun q => absurd rfl q) (fun _ => ?_)
                refine lv_iconst (v := 0) hx hb dX6_reads_95 (by decide) ?_
                exact hret _ _ _ _ _ _ rfl ⟨by rw [(show fLine (g 19) L A = (false, A1 + 1 + 1 + 1, 0, 0, 0) from by unfold fLine; rw [← eW, ← eA, if_neg hw, hn1]; dsimp only; rw [if_neg hT, fNum_n c15 (fDg_n (b := 49) (t := 57) (by rw [eLo]; decide) (by rw [eLo]; decide) (Or.inr (by decide)) (by decide) c37)]; rfl)]; rfl, _, rfl, (fun j hj => ((zu_n _ _ (by omega)).trans ((zu_n _ _ (by omega)).trans ((zu_n _ _ (by omega)).trans (zu_n _ _ (by omega))))).trans (hu1 j (by omega) (by omega))), by rw [(show fLine (g 19) L A = (false, A1 + 1 + 1 + 1, 0, 0, 0) from by unfold fLine; rw [← eW, ← eA, if_neg hw, hn1]; dsimp only; rw [if_neg hT, fNum_n c15 (fDg_n (b := 49) (t := 57) (by rw [eLo]; decide) (by rw [eLo]; decide) (Or.inr (by decide)) (by decide) c37)]; rfl)]; exact (zu_s _ _ _), by rw [(show fLine (g 19) L A = (false, A1 + 1 + 1 + 1, 0, 0, 0) from by unfold fLine; rw [← eW, ← eA, if_neg hw, hn1]; dsimp only; rw [if_neg hT, fNum_n c15 (fDg_n (b := 49) (t := 57) (by rw [eLo]; decide) (by rw [eLo]; decide) (Or.inr (by decide)) (by decide) c37)]; rfl)]; exact fun q => absurd q Bool.false_ne_true⟩ hH dX6_reads_96
            · refine lv_bipush (v := 48) hx hb dX6_reads_80 (by decide) ?_
              refine lv_goto (tgt := 87) hx hb dX6_reads_82 (by decide) ?_
              have eLo : fLo W1 = 0 := by rw [fLo, if_neg c16, if_pos c33]
              refine lv_bipush (v := 57) hx hb dX6_reads_87 (by decide) ?_
              refine z_callVi X hH (c_X6_isDigit l D k a g v (upd (upd (upd (upd u1 3 (nI (A1 + 1))) 5 ((g 19 (A1 + 1)) - 48)) 3 (nI (A1 + 1 + 1))) 3 (nI (A1 + 1 + 1 + 1))) L (A1 + 1 + 1 + 1) hL (by omega) (((zu_n _ _ (by omega)).trans ((zu_n _ _ (by omega)).trans ((zu_n _ _ (by omega)).trans (zu_n _ _ (by omega))))).trans e21) (zu_s _ _ _) 48 57) k_X6_119 (rv_X6 X hH) [] rfl rfl hl.1 (Nat.le_of_ble_eq_true rfl) ⟨Nat.le_of_ble_eq_true rfl, Nat.le_of_ble_eq_true rfl⟩ ⟨Nat.le_refl _, Nat.le_refl _⟩ dX6_reads_89 (fun r50 g51 H locs h52 hH => ?_)
              by_cases c53 : A1 + 1 + 1 + 1 < L ∧ ¬ g 19 (A1 + 1 + 1 + 1) < 48 ∧ ¬ 57 < g 19 (A1 + 1 + 1 + 1)
              · rw [h52.2] at hH
                rw [h52.1, if_pos c53]
                have c53l := c53.1
                refine lv_if_ne (tgt := 97) hx hb dX6_reads_92 (by decide) (fun _ => ?_) (fun q => absurd q (by decide))
                refine lv_aload_n hx hb dX6_reads_97 rfl (lv_at hl 0 rfl) ?_
                refine lv_aload_n hx hb dX6_reads_98 rfl (lv_at hl 0 rfl) ?_
                refine gf_X6_text X hH q_579 dX6_reads_99 ?_
                refine lv_aload_n hx hb dX6_reads_102 rfl (lv_at hl 0 rfl) ?_
                refine gm_X6_at X hH q_581 dX6_reads_103 ?_
                rw [show (upd (upd (upd (upd u1 3 (nI (A1 + 1))) 5 ((g 19 (A1 + 1)) - 48)) 3 (nI (A1 + 1 + 1))) 3 (nI (A1 + 1 + 1 + 1))) 3 = nI (A1 + 1 + 1 + 1) from (zu_s _ _ _)]
                refine ar_text X hH (A1 + 1 + 1 + 1) (by omega) dX6_reads_106 ?_
                rw [show (zM g 0 v (upd (upd (upd (upd u1 3 (nI (A1 + 1))) 5 ((g 19 (A1 + 1)) - 48)) 3 (nI (A1 + 1 + 1))) 3 (nI (A1 + 1 + 1 + 1)))) 19 (A1 + 1 + 1 + 1) = (g) 19 (A1 + 1 + 1 + 1) from congrFun (zM_o _ _ _ (by decide) (by decide)) _]
                refine lv_bipush (v := 48) hx hb dX6_reads_107 (by decide) ?_
                refine lv_isub hx hb dX6_reads_109 ?_
                refine pm_X6_number X hH q_584 dX6_reads_110 (fun H locs hH => ?_)
                refine lv_aload_n hx hb dX6_reads_113 rfl (lv_at hl 0 rfl) ?_
                refine lv_dup hx hb dX6_reads_114 rfl ?_
                refine gm_X6_at X hH q_581 dX6_reads_115 ?_
                rw [show (upd (upd (upd (upd (upd u1 3 (nI (A1 + 1))) 5 ((g 19 (A1 + 1)) - 48)) 3 (nI (A1 + 1 + 1))) 3 (nI (A1 + 1 + 1 + 1))) 6 ((g 19 (A1 + 1 + 1 + 1)) - 48)) 3 = nI (A1 + 1 + 1 + 1) from ((zu_n _ _ (by omega)).trans (zu_s _ _ _))]
                refine lv_iconst (v := 1) hx hb dX6_reads_118 (by decide) ?_
                refine n_iadd (A := A1 + 1 + 1 + 1) (B := 1) hx hb (A1 + 1 + 1 + 1 + 1) (by omega) dX6_reads_119 ?_
                refine pm_X6_at X hH q_581 dX6_reads_120 (fun H locs hH => ?_)
                have hd2 := fDg_y (x := g 19) (L := L) (lo := fLo W1) (hi := 9999) (b := 48) (t := 57) (by rw [eLo]; decide) (by rw [eLo]; decide) (Or.inr (by decide)) (by decide) c53
                obtain ⟨NM, eN⟩ : ∃ NM, NM = fNumL (g 19) L 9999 (L - (A1 + 1 + 1 + 1 + 1)) (A1 + 1 + 1 + 1 + 1) (g 19 (A1 + 1 + 1 + 1) - 48) := ⟨_, rfl⟩
                have hp0 : ¬ g 19 (A1 + 1 + 1 + 1) - 48 < 0 := by have q9 := hd2.2.1; rw [hd2.1, eLo] at q9; exact q9
                have hline : fLine (g 19) L A = (true, NM.2, W1, g 19 (A1 + 1) - 48, NM.1) := by
                  have hn2 : fNum (g 19) L (A1 + 1 + 1) (fLo W1) 9999 = NM := by rw [fNum_y c15 hd2.2.1 hd2.2.2, hd2.1]; exact eN.symm
                  have hN9 : ¬ NM.1 = -1 := by rw [eN]; exact z_m1 (fNumL_9 _ _ _ hp0 (by have q9 := hd2.2.2; rw [hd2.1] at q9; exact q9)).1
                  unfold fLine; rw [← eW, ← eA, if_neg hw, hn1]; dsimp only; rw [if_neg hT, hn2, if_neg hN9]
                have Lp : ∀ (jx A2 : Nat) (d : Int32) (u2 : V), A2 + jx = L → fNumL (g 19) L 9999 (L - A2) A2 d = NM → (∀ j, j < 3 ∨ 6 < j → u2 j = u j) → u2 3 = nI A2 → u2 4 = W1 → u2 5 = g 19 (A1 + 1) - 48 → u2 6 = d → ∀ (H : Heap) (locs : List Loc) (ls : Array Slot), zH D k a s (zM g 0 v u2) H locs → lv_has ls 1 [(0, .ref (a 6 8))] → W p l e (zRoom 3 64) s m args below meth c H locs 0 0 Q (F0 m 123 ls []) := by
                  intro jx
                  induction jx with
                  | zero =>
                    intro A2 d u2 hjx hN hu2 k23 k24 k25 k26 H locs ls hH hl
                    refine lv_aload_n hx hb dX6_reads_123 rfl (lv_at hl 0 rfl) ?_
                    refine gm_X6_number X hH q_584 dX6_reads_124 ?_
                    rw [k26]
                    refine i_if_le (tgt := 204) hx hb dX6_reads_127 (by decide) (fun c54 => ?_) (fun c54 => ?_)
                    · refine lv_iconst (v := 1) hx hb dX6_reads_204 (by decide) ?_
                      exact hret _ _ _ _ _ _ rfl ⟨by rw [hline]; rfl, _, rfl, hu2, by rw [hline, ← hN, fNumL_z c54]; exact k23, fun _ => by rw [hline, ← hN, fNumL_z c54]; exact ⟨k24, k25, k26⟩⟩ hH dX6_reads_205
                    · refine lv_aload_n hx hb dX6_reads_130 rfl (lv_at hl 0 rfl) ?_
                      refine lv_bipush (v := 48) hx hb dX6_reads_131 (by decide) ?_
                      refine lv_bipush (v := 57) hx hb dX6_reads_133 (by decide) ?_
                      refine z_callVi X hH (c_X6_isDigit l D k a g v u2 L (A2) hL (by omega) ((hu2 2 (by omega)).trans e2) k23 48 57) k_X6_119 (rv_X6 X hH) [] rfl rfl hl.1 (Nat.le_of_ble_eq_true rfl) ⟨Nat.le_of_ble_eq_true rfl, Nat.le_of_ble_eq_true rfl⟩ ⟨Nat.le_refl _, Nat.le_refl _⟩ dX6_reads_135 (fun r55 g56 H locs h57 hH => ?_)
                      by_cases c58 : A2 < L ∧ ¬ g 19 A2 < 48 ∧ ¬ 57 < g 19 A2
                      · rw [h57.2] at hH
                        rw [h57.1, if_pos c58]
                        have c58l := c58.1
                        refine lv_if_eq (tgt := 204) hx hb dX6_reads_138 (by decide) (fun q => absurd q (by decide)) (fun _ => ?_)
                        refine lv_bipush (v := 10) hx hb dX6_reads_141 (by decide) ?_
                        refine lv_aload_n hx hb dX6_reads_143 rfl (lv_at hl 0 rfl) ?_
                        refine gm_X6_number X hH q_584 dX6_reads_144 ?_
                        rw [k26]
                        refine lv_imul hx hb dX6_reads_147 ?_
                        refine lv_aload_n hx hb dX6_reads_148 rfl (lv_at hl 0 rfl) ?_
                        refine gf_X6_text X hH q_579 dX6_reads_149 ?_
                        refine lv_aload_n hx hb dX6_reads_152 rfl (lv_at hl 0 rfl) ?_
                        refine gm_X6_at X hH q_581 dX6_reads_153 ?_
                        rw [k23]
                        refine ar_text X hH (A2) (by omega) dX6_reads_156 ?_
                        rw [show (zM g 0 v u2) 19 A2 = (g) 19 A2 from congrFun (zM_o _ _ _ (by decide) (by decide)) _]
                        refine lv_iadd hx hb dX6_reads_157 ?_
                        refine lv_bipush (v := 48) hx hb dX6_reads_158 (by decide) ?_
                        refine lv_isub hx hb dX6_reads_160 ?_
                        refine lv_sipush (v := 9999) hx hb dX6_reads_161 (by decide) ?_
                        refine i_icmp_gt (tgt := 204) hx hb dX6_reads_164 (by decide) (fun c59 => ?_) (fun c59 => ?_)
                        · refine lv_iconst (v := 1) hx hb dX6_reads_204 (by decide) ?_
                          exact hret _ _ _ _ _ _ rfl ⟨by rw [hline]; rfl, _, rfl, hu2, by rw [hline, ← hN, fNumL_g c58.1 c58.2.1 c58.2.2 c59]; exact k23, fun _ => by rw [hline, ← hN, fNumL_g c58.1 c58.2.1 c58.2.2 c59]; exact ⟨k24, k25, k26⟩⟩ hH dX6_reads_205
                        · refine lv_aload_n hx hb dX6_reads_167 rfl (lv_at hl 0 rfl) ?_
                          refine lv_bipush (v := 10) hx hb dX6_reads_168 (by decide) ?_
                          refine lv_aload_n hx hb dX6_reads_170 rfl (lv_at hl 0 rfl) ?_
                          refine gm_X6_number X hH q_584 dX6_reads_171 ?_
                          rw [k26]
                          refine lv_imul hx hb dX6_reads_174 ?_
                          refine lv_aload_n hx hb dX6_reads_175 rfl (lv_at hl 0 rfl) ?_
                          refine gf_X6_text X hH q_579 dX6_reads_176 ?_
                          refine lv_aload_n hx hb dX6_reads_179 rfl (lv_at hl 0 rfl) ?_
                          refine gm_X6_at X hH q_581 dX6_reads_180 ?_
                          rw [k23]
                          refine ar_text X hH (A2) (by omega) dX6_reads_183 ?_
                          rw [show (zM g 0 v u2) 19 A2 = (g) 19 A2 from congrFun (zM_o _ _ _ (by decide) (by decide)) _]
                          refine lv_iadd hx hb dX6_reads_184 ?_
                          refine lv_bipush (v := 48) hx hb dX6_reads_185 (by decide) ?_
                          refine lv_isub hx hb dX6_reads_187 ?_
                          refine pm_X6_number X hH q_584 dX6_reads_188 (fun H locs hH => ?_)
                          refine lv_aload_n hx hb dX6_reads_191 rfl (lv_at hl 0 rfl) ?_
                          refine lv_dup hx hb dX6_reads_192 rfl ?_
                          refine gm_X6_at X hH q_581 dX6_reads_193 ?_
                          rw [show (upd u2 6 (((10 * d) + (g 19 A2)) - 48)) 3 = u2 3 from (zu_n _ _ (by omega))]
                          rw [k23]
                          refine lv_iconst (v := 1) hx hb dX6_reads_196 (by decide) ?_
                          refine n_iadd (A := A2) (B := 1) hx hb (A2 + 1) (by omega) dX6_reads_197 ?_
                          refine pm_X6_at X hH q_581 dX6_reads_198 (fun H locs hH => ?_)
                          refine lv_goto (tgt := 123) hx hb dX6_reads_201 (by decide) ?_
                          omega
                      · rw [h57.2] at hH
                        rw [h57.1, if_neg c58]
                        refine lv_if_eq (tgt := 204) hx hb dX6_reads_138 (by decide) (fun _ => ?_) (fun q => absurd (by decide) q)
                        refine lv_iconst (v := 1) hx hb dX6_reads_204 (by decide) ?_
                        exact hret _ _ _ _ _ _ rfl ⟨by rw [hline]; rfl, _, rfl, hu2, by rw [hline, ← hN, fNumL_d c58]; exact k23, fun _ => by rw [hline, ← hN, fNumL_d c58]; exact ⟨k24, k25, k26⟩⟩ hH dX6_reads_205
                  | succ jx ih =>
                    intro A2 d u2 hjx hN hu2 k23 k24 k25 k26 H locs ls hH hl
                    refine lv_aload_n hx hb dX6_reads_123 rfl (lv_at hl 0 rfl) ?_
                    refine gm_X6_number X hH q_584 dX6_reads_124 ?_
                    rw [k26]
                    refine i_if_le (tgt := 204) hx hb dX6_reads_127 (by decide) (fun c60 => ?_) (fun c60 => ?_)
                    · refine lv_iconst (v := 1) hx hb dX6_reads_204 (by decide) ?_
                      exact hret _ _ _ _ _ _ rfl ⟨by rw [hline]; rfl, _, rfl, hu2, by rw [hline, ← hN, fNumL_z c60]; exact k23, fun _ => by rw [hline, ← hN, fNumL_z c60]; exact ⟨k24, k25, k26⟩⟩ hH dX6_reads_205
                    · refine lv_aload_n hx hb dX6_reads_130 rfl (lv_at hl 0 rfl) ?_
                      refine lv_bipush (v := 48) hx hb dX6_reads_131 (by decide) ?_
                      refine lv_bipush (v := 57) hx hb dX6_reads_133 (by decide) ?_
                      refine z_callVi X hH (c_X6_isDigit l D k a g v u2 L (A2) hL (by omega) ((hu2 2 (by omega)).trans e2) k23 48 57) k_X6_119 (rv_X6 X hH) [] rfl rfl hl.1 (Nat.le_of_ble_eq_true rfl) ⟨Nat.le_of_ble_eq_true rfl, Nat.le_of_ble_eq_true rfl⟩ ⟨Nat.le_refl _, Nat.le_refl _⟩ dX6_reads_135 (fun r61 g62 H locs h63 hH => ?_)
                      by_cases c64 : A2 < L ∧ ¬ g 19 A2 < 48 ∧ ¬ 57 < g 19 A2
                      · rw [h63.2] at hH
                        rw [h63.1, if_pos c64]
                        have c64l := c64.1
                        refine lv_if_eq (tgt := 204) hx hb dX6_reads_138 (by decide) (fun q => absurd q (by decide)) (fun _ => ?_)
                        refine lv_bipush (v := 10) hx hb dX6_reads_141 (by decide) ?_
                        refine lv_aload_n hx hb dX6_reads_143 rfl (lv_at hl 0 rfl) ?_
                        refine gm_X6_number X hH q_584 dX6_reads_144 ?_
                        rw [k26]
                        refine lv_imul hx hb dX6_reads_147 ?_
                        refine lv_aload_n hx hb dX6_reads_148 rfl (lv_at hl 0 rfl) ?_
                        refine gf_X6_text X hH q_579 dX6_reads_149 ?_
                        refine lv_aload_n hx hb dX6_reads_152 rfl (lv_at hl 0 rfl) ?_
                        refine gm_X6_at X hH q_581 dX6_reads_153 ?_
                        rw [k23]
                        refine ar_text X hH (A2) (by omega) dX6_reads_156 ?_
                        rw [show (zM g 0 v u2) 19 A2 = (g) 19 A2 from congrFun (zM_o _ _ _ (by decide) (by decide)) _]
                        refine lv_iadd hx hb dX6_reads_157 ?_
                        refine lv_bipush (v := 48) hx hb dX6_reads_158 (by decide) ?_
                        refine lv_isub hx hb dX6_reads_160 ?_
                        refine lv_sipush (v := 9999) hx hb dX6_reads_161 (by decide) ?_
                        refine i_icmp_gt (tgt := 204) hx hb dX6_reads_164 (by decide) (fun c65 => ?_) (fun c65 => ?_)
                        · refine lv_iconst (v := 1) hx hb dX6_reads_204 (by decide) ?_
                          exact hret _ _ _ _ _ _ rfl ⟨by rw [hline]; rfl, _, rfl, hu2, by rw [hline, ← hN, fNumL_g c64.1 c64.2.1 c64.2.2 c65]; exact k23, fun _ => by rw [hline, ← hN, fNumL_g c64.1 c64.2.1 c64.2.2 c65]; exact ⟨k24, k25, k26⟩⟩ hH dX6_reads_205
                        · refine lv_aload_n hx hb dX6_reads_167 rfl (lv_at hl 0 rfl) ?_
                          refine lv_bipush (v := 10) hx hb dX6_reads_168 (by decide) ?_
                          refine lv_aload_n hx hb dX6_reads_170 rfl (lv_at hl 0 rfl) ?_
                          refine gm_X6_number X hH q_584 dX6_reads_171 ?_
                          rw [k26]
                          refine lv_imul hx hb dX6_reads_174 ?_
                          refine lv_aload_n hx hb dX6_reads_175 rfl (lv_at hl 0 rfl) ?_
                          refine gf_X6_text X hH q_579 dX6_reads_176 ?_
                          refine lv_aload_n hx hb dX6_reads_179 rfl (lv_at hl 0 rfl) ?_
                          refine gm_X6_at X hH q_581 dX6_reads_180 ?_
                          rw [k23]
                          refine ar_text X hH (A2) (by omega) dX6_reads_183 ?_
                          rw [show (zM g 0 v u2) 19 A2 = (g) 19 A2 from congrFun (zM_o _ _ _ (by decide) (by decide)) _]
                          refine lv_iadd hx hb dX6_reads_184 ?_
                          refine lv_bipush (v := 48) hx hb dX6_reads_185 (by decide) ?_
                          refine lv_isub hx hb dX6_reads_187 ?_
                          refine pm_X6_number X hH q_584 dX6_reads_188 (fun H locs hH => ?_)
                          refine lv_aload_n hx hb dX6_reads_191 rfl (lv_at hl 0 rfl) ?_
                          refine lv_dup hx hb dX6_reads_192 rfl ?_
                          refine gm_X6_at X hH q_581 dX6_reads_193 ?_
                          rw [show (upd u2 6 (((10 * d) + (g 19 A2)) - 48)) 3 = u2 3 from (zu_n _ _ (by omega))]
                          rw [k23]
                          refine lv_iconst (v := 1) hx hb dX6_reads_196 (by decide) ?_
                          refine n_iadd (A := A2) (B := 1) hx hb (A2 + 1) (by omega) dX6_reads_197 ?_
                          refine pm_X6_at X hH q_581 dX6_reads_198 (fun H locs hH => ?_)
                          refine lv_goto (tgt := 123) hx hb dX6_reads_201 (by decide) ?_
                          exact ih (A2 + 1) _ _ (by omega) (by rw [← fNumL_s c60 c64.1 c64.2.1 c64.2.2 c65]; exact hN) (fun j hj => ((zu_n _ _ (by omega)).trans (zu_n _ _ (by omega))).trans (hu2 j hj)) (zu_s _ _ _) (((zu_n _ _ (by omega)).trans (zu_n _ _ (by omega))).trans k24) (((zu_n _ _ (by omega)).trans (zu_n _ _ (by omega))).trans k25) ((zu_n _ _ (by omega)).trans (zu_s _ _ _)) _ _ _ hH (lv_sub hl [0] rfl)
                      · rw [h63.2] at hH
                        rw [h63.1, if_neg c64]
                        refine lv_if_eq (tgt := 204) hx hb dX6_reads_138 (by decide) (fun _ => ?_) (fun q => absurd (by decide) q)
                        refine lv_iconst (v := 1) hx hb dX6_reads_204 (by decide) ?_
                        exact hret _ _ _ _ _ _ rfl ⟨by rw [hline]; rfl, _, rfl, hu2, by rw [hline, ← hN, fNumL_d c64]; exact k23, fun _ => by rw [hline, ← hN, fNumL_d c64]; exact ⟨k24, k25, k26⟩⟩ hH dX6_reads_205
                exact Lp (L - (A1 + 1 + 1 + 1 + 1)) (A1 + 1 + 1 + 1 + 1) _ _ (by omega) eN.symm (fun j hj => ((zu_n _ _ (by omega)).trans ((zu_n _ _ (by omega)).trans ((zu_n _ _ (by omega)).trans ((zu_n _ _ (by omega)).trans ((zu_n _ _ (by omega)).trans (zu_n _ _ (by omega))))))).trans (hu1 j (by omega) (by omega))) (zu_s _ _ _) (((zu_n _ _ (by omega)).trans ((zu_n _ _ (by omega)).trans ((zu_n _ _ (by omega)).trans ((zu_n _ _ (by omega)).trans ((zu_n _ _ (by omega)).trans (zu_n _ _ (by omega))))))).trans k14) ((zu_n _ _ (by omega)).trans ((zu_n _ _ (by omega)).trans ((zu_n _ _ (by omega)).trans ((zu_n _ _ (by omega)).trans (zu_s _ _ _))))) ((zu_n _ _ (by omega)).trans (zu_s _ _ _)) _ _ _ hH (lv_sub hl [0] rfl)
              · rw [h52.2] at hH
                rw [h52.1, if_neg c53]
                refine lv_if_ne (tgt := 97) hx hb dX6_reads_92 (by decide) (fun q => absurd rfl q) (fun _ => ?_)
                refine lv_iconst (v := 0) hx hb dX6_reads_95 (by decide) ?_
                exact hret _ _ _ _ _ _ rfl ⟨by rw [(show fLine (g 19) L A = (false, A1 + 1 + 1 + 1, 0, 0, 0) from by unfold fLine; rw [← eW, ← eA, if_neg hw, hn1]; dsimp only; rw [if_neg hT, fNum_n c15 (fDg_n (b := 48) (t := 57) (by rw [eLo]; decide) (by rw [eLo]; decide) (Or.inr (by decide)) (by decide) c53)]; rfl)]; rfl, _, rfl, (fun j hj => ((zu_n _ _ (by omega)).trans ((zu_n _ _ (by omega)).trans ((zu_n _ _ (by omega)).trans (zu_n _ _ (by omega))))).trans (hu1 j (by omega) (by omega))), by rw [(show fLine (g 19) L A = (false, A1 + 1 + 1 + 1, 0, 0, 0) from by unfold fLine; rw [← eW, ← eA, if_neg hw, hn1]; dsimp only; rw [if_neg hT, fNum_n c15 (fDg_n (b := 48) (t := 57) (by rw [eLo]; decide) (by rw [eLo]; decide) (Or.inr (by decide)) (by decide) c53)]; rfl)]; exact (zu_s _ _ _), by rw [(show fLine (g 19) L A = (false, A1 + 1 + 1 + 1, 0, 0, 0) from by unfold fLine; rw [← eW, ← eA, if_neg hw, hn1]; dsimp only; rw [if_neg hT, fNum_n c15 (fDg_n (b := 48) (t := 57) (by rw [eLo]; decide) (by rw [eLo]; decide) (Or.inr (by decide)) (by decide) c53)]; rfl)]; exact fun q => absurd q Bool.false_ne_true⟩ hH dX6_reads_96
        · rw [h14.2, if_neg c15] at hH
          rw [h14.1, if_neg c15]
          refine lv_if_eq (tgt := 95) hx hb dX6_reads_61 (by decide) (fun _ => ?_) (fun q => absurd (by decide) q)
          refine lv_iconst (v := 0) hx hb dX6_reads_95 (by decide) ?_
          exact hret _ _ _ _ _ _ rfl ⟨by rw [(show fLine (g 19) L A = (false, A1 + 1 + 1, 0, 0, 0) from by unfold fLine; rw [← eW, ← eA, if_neg hw, hn1]; dsimp only; rw [if_neg hT, fNum_a c15]; rfl)]; rfl, _, rfl, (fun j hj => ((zu_n _ _ (by omega)).trans ((zu_n _ _ (by omega)).trans ((zu_n _ _ (by omega)).trans (zu_n _ _ (by omega))))).trans (hu1 j (by omega) (by omega))), by rw [(show fLine (g 19) L A = (false, A1 + 1 + 1, 0, 0, 0) from by unfold fLine; rw [← eW, ← eA, if_neg hw, hn1]; dsimp only; rw [if_neg hT, fNum_a c15]; rfl)]; exact (zu_s _ _ _), by rw [(show fLine (g 19) L A = (false, A1 + 1 + 1, 0, 0, 0) from by unfold fLine; rw [← eW, ← eA, if_neg hw, hn1]; dsimp only; rw [if_neg hT, fNum_a c15]; rfl)]; exact fun q => absurd q Bool.false_ne_true⟩ hH dX6_reads_96
      · rw [h10.2] at hH
        rw [h10.1, if_neg c11]
        refine lv_if_ne (tgt := 29) hx hb dX6_reads_24 (by decide) (fun q => absurd rfl q) (fun _ => ?_)
        refine lv_iconst (v := 0) hx hb dX6_reads_27 (by decide) ?_
        exact hret _ _ _ _ _ _ rfl ⟨by rw [(show fLine (g 19) L A = (false, A1 + 1, 0, 0, 0) from by unfold fLine; rw [← eW, ← eA, if_neg hw, fNum_n c7 (fDg_n (b := 48) (t := 51) (by decide) (by decide) (Or.inl (by decide)) (by decide) c11)]; rfl)]; rfl, _, rfl, (fun j hj => (zu_n _ _ (by omega)).trans (hu1 j (by omega) (by omega))), by rw [(show fLine (g 19) L A = (false, A1 + 1, 0, 0, 0) from by unfold fLine; rw [← eW, ← eA, if_neg hw, fNum_n c7 (fDg_n (b := 48) (t := 51) (by decide) (by decide) (Or.inl (by decide)) (by decide) c11)]; rfl)]; exact (zu_s _ _ _), by rw [(show fLine (g 19) L A = (false, A1 + 1, 0, 0, 0) from by unfold fLine; rw [← eW, ← eA, if_neg hw, fNum_n c7 (fDg_n (b := 48) (t := 51) (by decide) (by decide) (Or.inl (by decide)) (by decide) c11)]; rfl)]; exact fun q => absurd q Bool.false_ne_true⟩ hH dX6_reads_28
    · rw [h6.2, if_neg c7] at hH
      rw [h6.1, if_neg c7]
      refine lv_if_eq (tgt := 27) hx hb dX6_reads_13 (by decide) (fun _ => ?_) (fun q => absurd (by decide) q)
      refine lv_iconst (v := 0) hx hb dX6_reads_27 (by decide) ?_
      exact hret _ _ _ _ _ _ rfl ⟨by rw [(show fLine (g 19) L A = (false, A1, 0, 0, 0) from by unfold fLine; rw [← eW, ← eA, if_neg hw, fNum_a c7]; rfl)]; rfl, _, rfl, (fun j hj => (zu_n _ _ (by omega)).trans (hu1 j (by omega) (by omega))), by rw [(show fLine (g 19) L A = (false, A1, 0, 0, 0) from by unfold fLine; rw [← eW, ← eA, if_neg hw, fNum_a c7]; rfl)]; exact (zu_s _ _ _), by rw [(show fLine (g 19) L A = (false, A1, 0, 0, 0) from by unfold fLine; rw [← eW, ← eA, if_neg hw, fNum_a c7]; rfl)]; exact fun q => absurd q Bool.false_ne_true⟩ hH dX6_reads_28
