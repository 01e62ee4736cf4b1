set_option maxRecDepth 100000 in
set_option maxHeartbeats 4000000 in
theorem c_X3_crowdOutDownTo (l : Launch) (D : va_G) (k : Nat → ClassId) (a : Nat → Nat → Nat) (g : Mem) (v : V) (most : Int32) : zV l yX3_crowdOutDownTo cX3_crowdOutDownTo 5 1 25 D k a [.ref (a 0 0), .int (most)] (zUp g 0 v) (fun g' => g' = (zUp g 0 (fDown v most))) := by
  refine zV_of (own := RX3) (by decide +kernel) rfl (Nat.le_of_ble_eq_true rfl) ?_
  intro p e s m args below meth c X Q hret hH ls hl
  obtain ⟨hx, hb, hml, hown, hts⟩ := X.1
  have hl : lv_has ls 5 [(0, .ref (a 0 0)), (1, .int (most))] := hl
  have hH : zH D k a s (zUp g 0 v) s.heap [] := hH
  refine lv_aload_n hx hb dX3_crowdOutDownTo_0 rfl (lv_at hl 0 rfl) ?_
  refine z_callVi X hH (c_X3_keptPlans l D k a g v) k_X3_164 (rv_X3 X hH (by omega)) [] rfl rfl hl.1 (Nat.le_of_ble_eq_true rfl) ⟨Nat.le_of_ble_eq_true rfl, Nat.le_of_ble_eq_true rfl⟩ ⟨Nat.le_refl _, Nat.le_refl _⟩ dX3_crowdOutDownTo_1 (fun r1 g2 H locs h3 hH => ?_)
  rw [h3.2] at hH
  rw [h3.1]
  refine lv_iload_n hx hb dX3_crowdOutDownTo_4 rfl (lv_at hl 1 rfl) ?_
  refine lv_isub hx hb dX3_crowdOutDownTo_5 ?_
  refine lv_istore_n (lv' := [(2, .int ((fK v 12) - most)), (0, .ref (a 0 0)), (1, .int (most))]) hx hb dX3_crowdOutDownTo_6 rfl hl (by decide) rfl (fun ls hl => ?_)
  refine lv_iconst (v := 0) hx hb dX3_crowdOutDownTo_7 (by decide) ?_
  refine lv_istore_n (lv' := [(3, .int 0), (2, .int ((fK v 12) - most)), (0, .ref (a 0 0)), (1, .int (most))]) hx hb dX3_crowdOutDownTo_8 rfl hl (by decide) rfl (fun ls hl => ?_)
  by_cases h0 : 0 < fK v 12 - most
  · obtain ⟨N, hN, eN⟩ := zPos h0
    have hR : fDown v most = fCrowd N v := by rw [fDown, eN, nI_clamp hN]
    rw [eN] at hl
    have Lp : ∀ (j i : Nat) (v1 : V), i + j = N → fCrowd j v1 = fCrowd N v → ∀ (H : Heap) (locs : List Loc) (ls : Array Slot), zH D k a s (zUp g 0 v1) H locs → lv_has ls 5 [(3, .int (nI i)), (2, .int (nI N)), (0, .ref (a 0 0))] → W p l e (zRoom 1 25) s m args below meth c H locs 0 0 Q (F0 m 9 ls []) := by
      intro j
      induction j with
      | zero =>
        intro i v1 hij hv H locs ls hH hl
        rw [show i = N by omega] at hl
        refine lv_iload_n hx hb dX3_crowdOutDownTo_9 rfl (lv_at hl 0 rfl) ?_
        refine lv_iload_n hx hb dX3_crowdOutDownTo_10 rfl (lv_at hl 1 rfl) ?_
        refine n_icmp_ge (A := N) (B := N) (tgt := 53) hx hb (by omega) (by omega) dX3_crowdOutDownTo_11 (by decide) (fun c4 => ?_) (fun q => absurd q (by omega))
        exact hret _ _ _ _ _ (by rw [hR, ← hv]; rfl) hH dX3_crowdOutDownTo_53
      | succ j ih =>
        intro i v1 hij hv H locs ls hH hl
        have hi : i < N := by omega
        refine lv_iload_n hx hb dX3_crowdOutDownTo_9 rfl (lv_at hl 0 rfl) ?_
        refine lv_iload_n hx hb dX3_crowdOutDownTo_10 rfl (lv_at hl 1 rfl) ?_
        refine n_icmp_ge (A := i) (B := N) (tgt := 53) hx hb (by omega) (by omega) dX3_crowdOutDownTo_11 (by decide) (fun q => absurd q (by omega)) (fun c5 => ?_)
        refine lv_aload_n hx hb dX3_crowdOutDownTo_14 rfl (lv_at hl 2 rfl) ?_
        refine z_callVi X hH (c_X3_oldestUnpinned l D k a g v1) k_X3_170 (rv_X3 X hH (by omega)) [] rfl rfl hl.1 (Nat.le_of_ble_eq_true rfl) ⟨Nat.le_of_ble_eq_true rfl, Nat.le_of_ble_eq_true rfl⟩ ⟨Nat.le_refl _, Nat.le_refl _⟩ dX3_crowdOutDownTo_15 (fun r6 g7 H locs h8 hH => ?_)
        rw [h8.2] at hH
        rw [h8.1]
        refine lv_istore (lv' := [(4, .int (fOldest v1)), (3, .int (nI i)), (2, .int (nI N)), (0, .ref (a 0 0))]) hx hb dX3_crowdOutDownTo_18 hl (by decide) rfl (fun ls hl => ?_)
        refine lv_iload hx hb dX3_crowdOutDownTo_20 (lv_at hl 0 rfl) ?_
        refine i_if_ge (tgt := 26) hx hb dX3_crowdOutDownTo_22 (by decide) (fun c9 => ?_) (fun c9 => ?_)
        · obtain ⟨S, hS, eS, -, -⟩ := fOldest_nat c9
          rw [eS] at hl
          refine lv_aload_n hx hb dX3_crowdOutDownTo_26 rfl (lv_at hl 3 rfl) ?_
          refine gf_X3_plans X hH (by omega) q_120 dX3_crowdOutDownTo_27 ?_
          refine lv_iload hx hb dX3_crowdOutDownTo_30 (lv_at hl 0 rfl) ?_
          refine ar_plans X hH (by omega) (S) (by omega) dX3_crowdOutDownTo_32 ?_
          refine lv_iconst (v := 0) hx hb dX3_crowdOutDownTo_33 (by decide) ?_
          refine pn_X1_kept X hH (by omega) (Or.inl rfl) q_64 dX3_crowdOutDownTo_34 (fun H locs hH => ?_)
          refine lv_aload_n hx hb dX3_crowdOutDownTo_37 rfl (lv_at hl 3 rfl) ?_
          refine lv_dup hx hb dX3_crowdOutDownTo_38 rfl ?_
          refine gn_X3_crowdedOut X hH q_136 dX3_crowdOutDownTo_39 ?_
          rw [show (upd v1 (13 + 11 * S + 0) 0) 151 = v1 151 from (zu_n _ _ (by omega))]
          refine lv_iconst (v := 1) hx hb dX3_crowdOutDownTo_42 (by decide) ?_
          refine lv_iadd hx hb dX3_crowdOutDownTo_43 ?_
          refine pn_X3_crowdedOut X hH q_136 dX3_crowdOutDownTo_44 (fun H locs hH => ?_)
          refine lv_iinc (v := nI (i + 1)) (lv' := [(3, .int (nI (i + 1))), (4, .int (nI S)), (2, .int (nI N)), (0, .ref (a 0 0))]) hx hb dX3_crowdOutDownTo_47 hl (k := 1) rfl (z_inc1 _) (by decide) rfl (fun ls hl => ?_)
          refine lv_goto (tgt := 9) hx hb dX3_crowdOutDownTo_50 (by decide) ?_
          exact ih (i + 1) _ (by omega) (by rw [← hv, fCrowd, if_neg c9, eS, nI_clamp (by omega)]; rfl) _ _ _ hH (lv_sub hl [0, 2, 3] rfl)
        · exact hret _ _ _ _ _ (by rw [hR, ← hv, fCrowd, if_pos c9]) hH dX3_crowdOutDownTo_25
    exact Lp N 0 v (by omega) rfl _ _ _ hH (lv_sub hl [0, 1, 2] rfl)
  · have hR : fDown v most = v := by rw [fDown, z_cl0 h0]; rfl
    refine lv_iload_n hx hb dX3_crowdOutDownTo_9 rfl (lv_at hl 0 rfl) ?_
    refine lv_iload_n hx hb dX3_crowdOutDownTo_10 rfl (lv_at hl 1 rfl) ?_
    refine i_icmp_ge (tgt := 53) hx hb dX3_crowdOutDownTo_11 (by decide) (fun c10 => ?_) (fun q => absurd q h0)
    exact hret _ _ _ _ _ (by rw [hR]) hH dX3_crowdOutDownTo_53
set_option maxRecDepth 100000 in
set_option maxHeartbeats 4000000 in
theorem c_X3_makeRoomFor (l : Launch) (D : va_G) (k : Nat → ClassId) (a : Nat → Nat → Nat) (g : Mem) (v : V) (z : Nat) (hz : z < 12) : zV l yX3_makeRoomFor cX3_makeRoomFor 2 2 49 D k a [.ref (a 0 0), .int (nI z)] (zUp g 0 v) (fun g' => g' = (zUp g 0 (fRoom v z))) := by
  refine zV_of (own := RX3) (by decide +kernel) rfl (Nat.le_of_ble_eq_true rfl) ?_
  intro p e s m args below meth c X Q hret hH ls hl
  obtain ⟨hx, hb, hml, hown, hts⟩ := X.1
  have hl : lv_has ls 2 [(0, .ref (a 0 0)), (1, .int (nI z))] := hl
  have hH : zH D k a s (zUp g 0 v) s.heap [] := hH
  refine lv_aload_n hx hb dX3_makeRoomFor_0 rfl (lv_at hl 0 rfl) ?_
  refine lv_iload_n hx hb dX3_makeRoomFor_1 rfl (lv_at hl 1 rfl) ?_
  refine z_callVi X hH (c_X3_lacksRoomFor l D k a g v (z) (by omega)) k_X3_167 (rv_X3 X hH (by omega)) [] rfl rfl hl.1 (Nat.le_of_ble_eq_true rfl) ⟨Nat.le_of_ble_eq_true rfl, Nat.le_of_ble_eq_true rfl⟩ ⟨Nat.le_refl _, Nat.le_refl _⟩ dX3_makeRoomFor_2 (fun r1 g2 H locs h3 hH => ?_)
  rw [h3.2] at hH
  rw [h3.1]
  refine b_ifeq (P := fLacks v z = true) (tgt := 20) hx hb dX3_makeRoomFor_5 (by decide) (fun c4 => ?_) (fun c4 => ?_)
  · exact hret _ _ _ _ _ (by simp only [fRoom, c4, if_true, if_false, Bool.false_eq_true]) hH dX3_makeRoomFor_20
  · refine lv_aload_n hx hb dX3_makeRoomFor_8 rfl (lv_at hl 0 rfl) ?_
    refine lv_aload_n hx hb dX3_makeRoomFor_9 rfl (lv_at hl 0 rfl) ?_
    refine gf_X3_settings X hH (by omega) q_122 dX3_makeRoomFor_10 ?_
    refine lv_iconst (v := 3) hx hb dX3_makeRoomFor_13 (by decide) ?_
    refine an_sets X hH (3) (by omega) dX3_makeRoomFor_14 ?_
    refine lv_iconst (v := 1) hx hb dX3_makeRoomFor_15 (by decide) ?_
    refine lv_isub hx hb dX3_makeRoomFor_16 ?_
    refine z_callVv X hH (c_X3_crowdOutDownTo l D k a g v ((v 11) - 1)) k_X3_173 (rv_X3 X hH (by omega)) [] rfl rfl hl.1 (Nat.le_of_ble_eq_true rfl) ⟨Nat.le_of_ble_eq_true rfl, Nat.le_of_ble_eq_true rfl⟩ ⟨Nat.le_refl _, Nat.le_refl _⟩ dX3_makeRoomFor_17 (fun g5 H locs h6 hH => ?_)
    rw [h6] at hH
    exact hret _ _ _ _ _ (by simp only [fRoom, c4, if_true, if_false, Bool.false_eq_true]) hH dX3_makeRoomFor_20
set_option maxRecDepth 100000 in
set_option maxHeartbeats 4000000 in
theorem c_X3_place (l : Launch) (D : va_G) (k : Nat → ClassId) (a : Nat → Nat → Nat) (g : Mem) (v : V) (z : Nat) (hz : z < 12) (w n lo hi : Int32) : zV l yX3_place cX3_place 7 3 71 D k a [.ref (a 0 0), .int (nI z), .int (w), .int (n), .int (lo), .int (hi)] (zUp g 0 v) (fun g' => g' = (zUp g 0 (fPlace v z w n lo hi))) := by
  refine zV_of (own := RX3) (by decide +kernel) rfl (Nat.le_of_ble_eq_true rfl) ?_
  intro p e s m args below meth c X Q hret hH ls hl
  obtain ⟨hx, hb, hml, hown, hts⟩ := X.1
  have hl : lv_has ls 7 [(0, .ref (a 0 0)), (1, .int (nI z)), (2, .int (w)), (3, .int (n)), (4, .int (lo)), (5, .int (hi))] := hl
  have hH : zH D k a s (zUp g 0 v) s.heap [] := hH
  refine lv_aload_n hx hb dX3_place_0 rfl (lv_at hl 0 rfl) ?_
  refine gf_X3_plans X hH (by omega) q_120 dX3_place_1 ?_
  refine lv_iload_n hx hb dX3_place_4 rfl (lv_at hl 1 rfl) ?_
  refine ar_plans X hH (by omega) (z) (by omega) dX3_place_5 ?_
  refine lv_astore (lv' := [(6, .ref (a 0 (8 + z))), (0, .ref (a 0 0)), (1, .int (nI z)), (2, .int (w)), (3, .int (n)), (4, .int (lo)), (5, .int (hi))]) hx hb dX3_place_6 hl (by decide) rfl (fun ls hl => ?_)
  refine lv_aload hx hb dX3_place_8 (lv_at hl 0 rfl) ?_
  refine lv_iconst (v := 1) hx hb dX3_place_10 (by decide) ?_
  refine pn_X1_kept X hH (by omega) (Or.inr rfl) q_64 dX3_place_11 (fun H locs hH => ?_)
  refine lv_aload hx hb dX3_place_14 (lv_at hl 0 rfl) ?_
  refine lv_iconst (v := 0) hx hb dX3_place_16 (by decide) ?_
  refine pn_X1_pinned X hH (by omega) (Or.inl rfl) q_67 dX3_place_17 (fun H locs hH => ?_)
  refine lv_aload hx hb dX3_place_20 (lv_at hl 0 rfl) ?_
  refine lv_iload_n hx hb dX3_place_22 rfl (lv_at hl 3 rfl) ?_
  refine pn_X1_way X hH (by omega) q_69 dX3_place_23 (fun H locs hH => ?_)
  refine lv_aload hx hb dX3_place_26 (lv_at hl 0 rfl) ?_
  refine lv_iload hx hb dX3_place_28 (lv_at hl 5 rfl) ?_
  refine pn_X1_least X hH (by omega) q_72 dX3_place_30 (fun H locs hH => ?_)
  refine lv_aload hx hb dX3_place_33 (lv_at hl 0 rfl) ?_
  refine lv_iload hx hb dX3_place_35 (lv_at hl 6 rfl) ?_
  refine pn_X1_most X hH (by omega) q_75 dX3_place_37 (fun H locs hH => ?_)
  refine lv_aload hx hb dX3_place_40 (lv_at hl 0 rfl) ?_
  refine lv_iload_n hx hb dX3_place_42 rfl (lv_at hl 4 rfl) ?_
  refine pn_X1_number X hH (by omega) q_78 dX3_place_43 (fun H locs hH => ?_)
  refine lv_aload hx hb dX3_place_46 (lv_at hl 0 rfl) ?_
  refine lv_aload_n hx hb dX3_place_48 rfl (lv_at hl 1 rfl) ?_
  refine lv_iload_n hx hb dX3_place_49 rfl (lv_at hl 2 rfl) ?_
  refine lv_iload_n hx hb dX3_place_50 rfl (lv_at hl 3 rfl) ?_
  refine lv_iload_n hx hb dX3_place_51 rfl (lv_at hl 4 rfl) ?_
  refine z_callVi X hH (c_X3_priceBy l D k a g (upd (upd (upd (upd (upd (upd v (13 + 11 * z + 0) 1) (13 + 11 * z + 8) 0) (13 + 11 * z + 1) w) (13 + 11 * z + 2) lo) (13 + 11 * z + 3) hi) (13 + 11 * z + 4) n) (z) (by omega) w n) k_X3_85 (rv_X3 X hH (by omega)) [.ref (a 0 (8 + z))] rfl rfl hl.1 (Nat.le_of_ble_eq_true rfl) ⟨Nat.le_of_ble_eq_true rfl, Nat.le_of_ble_eq_true rfl⟩ ⟨Nat.le_refl _, Nat.le_refl _⟩ dX3_place_52 (fun r1 g2 H locs h3 hH => ?_)
  rw [h3.2] at hH
  rw [h3.1]
  rw [show fCost (upd (upd (upd (upd (upd (upd v (13 + 11 * z + 0) 1) (13 + 11 * z + 8) 0) (13 + 11 * z + 1) w) (13 + 11 * z + 2) lo) (13 + 11 * z + 3) hi) (13 + 11 * z + 4) n) z w n = fCost v z w n from fCost_co (by omega) (fun j hj => ((zu_n _ _ (by omega)).trans ((zu_n _ _ (by omega)).trans ((zu_n _ _ (by omega)).trans ((zu_n _ _ (by omega)).trans ((zu_n _ _ (by omega)).trans (zu_n _ _ (by omega))))))))]
  refine pn_X1_guess X hH (by omega) q_81 dX3_place_55 (fun H locs hH => ?_)
  refine lv_aload hx hb dX3_place_58 (lv_at hl 0 rfl) ?_
  refine lv_aload_n hx hb dX3_place_60 rfl (lv_at hl 1 rfl) ?_
  refine lv_iload_n hx hb dX3_place_61 rfl (lv_at hl 2 rfl) ?_
  refine z_callVr X hH (c_X3_tableUnder l D k a (zUp g 0 (upd (upd (upd (upd (upd (upd (upd v (13 + 11 * z + 0) 1) (13 + 11 * z + 8) 0) (13 + 11 * z + 1) w) (13 + 11 * z + 2) lo) (13 + 11 * z + 3) hi) (13 + 11 * z + 4) n) (13 + 11 * z + 5) (fCost v z w n))) (z) (by omega)) k_X3_64 (rv_X3 X hH (by omega)) [.ref (a 0 (8 + z))] rfl rfl hl.1 (Nat.le_of_ble_eq_true rfl) ⟨Nat.le_of_ble_eq_true rfl, Nat.le_of_ble_eq_true rfl⟩ ⟨Nat.le_refl _, Nat.le_refl _⟩ dX3_place_62 (fun H locs hH => ?_)
  refine gn_X4_rows X hH (by omega) q_37 dX3_place_65 ?_
  rw [show (upd (upd (upd (upd (upd (upd (upd v (13 + 11 * z + 0) 1) (13 + 11 * z + 8) 0) (13 + 11 * z + 1) w) (13 + 11 * z + 2) lo) (13 + 11 * z + 3) hi) (13 + 11 * z + 4) n) (13 + 11 * z + 5) (fCost v z w n)) (z / 3) = v (z / 3) from ((zu_n _ _ (by omega)).trans ((zu_n _ _ (by omega)).trans ((zu_n _ _ (by omega)).trans ((zu_n _ _ (by omega)).trans ((zu_n _ _ (by omega)).trans ((zu_n _ _ (by omega)).trans (zu_n _ _ (by omega))))))))]
  refine pn_X1_rows X hH (by omega) q_84 dX3_place_68 (fun H locs hH => ?_)
  refine lv_aload hx hb dX3_place_71 (lv_at hl 0 rfl) ?_
  refine lv_iconst (v := 0) hx hb dX3_place_73 (by decide) ?_
  refine pn_X1_uses X hH (by omega) q_87 dX3_place_74 (fun H locs hH => ?_)
  refine lv_aload hx hb dX3_place_77 (lv_at hl 0 rfl) ?_
  refine lv_aload_n hx hb dX3_place_79 rfl (lv_at hl 1 rfl) ?_
  refine gn_X3_questions X hH q_124 dX3_place_80 ?_
  rw [show (upd (upd (upd (upd (upd (upd (upd (upd (upd v (13 + 11 * z + 0) 1) (13 + 11 * z + 8) 0) (13 + 11 * z + 1) w) (13 + 11 * z + 2) lo) (13 + 11 * z + 3) hi) (13 + 11 * z + 4) n) (13 + 11 * z + 5) (fCost v z w n)) (13 + 11 * z + 10) (v (z / 3))) (13 + 11 * z + 9) 0) 145 = v 145 from ((zu_n _ _ (by omega)).trans ((zu_n _ _ (by omega)).trans ((zu_n _ _ (by omega)).trans ((zu_n _ _ (by omega)).trans ((zu_n _ _ (by omega)).trans ((zu_n _ _ (by omega)).trans ((zu_n _ _ (by omega)).trans ((zu_n _ _ (by omega)).trans (zu_n _ _ (by omega))))))))))]
  refine pn_X1_madeAt X hH (by omega) q_90 dX3_place_83 (fun H locs hH => ?_)
  refine lv_aload hx hb dX3_place_86 (lv_at hl 0 rfl) ?_
  refine lv_aload_n hx hb dX3_place_88 rfl (lv_at hl 1 rfl) ?_
  refine gn_X3_questions X hH q_124 dX3_place_89 ?_
  rw [show (upd (upd (upd (upd (upd (upd (upd (upd (upd (upd v (13 + 11 * z + 0) 1) (13 + 11 * z + 8) 0) (13 + 11 * z + 1) w) (13 + 11 * z + 2) lo) (13 + 11 * z + 3) hi) (13 + 11 * z + 4) n) (13 + 11 * z + 5) (fCost v z w n)) (13 + 11 * z + 10) (v (z / 3))) (13 + 11 * z + 9) 0) (13 + 11 * z + 6) (v 145)) 145 = v 145 from ((zu_n _ _ (by omega)).trans ((zu_n _ _ (by omega)).trans ((zu_n _ _ (by omega)).trans ((zu_n _ _ (by omega)).trans ((zu_n _ _ (by omega)).trans ((zu_n _ _ (by omega)).trans ((zu_n _ _ (by omega)).trans ((zu_n _ _ (by omega)).trans ((zu_n _ _ (by omega)).trans (zu_n _ _ (by omega)))))))))))]
  refine pn_X1_usedAt X hH (by omega) q_93 dX3_place_92 (fun H locs hH => ?_)
  exact hret _ _ _ _ _ (rfl) hH dX3_place_95
set_option maxRecDepth 100000 in
set_option maxHeartbeats 4000000 in
theorem c_X3_resize (l : Launch) (D : va_G) (k : Nat → ClassId) (a : Nat → Nat → Nat) (g : Mem) (v : V) (q : Nat) (hq : q < 4) (x many : Int32) : zV l yX3_resize cX3_resize 4 0 0 D k a [.ref (a 0 0), .int (nI q), .int (x), .int (many)] (zUp g 0 v) (fun g' => g' = (zUp g 0 (fResize v q x many))) := by
  refine zV_of (own := RX3) (by decide +kernel) rfl (Nat.le_of_ble_eq_true rfl) ?_
  intro p e s m args below meth c X Q hret hH ls hl
  obtain ⟨hx, hb, hml, hown, hts⟩ := X.1
  have hl : lv_has ls 4 [(0, .ref (a 0 0)), (1, .int (nI q)), (2, .int (x)), (3, .int (many))] := hl
  have hH : zH D k a s (zUp g 0 v) s.heap [] := hH
  refine lv_iload_n hx hb dX3_resize_0 rfl (lv_at hl 2 rfl) ?_
  refine lv_if_eq (tgt := 17) hx hb dX3_resize_1 (by decide) (fun c1 => ?_) (fun c1 => ?_)
  · refine lv_aload_n hx hb dX3_resize_17 rfl (lv_at hl 0 rfl) ?_
    refine gf_X3_tables X hH (by omega) q_118 dX3_resize_18 ?_
    refine lv_iload_n hx hb dX3_resize_21 rfl (lv_at hl 1 rfl) ?_
    refine ar_tabs X hH (by omega) (q) (by omega) dX3_resize_22 ?_
    refine lv_iload_n hx hb dX3_resize_23 rfl (lv_at hl 3 rfl) ?_
    refine pn_X4_rows X hH (by omega) q_37 dX3_resize_24 (fun H locs hH => ?_)
    exact hret _ _ _ _ _ (by simp only [fResize, c1, if_true, if_false]) hH dX3_resize_27
  · refine lv_aload_n hx hb dX3_resize_4 rfl (lv_at hl 0 rfl) ?_
    refine gf_X3_tables X hH (by omega) q_118 dX3_resize_5 ?_
    refine lv_iload_n hx hb dX3_resize_8 rfl (lv_at hl 1 rfl) ?_
    refine ar_tabs X hH (by omega) (q) (by omega) dX3_resize_9 ?_
    refine lv_iload_n hx hb dX3_resize_10 rfl (lv_at hl 3 rfl) ?_
    refine pn_X4_keys X hH (by omega) q_40 dX3_resize_11 (fun H locs hH => ?_)
    refine lv_goto (tgt := 27) hx hb dX3_resize_14 (by decide) ?_
    exact hret _ _ _ _ _ (by simp only [fResize, c1, if_true, if_false]) hH dX3_resize_27
set_option maxRecDepth 100000 in
set_option maxHeartbeats 4000000 in
theorem c_X3_answerByPlan (l : Launch) (D : va_G) (k : Nat → ClassId) (a : Nat → Nat → Nat) (g : Mem) (v : V) (z : Nat) (hz : z < 12) (n : Int32) : zI l yX3_answerByPlan cX3_answerByPlan 5 .int 3 71 D k a [.ref (a 0 0), .int (nI z), .int (n)] (zUp g 0 v) (fun r g' => r = ((fHit v z n).1) ∧ g' = (zUp g 0 ((fHit v z n).2))) := by
  refine zI_of (own := RX3) (by decide +kernel) rfl (Nat.le_of_ble_eq_true rfl) ?_
  intro p e s m args below meth c X Q hret hH ls hl
  obtain ⟨hx, hb, hml, hown, hts⟩ := X.1
  have hl : lv_has ls 5 [(0, .ref (a 0 0)), (1, .int (nI z)), (2, .int (n))] := hl
  have hH : zH D k a s (zUp g 0 v) s.heap [] := hH
  refine lv_aload_n hx hb dX3_answerByPlan_0 rfl (lv_at hl 0 rfl) ?_
  refine gf_X3_plans X hH (by omega) q_120 dX3_answerByPlan_1 ?_
  refine lv_iload_n hx hb dX3_answerByPlan_4 rfl (lv_at hl 1 rfl) ?_
  refine ar_plans X hH (by omega) (z) (by omega) dX3_answerByPlan_5 ?_
  refine lv_astore_n (lv' := [(3, .ref (a 0 (8 + z))), (0, .ref (a 0 0)), (1, .int (nI z)), (2, .int (n))]) hx hb dX3_answerByPlan_6 rfl hl (by decide) rfl (fun ls hl => ?_)
  refine lv_aload_n hx hb dX3_answerByPlan_7 rfl (lv_at hl 1 rfl) ?_
  refine lv_iload_n hx hb dX3_answerByPlan_8 rfl (lv_at hl 2 rfl) ?_
  refine lv_aload_n hx hb dX3_answerByPlan_9 rfl (lv_at hl 0 rfl) ?_
  refine gn_X1_way X hH (by omega) q_69 dX3_answerByPlan_10 ?_
  refine lv_iload_n hx hb dX3_answerByPlan_13 rfl (lv_at hl 3 rfl) ?_
  refine z_callVi X hH (c_X3_priceBy l D k a g v (z) (by omega) (v (13 + 11 * z + 1)) n) k_X3_85 (rv_X3 X hH (by omega)) [] rfl rfl hl.1 (Nat.le_of_ble_eq_true rfl) ⟨Nat.le_of_ble_eq_true rfl, Nat.le_of_ble_eq_true rfl⟩ ⟨Nat.le_refl _, Nat.le_refl _⟩ dX3_answerByPlan_14 (fun r1 g2 H locs h3 hH => ?_)
  rw [h3.2] at hH
  rw [h3.1]
  refine lv_istore (lv' := [(4, .int (fCost v z (v (13 + 11 * z + 1)) n)), (3, .ref (a 0 (8 + z))), (0, .ref (a 0 0)), (1, .int (nI z)), (2, .int (n))]) hx hb dX3_answerByPlan_17 hl (by decide) rfl (fun ls hl => ?_)
  refine lv_aload_n hx hb dX3_answerByPlan_19 rfl (lv_at hl 2 rfl) ?_
  refine lv_dup hx hb dX3_answerByPlan_20 rfl ?_
  refine gn_X3_hits X hH q_126 dX3_answerByPlan_21 ?_
  refine lv_iconst (v := 1) hx hb dX3_answerByPlan_24 (by decide) ?_
  refine lv_iadd hx hb dX3_answerByPlan_25 ?_
  refine pn_X3_hits X hH q_126 dX3_answerByPlan_26 (fun H locs hH => ?_)
  refine lv_aload_n hx hb dX3_answerByPlan_29 rfl (lv_at hl 1 rfl) ?_
  refine lv_dup hx hb dX3_answerByPlan_30 rfl ?_
  refine gn_X1_uses X hH (by omega) q_87 dX3_answerByPlan_31 ?_
  rw [show (upd v 146 ((v 146) + 1)) (13 + 11 * z + 9) = v (13 + 11 * z + 9) from (zu_n _ _ (by omega))]
  refine lv_iconst (v := 1) hx hb dX3_answerByPlan_34 (by decide) ?_
  refine lv_iadd hx hb dX3_answerByPlan_35 ?_
  refine pn_X1_uses X hH (by omega) q_87 dX3_answerByPlan_36 (fun H locs hH => ?_)
  refine lv_aload_n hx hb dX3_answerByPlan_39 rfl (lv_at hl 1 rfl) ?_
  refine lv_aload_n hx hb dX3_answerByPlan_40 rfl (lv_at hl 2 rfl) ?_
  refine gn_X3_questions X hH q_124 dX3_answerByPlan_41 ?_
  rw [show (upd (upd v 146 ((v 146) + 1)) (13 + 11 * z + 9) ((v (13 + 11 * z + 9)) + 1)) 145 = v 145 from ((zu_n _ _ (by omega)).trans (zu_n _ _ (by omega)))]
  refine pn_X1_usedAt X hH (by omega) q_93 dX3_answerByPlan_44 (fun H locs hH => ?_)
  refine lv_aload_n hx hb dX3_answerByPlan_47 rfl (lv_at hl 2 rfl) ?_
  refine lv_iload_n hx hb dX3_answerByPlan_48 rfl (lv_at hl 3 rfl) ?_
  refine lv_iload hx hb dX3_answerByPlan_49 (lv_at hl 0 rfl) ?_
  refine z_callVi X hH (c_X3_isTooDear l D k a g (upd (upd (upd v 146 ((v 146) + 1)) (13 + 11 * z + 9) ((v (13 + 11 * z + 9)) + 1)) (13 + 11 * z + 7) (v 145)) (z) (by omega) (fCost v z (v (13 + 11 * z + 1)) n)) k_X3_136 (rv_X3 X hH (by omega)) [] rfl rfl hl.1 (Nat.le_of_ble_eq_true rfl) ⟨Nat.le_of_ble_eq_true rfl, Nat.le_of_ble_eq_true rfl⟩ ⟨Nat.le_refl _, Nat.le_refl _⟩ dX3_answerByPlan_51 (fun r4 g5 H locs h6 hH => ?_)
  rw [h6.2] at hH
  rw [h6.1]
  refine b_ifeq (P := fDear (upd (upd (upd v 146 ((v 146) + 1)) (13 + 11 * z + 9) ((v (13 + 11 * z + 9)) + 1)) (13 + 11 * z + 7) (v 145)) z (fCost v z (v (13 + 11 * z + 1)) n) = true) (tgt := 72) hx hb dX3_answerByPlan_54 (by decide) (fun c7 => ?_) (fun c7 => ?_)
  · refine lv_iload hx hb dX3_answerByPlan_72 (lv_at hl 0 rfl) ?_
    exact hret _ _ _ _ _ _ rfl ⟨rfl, by simp only [fHit, fHitV, c7, if_true, if_false, Bool.false_eq_true]⟩ hH dX3_answerByPlan_74
  · refine lv_aload_n hx hb dX3_answerByPlan_57 rfl (lv_at hl 1 rfl) ?_
    refine lv_iconst (v := 0) hx hb dX3_answerByPlan_58 (by decide) ?_
    refine pn_X1_kept X hH (by omega) (Or.inl rfl) q_64 dX3_answerByPlan_59 (fun H locs hH => ?_)
    refine lv_aload_n hx hb dX3_answerByPlan_62 rfl (lv_at hl 2 rfl) ?_
    refine lv_dup hx hb dX3_answerByPlan_63 rfl ?_
    refine gn_X3_turnedBad X hH q_134 dX3_answerByPlan_64 ?_
    rw [show (upd (upd (upd (upd v 146 ((v 146) + 1)) (13 + 11 * z + 9) ((v (13 + 11 * z + 9)) + 1)) (13 + 11 * z + 7) (v 145)) (13 + 11 * z + 0) 0) 150 = v 150 from ((zu_n _ _ (by omega)).trans ((zu_n _ _ (by omega)).trans ((zu_n _ _ (by omega)).trans (zu_n _ _ (by omega)))))]
    refine lv_iconst (v := 1) hx hb dX3_answerByPlan_67 (by decide) ?_
    refine lv_iadd hx hb dX3_answerByPlan_68 ?_
    refine pn_X3_turnedBad X hH q_134 dX3_answerByPlan_69 (fun H locs hH => ?_)
    refine lv_iload hx hb dX3_answerByPlan_72 (lv_at hl 0 rfl) ?_
    exact hret _ _ _ _ _ _ rfl ⟨rfl, by simp only [fHit, fHitV, c7, if_true, if_false, Bool.false_eq_true]⟩ hH dX3_answerByPlan_74
