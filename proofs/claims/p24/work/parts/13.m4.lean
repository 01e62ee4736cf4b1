set_option maxRecDepth 100000 in
set_option maxHeartbeats 4000000 in
theorem c_X3_answerByLooking (l : Launch) (D : va_G) (k : Nat → ClassId) (a : Nat → Nat → Nat) (g : Mem) (v : V) (z : Nat) (hz : z < 12) (n : Int32) : zI l yX3_answerByLooking cX3_answerByLooking 5 .int 4 97 D k a [.ref (a 0 0), .int (nI z), .int (n)] (zUp g 0 v) (fun r g' => r = ((fMiss v z n).1) ∧ g' = (zUp g 0 ((fMiss v z n).2))) := by
  refine zI_of (own := RX3) (by decide +kernel) rfl (Nat.le_of_ble_eq_true rfl) ?_
  intro p e s m args below meth c X Q hret hH ls hl
  obtain ⟨hx, hb, hml, hown, hts⟩ := X.1
  have hl : lv_has ls 5 [(0, .ref (a 0 0)), (1, .int (nI z)), (2, .int (n))] := hl
  have hH : zH D k a s (zUp g 0 v) s.heap [] := hH
  refine lv_aload_n hx hb dX3_answerByLooking_0 rfl (lv_at hl 0 rfl) ?_
  refine lv_iload_n hx hb dX3_answerByLooking_1 rfl (lv_at hl 1 rfl) ?_
  refine lv_iload_n hx hb dX3_answerByLooking_2 rfl (lv_at hl 2 rfl) ?_
  refine z_callVi X hH (c_X3_cheapestWay l D k a g v (z) (by omega) n) k_X3_140 (rv_X3 X hH (by omega)) [] rfl rfl hl.1 (Nat.le_of_ble_eq_true rfl) ⟨Nat.le_of_ble_eq_true rfl, Nat.le_of_ble_eq_true rfl⟩ ⟨Nat.le_refl _, Nat.le_refl _⟩ dX3_answerByLooking_3 (fun r1 g2 H locs h3 hH => ?_)
  rw [h3.2] at hH
  rw [h3.1]
  refine lv_istore_n (lv' := [(3, .int (fBest v z n)), (0, .ref (a 0 0)), (1, .int (nI z)), (2, .int (n))]) hx hb dX3_answerByLooking_6 rfl hl (by decide) rfl (fun ls hl => ?_)
  refine lv_aload_n hx hb dX3_answerByLooking_7 rfl (lv_at hl 1 rfl) ?_
  refine lv_dup hx hb dX3_answerByLooking_8 rfl ?_
  refine gn_X3_misses X hH q_128 dX3_answerByLooking_9 ?_
  refine lv_iconst (v := 1) hx hb dX3_answerByLooking_12 (by decide) ?_
  refine lv_iadd hx hb dX3_answerByLooking_13 ?_
  refine pn_X3_misses X hH q_128 dX3_answerByLooking_14 (fun H locs hH => ?_)
  refine lv_aload_n hx hb dX3_answerByLooking_17 rfl (lv_at hl 1 rfl) ?_
  refine lv_dup hx hb dX3_answerByLooking_18 rfl ?_
  refine gn_X3_spentLooking X hH q_132 dX3_answerByLooking_19 ?_
  rw [show (upd v 147 ((v 147) + 1)) 149 = v 149 from (zu_n _ _ (by omega))]
  refine lv_aload_n hx hb dX3_answerByLooking_22 rfl (lv_at hl 1 rfl) ?_
  refine gf_X3_settings X hH (by omega) q_122 dX3_answerByLooking_23 ?_
  refine lv_iconst (v := 0) hx hb dX3_answerByLooking_26 (by decide) ?_
  refine an_sets X hH (0) (by omega) dX3_answerByLooking_27 ?_
  rw [show (upd v 147 ((v 147) + 1)) 8 = v 8 from (zu_n _ _ (by omega))]
  refine lv_iadd hx hb dX3_answerByLooking_28 ?_
  refine pn_X3_spentLooking X hH q_132 dX3_answerByLooking_29 (fun H locs hH => ?_)
  refine lv_aload_n hx hb dX3_answerByLooking_32 rfl (lv_at hl 1 rfl) ?_
  refine lv_iload_n hx hb dX3_answerByLooking_33 rfl (lv_at hl 2 rfl) ?_
  refine z_callVv X hH (c_X3_makeRoomFor l D k a g (upd (upd v 147 ((v 147) + 1)) 149 ((v 149) + (v 8))) (z) (by omega)) k_X3_143 (rv_X3 X hH (by omega)) [] rfl rfl hl.1 (Nat.le_of_ble_eq_true rfl) ⟨Nat.le_of_ble_eq_true rfl, Nat.le_of_ble_eq_true rfl⟩ ⟨Nat.le_refl _, Nat.le_refl _⟩ dX3_answerByLooking_34 (fun g4 H locs h5 hH => ?_)
  rw [h5] at hH
  have hH : zH D k a s (zUp g 0 (fMissA v z)) H locs := hH
  refine lv_aload_n hx hb dX3_answerByLooking_37 rfl (lv_at hl 1 rfl) ?_
  refine lv_iload_n hx hb dX3_answerByLooking_38 rfl (lv_at hl 2 rfl) ?_
  refine z_callVi X hH (c_X3_couldKeep l D k a g (fMissA v z) (z) (by omega)) k_X3_147 (rv_X3 X hH (by omega)) [] rfl rfl hl.1 (Nat.le_of_ble_eq_true rfl) ⟨Nat.le_of_ble_eq_true rfl, Nat.le_of_ble_eq_true rfl⟩ ⟨Nat.le_refl _, Nat.le_refl _⟩ dX3_answerByLooking_39 (fun r6 g7 H locs h8 hH => ?_)
  rw [h8.2] at hH
  rw [h8.1]
  refine b_ifeq (P := fCould (fMissA v z) z = true) (tgt := 70) hx hb dX3_answerByLooking_42 (by decide) (fun c9 => ?_) (fun c9 => ?_)
  · refine lv_aload_n hx hb dX3_answerByLooking_70 rfl (lv_at hl 1 rfl) ?_
    refine lv_iload_n hx hb dX3_answerByLooking_71 rfl (lv_at hl 2 rfl) ?_
    refine lv_iload_n hx hb dX3_answerByLooking_72 rfl (lv_at hl 0 rfl) ?_
    refine lv_iload_n hx hb dX3_answerByLooking_73 rfl (lv_at hl 3 rfl) ?_
    refine z_callVi X hH (c_X3_priceBy l D k a g (fMissA v z) (z) (by omega) (fBest v z n) n) k_X3_85 (rv_X3 X hH (by omega)) [] rfl rfl hl.1 (Nat.le_of_ble_eq_true rfl) ⟨Nat.le_of_ble_eq_true rfl, Nat.le_of_ble_eq_true rfl⟩ ⟨Nat.le_refl _, Nat.le_refl _⟩ dX3_answerByLooking_74 (fun r10 g11 H locs h12 hH => ?_)
    rw [h12.2] at hH
    rw [h12.1]
    rw [show fCost (fMissA v z) z (fBest v z n) n = fCost v z (fBest v z n) n from fCost_co (by omega) (fun j hj => ((fRoom_o (Or.inl (by omega))).trans ((zu_n _ _ (by omega)).trans (zu_n _ _ (by omega)))))]
    refine lv_aload_n hx hb dX3_answerByLooking_77 rfl (lv_at hl 1 rfl) ?_
    refine gf_X3_settings X hH (by omega) q_122 dX3_answerByLooking_78 ?_
    refine lv_iconst (v := 0) hx hb dX3_answerByLooking_81 (by decide) ?_
    refine an_sets X hH (0) (by omega) dX3_answerByLooking_82 ?_
    rw [show (fMissA v z) 8 = v 8 from ((fRoom_o (Or.inl (by omega))).trans ((zu_n _ _ (by omega)).trans (zu_n _ _ (by omega))))]
    refine lv_iadd hx hb dX3_answerByLooking_83 ?_
    exact hret _ _ _ _ _ _ rfl ⟨rfl, by simp only [fMiss, fMissV, c9, if_true, if_false, Bool.false_eq_true]⟩ hH dX3_answerByLooking_84
  · refine lv_aload_n hx hb dX3_answerByLooking_45 rfl (lv_at hl 1 rfl) ?_
    refine gf_X3_settings X hH (by omega) q_122 dX3_answerByLooking_46 ?_
    refine lv_iconst (v := 1) hx hb dX3_answerByLooking_49 (by decide) ?_
    refine an_sets X hH (1) (by omega) dX3_answerByLooking_50 ?_
    rw [show (fMissA v z) 9 = v 9 from ((fRoom_o (Or.inl (by omega))).trans ((zu_n _ _ (by omega)).trans (zu_n _ _ (by omega))))]
    refine lv_istore (lv' := [(4, .int (v 9)), (3, .int (fBest v z n)), (0, .ref (a 0 0)), (1, .int (nI z)), (2, .int (n))]) hx hb dX3_answerByLooking_51 hl (by decide) rfl (fun ls hl => ?_)
    refine lv_aload_n hx hb dX3_answerByLooking_53 rfl (lv_at hl 2 rfl) ?_
    refine lv_iload_n hx hb dX3_answerByLooking_54 rfl (lv_at hl 3 rfl) ?_
    refine lv_iload_n hx hb dX3_answerByLooking_55 rfl (lv_at hl 1 rfl) ?_
    refine lv_iload_n hx hb dX3_answerByLooking_56 rfl (lv_at hl 4 rfl) ?_
    refine lv_iload_n hx hb dX3_answerByLooking_57 rfl (lv_at hl 4 rfl) ?_
    refine lv_iload hx hb dX3_answerByLooking_58 (lv_at hl 0 rfl) ?_
    refine z_callNi X hH (c_X5_quotient l D k a (zUp g 0 (fMissA v z)) n (v 9)) k_X3_82 (X.2.2.2.2.2.2.2.2.2.2.2.1) [.int (n), .int (fBest v z n), .int (nI z), .ref (a 0 0)] rfl rfl hl.1 (Nat.le_of_ble_eq_true rfl) ⟨Nat.le_of_ble_eq_true rfl, Nat.le_of_ble_eq_true rfl⟩ ⟨Nat.le_refl _, Nat.le_refl _⟩ dX3_answerByLooking_60 (fun r13 g14 H locs h15 hH => ?_)
    rw [h15.2] at hH
    rw [h15.1]
    refine lv_iload_n hx hb dX3_answerByLooking_63 rfl (lv_at hl 4 rfl) ?_
    refine lv_iload hx hb dX3_answerByLooking_64 (lv_at hl 0 rfl) ?_
    refine lv_imul hx hb dX3_answerByLooking_66 ?_
    refine z_callVv X hH (c_X3_place l D k a g (fMissA v z) (z) (by omega) (fBest v z n) n (fQuo n (v 9)) (n * (v 9))) k_X3_150 (rv_X3 X hH (by omega)) [] rfl rfl hl.1 (Nat.le_of_ble_eq_true rfl) ⟨Nat.le_of_ble_eq_true rfl, Nat.le_of_ble_eq_true rfl⟩ ⟨Nat.le_refl _, Nat.le_refl _⟩ dX3_answerByLooking_67 (fun g16 H locs h17 hH => ?_)
    rw [h17] at hH
    refine lv_aload_n hx hb dX3_answerByLooking_70 rfl (lv_at hl 2 rfl) ?_
    refine lv_iload_n hx hb dX3_answerByLooking_71 rfl (lv_at hl 3 rfl) ?_
    refine lv_iload_n hx hb dX3_answerByLooking_72 rfl (lv_at hl 1 rfl) ?_
    refine lv_iload_n hx hb dX3_answerByLooking_73 rfl (lv_at hl 4 rfl) ?_
    refine z_callVi X hH (c_X3_priceBy l D k a g (fPlace (fMissA v z) z (fBest v z n) n (fQuo n (v 9)) (n * (v 9))) (z) (by omega) (fBest v z n) n) k_X3_85 (rv_X3 X hH (by omega)) [] rfl rfl hl.1 (Nat.le_of_ble_eq_true rfl) ⟨Nat.le_of_ble_eq_true rfl, Nat.le_of_ble_eq_true rfl⟩ ⟨Nat.le_refl _, Nat.le_refl _⟩ dX3_answerByLooking_74 (fun r18 g19 H locs h20 hH => ?_)
    rw [h20.2] at hH
    rw [h20.1]
    rw [show fCost (fPlace (fMissA v z) z (fBest v z n) n (fQuo n (v 9)) (n * (v 9))) z (fBest v z n) n = fCost v z (fBest v z n) n from fCost_co (by omega) (fun j hj => ((fPlace_o (by omega) (Or.inl (by omega))).trans ((fRoom_o (Or.inl (by omega))).trans ((zu_n _ _ (by omega)).trans (zu_n _ _ (by omega))))))]
    refine lv_aload_n hx hb dX3_answerByLooking_77 rfl (lv_at hl 2 rfl) ?_
    refine gf_X3_settings X hH (by omega) q_122 dX3_answerByLooking_78 ?_
    refine lv_iconst (v := 0) hx hb dX3_answerByLooking_81 (by decide) ?_
    refine an_sets X hH (0) (by omega) dX3_answerByLooking_82 ?_
    rw [show (fPlace (fMissA v z) z (fBest v z n) n (fQuo n (v 9)) (n * (v 9))) 8 = v 8 from ((fPlace_o (by omega) (Or.inl (by omega))).trans ((fRoom_o (Or.inl (by omega))).trans ((zu_n _ _ (by omega)).trans (zu_n _ _ (by omega)))))]
    refine lv_iadd hx hb dX3_answerByLooking_83 ?_
    exact hret _ _ _ _ _ _ rfl ⟨rfl, by simp only [fMiss, fMissV, c9, if_true, if_false, Bool.false_eq_true]⟩ hH dX3_answerByLooking_84
set_option maxRecDepth 100000 in
set_option maxHeartbeats 4000000 in
theorem c_X3_answer (l : Launch) (D : va_G) (k : Nat → ClassId) (a : Nat → Nat → Nat) (g : Mem) (v : V) (z : Nat) (hz : z < 12) (n : Int32) : zI l yX3_answer cX3_answer 6 .int 5 121 D k a [.ref (a 0 0), .int (nI z), .int (n)] (zUp g 0 v) (fun r g' => r = ((fAsk v z n).1) ∧ g' = (zUp g 0 ((fAsk v z n).2))) := by
  refine zI_of (own := RX3) (by decide +kernel) rfl (Nat.le_of_ble_eq_true rfl) ?_
  intro p e s m args below meth c X Q hret hH ls hl
  obtain ⟨hx, hb, hml, hown, hts⟩ := X.1
  have hl : lv_has ls 6 [(0, .ref (a 0 0)), (1, .int (nI z)), (2, .int (n))] := hl
  have hH : zH D k a s (zUp g 0 v) s.heap [] := hH
  refine lv_aload_n hx hb dX3_answer_0 rfl (lv_at hl 0 rfl) ?_
  refine lv_iload_n hx hb dX3_answer_1 rfl (lv_at hl 1 rfl) ?_
  refine lv_iload_n hx hb dX3_answer_2 rfl (lv_at hl 2 rfl) ?_
  refine z_callVi X hH (c_X3_whyNotUsed l D k a g v (z) (by omega) n) k_X3_116 (rv_X3 X hH (by omega)) [] rfl rfl hl.1 (Nat.le_of_ble_eq_true rfl) ⟨Nat.le_of_ble_eq_true rfl, Nat.le_of_ble_eq_true rfl⟩ ⟨Nat.le_refl _, Nat.le_refl _⟩ dX3_answer_3 (fun r1 g2 H locs h3 hH => ?_)
  rw [h3.2] at hH
  rw [h3.1]
  refine lv_if_ne (tgt := 13) hx hb dX3_answer_6 (by decide) (fun c4 => ?_) (fun c4 => ?_)
  · refine lv_iconst (v := 0) hx hb dX3_answer_13 (by decide) ?_
    refine lv_istore_n (lv' := [(3, .int 0), (0, .ref (a 0 0)), (1, .int (nI z)), (2, .int (n))]) hx hb dX3_answer_14 rfl hl (by decide) rfl (fun ls hl => ?_)
    refine lv_aload_n hx hb dX3_answer_15 rfl (lv_at hl 1 rfl) ?_
    refine lv_dup hx hb dX3_answer_16 rfl ?_
    refine gn_X3_questions X hH q_124 dX3_answer_17 ?_
    refine lv_iconst (v := 1) hx hb dX3_answer_20 (by decide) ?_
    refine lv_iadd hx hb dX3_answer_21 ?_
    refine pn_X3_questions X hH q_124 dX3_answer_22 (fun H locs hH => ?_)
    refine lv_iload_n hx hb dX3_answer_25 rfl (lv_at hl 0 rfl) ?_
    refine lv_if_eq (tgt := 38) hx hb dX3_answer_26 (by decide) (fun _ => ?_) (fun q => absurd (by decide) q)
    refine lv_aload_n hx hb dX3_answer_38 rfl (lv_at hl 1 rfl) ?_
    refine lv_iload_n hx hb dX3_answer_39 rfl (lv_at hl 2 rfl) ?_
    refine lv_iload_n hx hb dX3_answer_40 rfl (lv_at hl 3 rfl) ?_
    refine z_callVi X hH (c_X3_answerByLooking l D k a g (upd v 145 ((v 145) + 1)) (z) (by omega) n) k_X3_122 (rv_X3 X hH (by omega)) [] rfl rfl hl.1 (Nat.le_of_ble_eq_true rfl) ⟨Nat.le_of_ble_eq_true rfl, Nat.le_of_ble_eq_true rfl⟩ ⟨Nat.le_refl _, Nat.le_refl _⟩ dX3_answer_41 (fun r5 g6 H locs h7 hH => ?_)
    rw [h7.2] at hH
    rw [h7.1]
    refine lv_istore (lv' := [(4, .int ((fMiss (upd v 145 ((v 145) + 1)) z n).1)), (3, .int 0), (0, .ref (a 0 0)), (1, .int (nI z)), (2, .int (n))]) hx hb dX3_answer_44 hl (by decide) rfl (fun ls hl => ?_)
    refine lv_aload_n hx hb dX3_answer_46 rfl (lv_at hl 2 rfl) ?_
    refine lv_dup hx hb dX3_answer_47 rfl ?_
    refine gn_X3_spent X hH q_130 dX3_answer_48 ?_
    refine lv_iload hx hb dX3_answer_51 (lv_at hl 0 rfl) ?_
    refine lv_iadd hx hb dX3_answer_53 ?_
    refine pn_X3_spent X hH q_130 dX3_answer_54 (fun H locs hH => ?_)
    refine lv_aload_n hx hb dX3_answer_57 rfl (lv_at hl 2 rfl) ?_
    refine lv_iload_n hx hb dX3_answer_58 rfl (lv_at hl 3 rfl) ?_
    refine z_callVr X hH (c_X3_tableUnder l D k a (zUp g 0 (upd ((fMiss (upd v 145 ((v 145) + 1)) z n).2) 148 ((((fMiss (upd v 145 ((v 145) + 1)) z n).2) 148) + ((fMiss (upd v 145 ((v 145) + 1)) z n).1)))) (z) (by omega)) k_X3_64 (rv_X3 X hH (by omega)) [] rfl rfl hl.1 (Nat.le_of_ble_eq_true rfl) ⟨Nat.le_of_ble_eq_true rfl, Nat.le_of_ble_eq_true rfl⟩ ⟨Nat.le_refl _, Nat.le_refl _⟩ dX3_answer_59 (fun H locs hH => ?_)
    refine lv_astore (lv' := [(5, .ref (a 0 (4 + z / 3))), (4, .int ((fMiss (upd v 145 ((v 145) + 1)) z n).1)), (3, .int 0), (0, .ref (a 0 0)), (1, .int (nI z)), (2, .int (n))]) hx hb dX3_answer_62 hl (by decide) rfl (fun ls hl => ?_)
    refine lv_aload hx hb dX3_answer_64 (lv_at hl 0 rfl) ?_
    refine lv_dup hx hb dX3_answer_66 rfl ?_
    refine gn_X4_questions X hH (by omega) q_42 dX3_answer_67 ?_
    rw [show (upd ((fMiss (upd v 145 ((v 145) + 1)) z n).2) 148 ((((fMiss (upd v 145 ((v 145) + 1)) z n).2) 148) + ((fMiss (upd v 145 ((v 145) + 1)) z n).1))) (152 + (z / 3)) = ((fMiss (upd v 145 ((v 145) + 1)) z n).2) (152 + (z / 3)) from (zu_n _ _ (by omega))]
    refine lv_iconst (v := 1) hx hb dX3_answer_70 (by decide) ?_
    refine lv_iadd hx hb dX3_answer_71 ?_
    refine pn_X4_questions X hH (by omega) q_42 dX3_answer_72 (fun H locs hH => ?_)
    refine lv_aload hx hb dX3_answer_75 (lv_at hl 0 rfl) ?_
    refine lv_dup hx hb dX3_answer_77 rfl ?_
    refine gn_X4_spent X hH (by omega) q_45 dX3_answer_78 ?_
    rw [show (upd (upd ((fMiss (upd v 145 ((v 145) + 1)) z n).2) 148 ((((fMiss (upd v 145 ((v 145) + 1)) z n).2) 148) + ((fMiss (upd v 145 ((v 145) + 1)) z n).1))) (152 + (z / 3)) ((((fMiss (upd v 145 ((v 145) + 1)) z n).2) (152 + (z / 3))) + 1)) (156 + (z / 3)) = ((fMiss (upd v 145 ((v 145) + 1)) z n).2) (156 + (z / 3)) from ((zu_n _ _ (by omega)).trans (zu_n _ _ (by omega)))]
    refine lv_iload hx hb dX3_answer_81 (lv_at hl 1 rfl) ?_
    refine lv_iadd hx hb dX3_answer_83 ?_
    refine pn_X4_spent X hH (by omega) q_45 dX3_answer_84 (fun H locs hH => ?_)
    refine lv_iload hx hb dX3_answer_87 (lv_at hl 1 rfl) ?_
    exact hret _ _ _ _ _ _ rfl ⟨by simp only [fAsk, fAskQ, c4, if_true, if_false], by simp only [fAsk, fAskQ, c4, if_true, if_false]⟩ hH dX3_answer_89
  · refine lv_iconst (v := 1) hx hb dX3_answer_9 (by decide) ?_
    refine lv_goto (tgt := 14) hx hb dX3_answer_10 (by decide) ?_
    refine lv_istore_n (lv' := [(3, .int 1), (0, .ref (a 0 0)), (1, .int (nI z)), (2, .int (n))]) hx hb dX3_answer_14 rfl hl (by decide) rfl (fun ls hl => ?_)
    refine lv_aload_n hx hb dX3_answer_15 rfl (lv_at hl 1 rfl) ?_
    refine lv_dup hx hb dX3_answer_16 rfl ?_
    refine gn_X3_questions X hH q_124 dX3_answer_17 ?_
    refine lv_iconst (v := 1) hx hb dX3_answer_20 (by decide) ?_
    refine lv_iadd hx hb dX3_answer_21 ?_
    refine pn_X3_questions X hH q_124 dX3_answer_22 (fun H locs hH => ?_)
    refine lv_iload_n hx hb dX3_answer_25 rfl (lv_at hl 0 rfl) ?_
    refine lv_if_eq (tgt := 38) hx hb dX3_answer_26 (by decide) (fun q => absurd q (by decide)) (fun _ => ?_)
    refine lv_aload_n hx hb dX3_answer_29 rfl (lv_at hl 1 rfl) ?_
    refine lv_iload_n hx hb dX3_answer_30 rfl (lv_at hl 2 rfl) ?_
    refine lv_iload_n hx hb dX3_answer_31 rfl (lv_at hl 3 rfl) ?_
    refine z_callVi X hH (c_X3_answerByPlan l D k a g (upd v 145 ((v 145) + 1)) (z) (by omega) n) k_X3_119 (rv_X3 X hH (by omega)) [] rfl rfl hl.1 (Nat.le_of_ble_eq_true rfl) ⟨Nat.le_of_ble_eq_true rfl, Nat.le_of_ble_eq_true rfl⟩ ⟨Nat.le_refl _, Nat.le_refl _⟩ dX3_answer_32 (fun r8 g9 H locs h10 hH => ?_)
    rw [h10.2] at hH
    rw [h10.1]
    refine lv_goto (tgt := 44) hx hb dX3_answer_35 (by decide) ?_
    refine lv_istore (lv' := [(4, .int ((fHit (upd v 145 ((v 145) + 1)) z n).1)), (3, .int 1), (0, .ref (a 0 0)), (1, .int (nI z)), (2, .int (n))]) hx hb dX3_answer_44 hl (by decide) rfl (fun ls hl => ?_)
    refine lv_aload_n hx hb dX3_answer_46 rfl (lv_at hl 2 rfl) ?_
    refine lv_dup hx hb dX3_answer_47 rfl ?_
    refine gn_X3_spent X hH q_130 dX3_answer_48 ?_
    refine lv_iload hx hb dX3_answer_51 (lv_at hl 0 rfl) ?_
    refine lv_iadd hx hb dX3_answer_53 ?_
    refine pn_X3_spent X hH q_130 dX3_answer_54 (fun H locs hH => ?_)
    refine lv_aload_n hx hb dX3_answer_57 rfl (lv_at hl 2 rfl) ?_
    refine lv_iload_n hx hb dX3_answer_58 rfl (lv_at hl 3 rfl) ?_
    refine z_callVr X hH (c_X3_tableUnder l D k a (zUp g 0 (upd ((fHit (upd v 145 ((v 145) + 1)) z n).2) 148 ((((fHit (upd v 145 ((v 145) + 1)) z n).2) 148) + ((fHit (upd v 145 ((v 145) + 1)) z n).1)))) (z) (by omega)) k_X3_64 (rv_X3 X hH (by omega)) [] rfl rfl hl.1 (Nat.le_of_ble_eq_true rfl) ⟨Nat.le_of_ble_eq_true rfl, Nat.le_of_ble_eq_true rfl⟩ ⟨Nat.le_refl _, Nat.le_refl _⟩ dX3_answer_59 (fun H locs hH => ?_)
    refine lv_astore (lv' := [(5, .ref (a 0 (4 + z / 3))), (4, .int ((fHit (upd v 145 ((v 145) + 1)) z n).1)), (3, .int 1), (0, .ref (a 0 0)), (1, .int (nI z)), (2, .int (n))]) hx hb dX3_answer_62 hl (by decide) rfl (fun ls hl => ?_)
    refine lv_aload hx hb dX3_answer_64 (lv_at hl 0 rfl) ?_
    refine lv_dup hx hb dX3_answer_66 rfl ?_
    refine gn_X4_questions X hH (by omega) q_42 dX3_answer_67 ?_
    rw [show (upd ((fHit (upd v 145 ((v 145) + 1)) z n).2) 148 ((((fHit (upd v 145 ((v 145) + 1)) z n).2) 148) + ((fHit (upd v 145 ((v 145) + 1)) z n).1))) (152 + (z / 3)) = ((fHit (upd v 145 ((v 145) + 1)) z n).2) (152 + (z / 3)) from (zu_n _ _ (by omega))]
    refine lv_iconst (v := 1) hx hb dX3_answer_70 (by decide) ?_
    refine lv_iadd hx hb dX3_answer_71 ?_
    refine pn_X4_questions X hH (by omega) q_42 dX3_answer_72 (fun H locs hH => ?_)
    refine lv_aload hx hb dX3_answer_75 (lv_at hl 0 rfl) ?_
    refine lv_dup hx hb dX3_answer_77 rfl ?_
    refine gn_X4_spent X hH (by omega) q_45 dX3_answer_78 ?_
    rw [show (upd (upd ((fHit (upd v 145 ((v 145) + 1)) z n).2) 148 ((((fHit (upd v 145 ((v 145) + 1)) z n).2) 148) + ((fHit (upd v 145 ((v 145) + 1)) z n).1))) (152 + (z / 3)) ((((fHit (upd v 145 ((v 145) + 1)) z n).2) (152 + (z / 3))) + 1)) (156 + (z / 3)) = ((fHit (upd v 145 ((v 145) + 1)) z n).2) (156 + (z / 3)) from ((zu_n _ _ (by omega)).trans (zu_n _ _ (by omega)))]
    refine lv_iload hx hb dX3_answer_81 (lv_at hl 1 rfl) ?_
    refine lv_iadd hx hb dX3_answer_83 ?_
    refine pn_X4_spent X hH (by omega) q_45 dX3_answer_84 (fun H locs hH => ?_)
    refine lv_iload hx hb dX3_answer_87 (lv_at hl 1 rfl) ?_
    exact hret _ _ _ _ _ _ rfl ⟨by simp only [fAsk, fAskQ, c4, if_true, if_false], by simp only [fAsk, fAskQ, c4, if_true, if_false]⟩ hH dX3_answer_89
