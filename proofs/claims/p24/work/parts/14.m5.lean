set_option maxRecDepth 100000 in
set_option maxHeartbeats 4000000 in
theorem c_X4_copyFrom (l : Launch) (D : va_G) (k : Nat → ClassId) (a : Nat → Nat → Nat) (g : Mem) (v : V) (i j : Nat) (hi : i < 6) (hj : j < 6) (hij : j ≠ i) (t : Nat) (ht : t < 4) : zV l yX4_copyFrom cX4_copyFrom 2 0 0 D k a [.ref (a i (4 + t)), .ref (a j (4 + t))] (zUp g i v) (fun g' => g' = (zUp g i (cpT v (g j) t))) := by
  refine zV_of (own := RX4) (by decide +kernel) rfl (Nat.le_of_ble_eq_true rfl) ?_
  intro p e s m args below meth c X Q hret hH ls hl
  obtain ⟨hx, hb, hml, hown, hts⟩ := X.1
  have hl : lv_has ls 2 [(0, .ref (a i (4 + t))), (1, .ref (a j (4 + t)))] := hl
  have hH : zH D k a s (zUp g i v) s.heap [] := hH
  refine lv_aload_n hx hb dX4_copyFrom_0 rfl (lv_at hl 0 rfl) ?_
  refine lv_aload_n hx hb dX4_copyFrom_1 rfl (lv_at hl 1 rfl) ?_
  refine g2_X4_rows X hi hj hij (by omega) hH q_35 dX4_copyFrom_2 ?_
  refine p2_X4_rows X hi (by omega) hH q_35 dX4_copyFrom_5 (fun H locs hH => ?_)
  refine lv_aload_n hx hb dX4_copyFrom_8 rfl (lv_at hl 0 rfl) ?_
  refine lv_aload_n hx hb dX4_copyFrom_9 rfl (lv_at hl 1 rfl) ?_
  refine g2_X4_keys X hi hj hij (by omega) hH q_38 dX4_copyFrom_10 ?_
  refine p2_X4_keys X hi (by omega) hH q_38 dX4_copyFrom_13 (fun H locs hH => ?_)
  refine lv_aload_n hx hb dX4_copyFrom_16 rfl (lv_at hl 0 rfl) ?_
  refine lv_aload_n hx hb dX4_copyFrom_17 rfl (lv_at hl 1 rfl) ?_
  refine g2_X4_questions X hi hj hij (by omega) hH q_41 dX4_copyFrom_18 ?_
  refine p2_X4_questions X hi (by omega) hH q_41 dX4_copyFrom_21 (fun H locs hH => ?_)
  refine lv_aload_n hx hb dX4_copyFrom_24 rfl (lv_at hl 0 rfl) ?_
  refine lv_aload_n hx hb dX4_copyFrom_25 rfl (lv_at hl 1 rfl) ?_
  refine g2_X4_spent X hi hj hij (by omega) hH q_44 dX4_copyFrom_26 ?_
  refine p2_X4_spent X hi (by omega) hH q_44 dX4_copyFrom_29 (fun H locs hH => ?_)
  exact hret _ _ _ _ _ (rfl) hH dX4_copyFrom_32
set_option maxRecDepth 100000 in
set_option maxHeartbeats 4000000 in
theorem c_X1_copyFrom (l : Launch) (D : va_G) (k : Nat → ClassId) (a : Nat → Nat → Nat) (g : Mem) (v : V) (i j : Nat) (hi : i < 6) (hj : j < 6) (hij : j ≠ i) (t : Nat) (ht : t < 12) (hf : zFl (g j)) : zV l yX1_copyFrom cX1_copyFrom 2 0 0 D k a [.ref (a i (8 + t)), .ref (a j (8 + t))] (zUp g i v) (fun g' => g' = (zUp g i (cpP v (g j) t))) := by
  refine zV_of (own := RX1) (by decide +kernel) rfl (Nat.le_of_ble_eq_true rfl) ?_
  intro p e s m args below meth c X Q hret hH ls hl
  obtain ⟨hx, hb, hml, hown, hts⟩ := X.1
  have hl : lv_has ls 2 [(0, .ref (a i (8 + t))), (1, .ref (a j (8 + t)))] := hl
  have hH : zH D k a s (zUp g i v) s.heap [] := hH
  refine lv_aload_n hx hb dX1_copyFrom_0 rfl (lv_at hl 0 rfl) ?_
  refine lv_aload_n hx hb dX1_copyFrom_1 rfl (lv_at hl 1 rfl) ?_
  refine g2_X1_kept X hi hj hij (by omega) hH q_62 dX1_copyFrom_2 ?_
  refine p2_X1_kept X hi (by omega) hH (hf t (by omega)).1 q_62 dX1_copyFrom_5 (fun H locs hH => ?_)
  refine lv_aload_n hx hb dX1_copyFrom_8 rfl (lv_at hl 0 rfl) ?_
  refine lv_aload_n hx hb dX1_copyFrom_9 rfl (lv_at hl 1 rfl) ?_
  refine g2_X1_pinned X hi hj hij (by omega) hH q_65 dX1_copyFrom_10 ?_
  refine p2_X1_pinned X hi (by omega) hH (hf t (by omega)).2 q_65 dX1_copyFrom_13 (fun H locs hH => ?_)
  refine lv_aload_n hx hb dX1_copyFrom_16 rfl (lv_at hl 0 rfl) ?_
  refine lv_aload_n hx hb dX1_copyFrom_17 rfl (lv_at hl 1 rfl) ?_
  refine g2_X1_way X hi hj hij (by omega) hH q_68 dX1_copyFrom_18 ?_
  refine p2_X1_way X hi (by omega) hH q_68 dX1_copyFrom_21 (fun H locs hH => ?_)
  refine lv_aload_n hx hb dX1_copyFrom_24 rfl (lv_at hl 0 rfl) ?_
  refine lv_aload_n hx hb dX1_copyFrom_25 rfl (lv_at hl 1 rfl) ?_
  refine g2_X1_least X hi hj hij (by omega) hH q_71 dX1_copyFrom_26 ?_
  refine p2_X1_least X hi (by omega) hH q_71 dX1_copyFrom_29 (fun H locs hH => ?_)
  refine lv_aload_n hx hb dX1_copyFrom_32 rfl (lv_at hl 0 rfl) ?_
  refine lv_aload_n hx hb dX1_copyFrom_33 rfl (lv_at hl 1 rfl) ?_
  refine g2_X1_most X hi hj hij (by omega) hH q_74 dX1_copyFrom_34 ?_
  refine p2_X1_most X hi (by omega) hH q_74 dX1_copyFrom_37 (fun H locs hH => ?_)
  refine lv_aload_n hx hb dX1_copyFrom_40 rfl (lv_at hl 0 rfl) ?_
  refine lv_aload_n hx hb dX1_copyFrom_41 rfl (lv_at hl 1 rfl) ?_
  refine g2_X1_number X hi hj hij (by omega) hH q_77 dX1_copyFrom_42 ?_
  refine p2_X1_number X hi (by omega) hH q_77 dX1_copyFrom_45 (fun H locs hH => ?_)
  refine lv_aload_n hx hb dX1_copyFrom_48 rfl (lv_at hl 0 rfl) ?_
  refine lv_aload_n hx hb dX1_copyFrom_49 rfl (lv_at hl 1 rfl) ?_
  refine g2_X1_guess X hi hj hij (by omega) hH q_80 dX1_copyFrom_50 ?_
  refine p2_X1_guess X hi (by omega) hH q_80 dX1_copyFrom_53 (fun H locs hH => ?_)
  refine lv_aload_n hx hb dX1_copyFrom_56 rfl (lv_at hl 0 rfl) ?_
  refine lv_aload_n hx hb dX1_copyFrom_57 rfl (lv_at hl 1 rfl) ?_
  refine g2_X1_rows X hi hj hij (by omega) hH q_83 dX1_copyFrom_58 ?_
  refine p2_X1_rows X hi (by omega) hH q_83 dX1_copyFrom_61 (fun H locs hH => ?_)
  refine lv_aload_n hx hb dX1_copyFrom_64 rfl (lv_at hl 0 rfl) ?_
  refine lv_aload_n hx hb dX1_copyFrom_65 rfl (lv_at hl 1 rfl) ?_
  refine g2_X1_uses X hi hj hij (by omega) hH q_86 dX1_copyFrom_66 ?_
  refine p2_X1_uses X hi (by omega) hH q_86 dX1_copyFrom_69 (fun H locs hH => ?_)
  refine lv_aload_n hx hb dX1_copyFrom_72 rfl (lv_at hl 0 rfl) ?_
  refine lv_aload_n hx hb dX1_copyFrom_73 rfl (lv_at hl 1 rfl) ?_
  refine g2_X1_madeAt X hi hj hij (by omega) hH q_89 dX1_copyFrom_74 ?_
  refine p2_X1_madeAt X hi (by omega) hH q_89 dX1_copyFrom_77 (fun H locs hH => ?_)
  refine lv_aload_n hx hb dX1_copyFrom_80 rfl (lv_at hl 0 rfl) ?_
  refine lv_aload_n hx hb dX1_copyFrom_81 rfl (lv_at hl 1 rfl) ?_
  refine g2_X1_usedAt X hi hj hij (by omega) hH q_92 dX1_copyFrom_82 ?_
  refine p2_X1_usedAt X hi (by omega) hH q_92 dX1_copyFrom_85 (fun H locs hH => ?_)
  exact hret _ _ _ _ _ (rfl) hH dX1_copyFrom_88
set_option maxRecDepth 100000 in
set_option maxHeartbeats 4000000 in
theorem c_X3_copyFrom (l : Launch) (D : va_G) (k : Nat → ClassId) (a : Nat → Nat → Nat) (g : Mem) (v : V) (i j : Nat) (hi : i < 6) (hj : j < 6) (hij : j ≠ i) (hf : zFl (g j)) : zV l yX3_copyFrom cX3_copyFrom 3 1 21 D k a [.ref (a i 0), .ref (a j 0)] (zUp g i v) (fun g' => g' = (zUp g i (cpAll v (g j)))) := by
  refine zV_of (own := RX3) (by decide +kernel) rfl (Nat.le_of_ble_eq_true rfl) ?_
  intro p e s m args below meth c X Q hret hH ls hl
  obtain ⟨hx, hb, hml, hown, hts⟩ := X.1
  have hl : lv_has ls 3 [(0, .ref (a i 0)), (1, .ref (a j 0))] := hl
  have hH : zH D k a s (zUp g i v) s.heap [] := hH
  refine lv_iconst (v := 0) hx hb dX3_copyFrom_0 (by decide) ?_
  refine lv_istore_n (lv' := [(2, .int 0), (0, .ref (a i 0)), (1, .ref (a j 0))]) hx hb dX3_copyFrom_1 rfl hl (by decide) rfl (fun ls hl => ?_)
  have Lp2 : ∀ (jx n : Nat), n + jx = 4 → ∀ (H : Heap) (locs : List Loc) (ls : Array Slot), zH D k a s (zUp g i (cpTs v (g j) n)) H locs → lv_has ls 3 [(2, .int (nI n)), (0, .ref (a i 0)), (1, .ref (a j 0))] → W p l e (zRoom 1 21) s m args below meth c H locs 0 0 Q (F0 m 2 ls []) := by
    intro jx
    induction jx with
    | zero =>
      intro n hix H locs ls hH hl
      obtain rfl : n = 4 := by omega
      refine lv_iload_n hx hb dX3_copyFrom_2 rfl (lv_at hl 0 rfl) ?_
      refine lv_iconst (v := 4) hx hb dX3_copyFrom_3 (by decide) ?_
      refine n_icmp_ge (A := 4) (B := 4) (tgt := 28) hx hb (by omega) (by omega) dX3_copyFrom_4 (by decide) (fun c1 => ?_) (fun q => absurd q (by omega))
      refine lv_iconst (v := 0) hx hb dX3_copyFrom_28 (by decide) ?_
      refine lv_istore_n (lv' := [(2, .int 0), (0, .ref (a i 0)), (1, .ref (a j 0))]) hx hb dX3_copyFrom_29 rfl hl (by decide) rfl (fun ls hl => ?_)
      have Lp30 : ∀ (jx n : Nat), n + jx = 12 → ∀ (H : Heap) (locs : List Loc) (ls : Array Slot), zH D k a s (zUp g i (cpPs (cpTs v (g j) 4) (g j) n)) H locs → lv_has ls 3 [(2, .int (nI n)), (0, .ref (a i 0)), (1, .ref (a j 0))] → W p l e (zRoom 1 21) s m args below meth c H locs 0 0 Q (F0 m 30 ls []) := by
        intro jx
        induction jx with
        | zero =>
          intro n hix H locs ls hH hl
          obtain rfl : n = 12 := by omega
          refine lv_iload_n hx hb dX3_copyFrom_30 rfl (lv_at hl 0 rfl) ?_
          refine lv_bipush (v := 12) hx hb dX3_copyFrom_31 (by decide) ?_
          refine n_icmp_ge (A := 12) (B := 12) (tgt := 57) hx hb (by omega) (by omega) dX3_copyFrom_33 (by decide) (fun c2 => ?_) (fun q => absurd q (by omega))
          refine lv_iconst (v := 0) hx hb dX3_copyFrom_57 (by decide) ?_
          refine lv_istore_n (lv' := [(2, .int 0), (0, .ref (a i 0)), (1, .ref (a j 0))]) hx hb dX3_copyFrom_58 rfl hl (by decide) rfl (fun ls hl => ?_)
          have Lp59 : ∀ (jx n : Nat), n + jx = 5 → ∀ (H : Heap) (locs : List Loc) (ls : Array Slot), zH D k a s (zUp g i (cpSs (cpPs (cpTs v (g j) 4) (g j) 12) (g j) n)) H locs → lv_has ls 3 [(2, .int (nI n)), (0, .ref (a i 0)), (1, .ref (a j 0))] → W p l e (zRoom 1 21) s m args below meth c H locs 0 0 Q (F0 m 59 ls []) := by
            intro jx
            induction jx with
            | zero =>
              intro n hix H locs ls hH hl
              obtain rfl : n = 5 := by omega
              refine lv_iload_n hx hb dX3_copyFrom_59 rfl (lv_at hl 0 rfl) ?_
              refine lv_iconst (v := 5) hx hb dX3_copyFrom_60 (by decide) ?_
              refine n_icmp_ge (A := 5) (B := 5) (tgt := 82) hx hb (by omega) (by omega) dX3_copyFrom_61 (by decide) (fun c3 => ?_) (fun q => absurd q (by omega))
              refine lv_aload_n hx hb dX3_copyFrom_82 rfl (lv_at hl 1 rfl) ?_
              refine lv_aload_n hx hb dX3_copyFrom_83 rfl (lv_at hl 2 rfl) ?_
              refine g2_X3_questions X hi hj hij hH q_124 dX3_copyFrom_84 ?_
              refine p2_X3_questions X hi hH q_124 dX3_copyFrom_87 (fun H locs hH => ?_)
              refine lv_aload_n hx hb dX3_copyFrom_90 rfl (lv_at hl 1 rfl) ?_
              refine lv_aload_n hx hb dX3_copyFrom_91 rfl (lv_at hl 2 rfl) ?_
              refine g2_X3_hits X hi hj hij hH q_126 dX3_copyFrom_92 ?_
              refine p2_X3_hits X hi hH q_126 dX3_copyFrom_95 (fun H locs hH => ?_)
              refine lv_aload_n hx hb dX3_copyFrom_98 rfl (lv_at hl 1 rfl) ?_
              refine lv_aload_n hx hb dX3_copyFrom_99 rfl (lv_at hl 2 rfl) ?_
              refine g2_X3_misses X hi hj hij hH q_128 dX3_copyFrom_100 ?_
              refine p2_X3_misses X hi hH q_128 dX3_copyFrom_103 (fun H locs hH => ?_)
              refine lv_aload_n hx hb dX3_copyFrom_106 rfl (lv_at hl 1 rfl) ?_
              refine lv_aload_n hx hb dX3_copyFrom_107 rfl (lv_at hl 2 rfl) ?_
              refine g2_X3_spent X hi hj hij hH q_130 dX3_copyFrom_108 ?_
              refine p2_X3_spent X hi hH q_130 dX3_copyFrom_111 (fun H locs hH => ?_)
              refine lv_aload_n hx hb dX3_copyFrom_114 rfl (lv_at hl 1 rfl) ?_
              refine lv_aload_n hx hb dX3_copyFrom_115 rfl (lv_at hl 2 rfl) ?_
              refine g2_X3_spentLooking X hi hj hij hH q_132 dX3_copyFrom_116 ?_
              refine p2_X3_spentLooking X hi hH q_132 dX3_copyFrom_119 (fun H locs hH => ?_)
              refine lv_aload_n hx hb dX3_copyFrom_122 rfl (lv_at hl 1 rfl) ?_
              refine lv_aload_n hx hb dX3_copyFrom_123 rfl (lv_at hl 2 rfl) ?_
              refine g2_X3_turnedBad X hi hj hij hH q_134 dX3_copyFrom_124 ?_
              refine p2_X3_turnedBad X hi hH q_134 dX3_copyFrom_127 (fun H locs hH => ?_)
              refine lv_aload_n hx hb dX3_copyFrom_130 rfl (lv_at hl 1 rfl) ?_
              refine lv_aload_n hx hb dX3_copyFrom_131 rfl (lv_at hl 2 rfl) ?_
              refine g2_X3_crowdedOut X hi hj hij hH q_136 dX3_copyFrom_132 ?_
              refine p2_X3_crowdedOut X hi hH q_136 dX3_copyFrom_135 (fun H locs hH => ?_)
              exact hret _ _ _ _ _ (rfl) hH dX3_copyFrom_138
            | succ jx ih =>
              intro n hix H locs ls hH hl
              have hi59 : n < 5 := by omega
              refine lv_iload_n hx hb dX3_copyFrom_59 rfl (lv_at hl 0 rfl) ?_
              refine lv_iconst (v := 5) hx hb dX3_copyFrom_60 (by decide) ?_
              refine n_icmp_ge (A := n) (B := 5) (tgt := 82) hx hb (by omega) (by omega) dX3_copyFrom_61 (by decide) (fun q => absurd q (by omega)) (fun c4 => ?_)
              refine lv_aload_n hx hb dX3_copyFrom_64 rfl (lv_at hl 1 rfl) ?_
              refine gf_X3_settings X hH (by omega) q_122 dX3_copyFrom_65 ?_
              refine lv_iload_n hx hb dX3_copyFrom_68 rfl (lv_at hl 0 rfl) ?_
              refine lv_aload_n hx hb dX3_copyFrom_69 rfl (lv_at hl 2 rfl) ?_
              refine gf_X3_settings X hH (by omega) q_122 dX3_copyFrom_70 ?_
              refine lv_iload_n hx hb dX3_copyFrom_73 rfl (lv_at hl 0 rfl) ?_
              refine a2_sets X hi hj hij hH (n) (by omega) dX3_copyFrom_74 ?_
              refine s2_sets X hi hH (n) (by omega) dX3_copyFrom_75 (fun H locs hH => ?_)
              refine lv_iinc (v := nI (n + 1)) (lv' := [(2, .int (nI (n + 1))), (0, .ref (a i 0)), (1, .ref (a j 0))]) hx hb dX3_copyFrom_76 hl (k := 0) rfl (z_inc1 _) (by decide) rfl (fun ls hl => ?_)
              refine lv_goto (tgt := 59) hx hb dX3_copyFrom_79 (by decide) ?_
              refine ih (n + 1) (by omega) _ _ _ ?_ ?_
              · rw [show (zUp g i (cpSs (cpPs (cpTs v (g j) 4) (g j) 12) (g j) (n + 1))) = (zUp g i (upd (cpSs (cpPs (cpTs v (g j) 4) (g j) 12) (g j) n) (8 + n) (g j (8 + n)))) from by rfl]; exact hH
              · exact lv_sub hl [0, 1, 2] rfl
          refine Lp59 (5) 0 (by omega) _ _ _ ?_ ?_
          · rw [show (zUp g i (cpSs (cpPs (cpTs v (g j) 4) (g j) 12) (g j) 0)) = (zUp g i (cpPs (cpTs v (g j) 4) (g j) 12)) from by rfl]; exact hH
          · rw [show (nI 0 : Int32) = 0 from by rfl]; exact lv_sub hl [0, 1, 2] rfl
        | succ jx ih =>
          intro n hix H locs ls hH hl
          have hi30 : n < 12 := by omega
          refine lv_iload_n hx hb dX3_copyFrom_30 rfl (lv_at hl 0 rfl) ?_
          refine lv_bipush (v := 12) hx hb dX3_copyFrom_31 (by decide) ?_
          refine n_icmp_ge (A := n) (B := 12) (tgt := 57) hx hb (by omega) (by omega) dX3_copyFrom_33 (by decide) (fun q => absurd q (by omega)) (fun c5 => ?_)
          refine lv_aload_n hx hb dX3_copyFrom_36 rfl (lv_at hl 1 rfl) ?_
          refine gf_X3_plans X hH (by omega) q_120 dX3_copyFrom_37 ?_
          refine lv_iload_n hx hb dX3_copyFrom_40 rfl (lv_at hl 0 rfl) ?_
          refine ar_plans X hH (by omega) (n) (by omega) dX3_copyFrom_41 ?_
          refine lv_aload_n hx hb dX3_copyFrom_42 rfl (lv_at hl 2 rfl) ?_
          refine gf_X3_plans X hH (by omega) q_120 dX3_copyFrom_43 ?_
          refine lv_iload_n hx hb dX3_copyFrom_46 rfl (lv_at hl 0 rfl) ?_
          refine ar_plans X hH (by omega) (n) (by omega) dX3_copyFrom_47 ?_
          refine z_callVv X hH (c_X1_copyFrom l D k a g (cpPs (cpTs v (g j) 4) (g j) n) i j hi hj hij (n) (by omega) hf) k_X3_33 (rv_X1 X hH (by omega) (by omega)) [] rfl rfl hl.1 (Nat.le_of_ble_eq_true rfl) ⟨Nat.le_of_ble_eq_true rfl, Nat.le_of_ble_eq_true rfl⟩ ⟨Nat.le_refl _, Nat.le_refl _⟩ dX3_copyFrom_48 (fun g6 H locs h7 hH => ?_)
          rw [h7] at hH
          refine lv_iinc (v := nI (n + 1)) (lv' := [(2, .int (nI (n + 1))), (0, .ref (a i 0)), (1, .ref (a j 0))]) hx hb dX3_copyFrom_51 hl (k := 0) rfl (z_inc1 _) (by decide) rfl (fun ls hl => ?_)
          refine lv_goto (tgt := 30) hx hb dX3_copyFrom_54 (by decide) ?_
          refine ih (n + 1) (by omega) _ _ _ ?_ ?_
          · rw [show (zUp g i (cpPs (cpTs v (g j) 4) (g j) (n + 1))) = (zUp g i (cpP (cpPs (cpTs v (g j) 4) (g j) n) (g j) n)) from by rfl]; exact hH
          · exact lv_sub hl [0, 1, 2] rfl
      refine Lp30 (12) 0 (by omega) _ _ _ ?_ ?_
      · rw [show (zUp g i (cpPs (cpTs v (g j) 4) (g j) 0)) = (zUp g i (cpTs v (g j) 4)) from by rfl]; exact hH
      · rw [show (nI 0 : Int32) = 0 from by rfl]; exact lv_sub hl [0, 1, 2] rfl
    | succ jx ih =>
      intro n hix H locs ls hH hl
      have hi2 : n < 4 := by omega
      refine lv_iload_n hx hb dX3_copyFrom_2 rfl (lv_at hl 0 rfl) ?_
      refine lv_iconst (v := 4) hx hb dX3_copyFrom_3 (by decide) ?_
      refine n_icmp_ge (A := n) (B := 4) (tgt := 28) hx hb (by omega) (by omega) dX3_copyFrom_4 (by decide) (fun q => absurd q (by omega)) (fun c8 => ?_)
      refine lv_aload_n hx hb dX3_copyFrom_7 rfl (lv_at hl 1 rfl) ?_
      refine gf_X3_tables X hH (by omega) q_118 dX3_copyFrom_8 ?_
      refine lv_iload_n hx hb dX3_copyFrom_11 rfl (lv_at hl 0 rfl) ?_
      refine ar_tabs X hH (by omega) (n) (by omega) dX3_copyFrom_12 ?_
      refine lv_aload_n hx hb dX3_copyFrom_13 rfl (lv_at hl 2 rfl) ?_
      refine gf_X3_tables X hH (by omega) q_118 dX3_copyFrom_14 ?_
      refine lv_iload_n hx hb dX3_copyFrom_17 rfl (lv_at hl 0 rfl) ?_
      refine ar_tabs X hH (by omega) (n) (by omega) dX3_copyFrom_18 ?_
      refine z_callVv X hH (c_X4_copyFrom l D k a g (cpTs v (g j) n) i j hi hj hij (n) (by omega)) k_X3_29 (rv_X4 X hH (by omega) (by omega)) [] rfl rfl hl.1 (Nat.le_of_ble_eq_true rfl) ⟨Nat.le_of_ble_eq_true rfl, Nat.le_of_ble_eq_true rfl⟩ ⟨Nat.le_refl _, Nat.le_refl _⟩ dX3_copyFrom_19 (fun g9 H locs h10 hH => ?_)
      rw [h10] at hH
      refine lv_iinc (v := nI (n + 1)) (lv' := [(2, .int (nI (n + 1))), (0, .ref (a i 0)), (1, .ref (a j 0))]) hx hb dX3_copyFrom_22 hl (k := 0) rfl (z_inc1 _) (by decide) rfl (fun ls hl => ?_)
      refine lv_goto (tgt := 2) hx hb dX3_copyFrom_25 (by decide) ?_
      refine ih (n + 1) (by omega) _ _ _ ?_ ?_
      · rw [show (zUp g i (cpTs v (g j) (n + 1))) = (zUp g i (cpT (cpTs v (g j) n) (g j) n)) from by rfl]; exact hH
      · exact lv_sub hl [0, 1, 2] rfl
  refine Lp2 (4) 0 (by omega) _ _ _ ?_ ?_
  · rw [show (zUp g i (cpTs v (g j) 0)) = (zUp g i v) from by rfl]; exact hH
  · rw [show (nI 0 : Int32) = 0 from by rfl]; exact lv_sub hl [0, 1, 2] rfl
