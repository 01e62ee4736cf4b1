set_option maxRecDepth 100000 in
set_option maxHeartbeats 4000000 in
theorem c_X6_oldestOf (l : Launch) (D : va_G) (k : Nat → ClassId) (a : Nat → Nat → Nat) (g : Mem) (B : Nat) (hB : B < 7) (v u : V) (hf : zFl v) : zI l yX6_oldestOf cX6_oldestOf 6 .int 1 21 D k a [.ref (a 6 8), .int (nI (160 * B))] (zM g B v u) (fun r g' => r = (fOldest v) ∧ g' = (zM g B v u)) := by
  refine zI_of (own := RX6) (by decide +kernel) rfl (Nat.le_of_ble_eq_true rfl) ?_
  intro p e s m args below meth c X Q hret hH ls hl
  obtain ⟨hx, hb, hml, hown, hts⟩ := X.1
  have hl : lv_has ls 6 [(0, .ref (a 6 8)), (1, .int (nI (160 * B)))] := hl
  have hH : zH D k a s (zM g B v u) s.heap [] := hH
  refine lv_bipush (v := (-4)) hx hb dX6_oldestOf_0 (by decide) ?_
  refine lv_istore_n (lv' := [(2, .int (-4)), (0, .ref (a 6 8)), (1, .int (nI (160 * B)))]) hx hb dX6_oldestOf_2 rfl hl (by decide) rfl (fun ls hl => ?_)
  refine lv_bipush (v := 11) hx hb dX6_oldestOf_3 (by decide) ?_
  refine lv_istore_n (lv' := [(3, .int 11), (2, .int (-4)), (0, .ref (a 6 8)), (1, .int (nI (160 * B)))]) hx hb dX6_oldestOf_5 rfl hl (by decide) rfl (fun ls hl => ?_)
  have Lp : ∀ (jx i : Nat), i + jx = 12 → ∀ (H : Heap) (locs : List Loc) (ls : Array Slot), zH D k a s (zM g B v u) H locs → lv_has ls 6 [(3, .int (11 - nI i)), (2, .int (fOd v i)), (0, .ref (a 6 8)), (1, .int (nI (160 * B)))] → W p l e (zRoom 1 21) s m args below meth c H locs 0 0 Q (F0 m 6 ls []) := by
    intro jx
    induction jx with
    | zero =>
      intro i hix H locs ls hH hl
      have hi : i = 12 := by omega
      refine lv_iload_n hx hb dX6_oldestOf_6 rfl (lv_at hl 0 rfl) ?_
      refine i_if_lt (tgt := 95) hx hb dX6_oldestOf_7 (by decide) (fun c1 => ?_) (fun q => absurd ((z_k0 (by omega)).mpr hi) q)
      refine lv_iload_n hx hb dX6_oldestOf_95 rfl (lv_at hl 1 rfl) ?_
      exact hret _ _ _ _ _ _ rfl ⟨by rw [hi, fOd_eq hf], rfl⟩ hH dX6_oldestOf_96
    | succ jx ih =>
      intro i hix H locs ls hH hl
      have hi : i < 12 := by omega
      have hfd := fOd_nat v i (by omega)
      refine lv_iload_n hx hb dX6_oldestOf_6 rfl (lv_at hl 0 rfl) ?_
      refine i_if_lt (tgt := 95) hx hb dX6_oldestOf_7 (by decide) (fun q => absurd ((z_k0 (by omega)).mp q) (by omega)) (fun c2 => ?_)
      rw [z_km (show i ≤ 11 by omega)] at hl
      refine lv_iload_n hx hb dX6_oldestOf_10 rfl (lv_at hl 3 rfl) ?_
      refine lv_iload_n hx hb dX6_oldestOf_11 rfl (lv_at hl 0 rfl) ?_
      refine z_callSi X hH (c_X6_planAt l D k a (zM g B v u) B (11 - i)) k_X6_38 [] rfl rfl hl.1 (Nat.le_of_ble_eq_true rfl) ⟨Nat.le_of_ble_eq_true rfl, Nat.le_of_ble_eq_true rfl⟩ ⟨Nat.le_refl _, Nat.le_refl _⟩ dX6_oldestOf_12 (fun r3 g4 H locs h5 hH => ?_)
      rw [h5.2] at hH
      rw [h5.1]
      refine lv_istore (lv' := [(4, .int (nI (160 * B + 13 + 11 * (11 - i)))), (3, .int (nI (11 - i))), (2, .int (fOd v i)), (0, .ref (a 6 8)), (1, .int (nI (160 * B)))]) hx hb dX6_oldestOf_15 hl (by decide) rfl (fun ls hl => ?_)
      refine lv_aload_n hx hb dX6_oldestOf_17 rfl (lv_at hl 3 rfl) ?_
      refine gf_X6_s X hH q_576 dX6_oldestOf_18 ?_
      refine lv_iload hx hb dX6_oldestOf_21 (lv_at hl 0 rfl) ?_
      refine am_s X (by omega) hH (13 + 11 * (11 - i) + 0) (by omega) (by omega) dX6_oldestOf_23 ?_
      refine lv_iconst (v := 1) hx hb dX6_oldestOf_24 (by decide) ?_
      refine lv_icmp_ne (tgt := 45) hx hb dX6_oldestOf_25 (by decide) (fun c6 => ?_) (fun c6 => ?_)
      · refine lv_iconst (v := 0) hx hb dX6_oldestOf_45 (by decide) ?_
        refine lv_istore (lv' := [(5, .int 0), (4, .int (nI (160 * B + 13 + 11 * (11 - i)))), (3, .int (nI (11 - i))), (2, .int (fOd v i)), (0, .ref (a 6 8)), (1, .int (nI (160 * B)))]) hx hb dX6_oldestOf_46 hl (by decide) rfl (fun ls hl => ?_)
        refine lv_iload hx hb dX6_oldestOf_48 (lv_at hl 0 rfl) ?_
        refine lv_if_eq (tgt := 87) hx hb dX6_oldestOf_50 (by decide) (fun _ => ?_) (fun q => absurd (by decide) q)
        refine lv_iload_n hx hb dX6_oldestOf_87 rfl (lv_at hl 3 rfl) ?_
        refine lv_istore_n (lv' := [(2, .int (fOd v i)), (5, .int 0), (4, .int (nI (160 * B + 13 + 11 * (11 - i)))), (3, .int (nI (11 - i))), (0, .ref (a 6 8)), (1, .int (nI (160 * B)))]) hx hb dX6_oldestOf_88 rfl hl (by decide) rfl (fun ls hl => ?_)
        refine lv_iinc (v := 11 - nI (i + 1)) (lv' := [(3, .int (11 - nI (i + 1))), (2, .int (fOd v i)), (5, .int 0), (4, .int (nI (160 * B + 13 + 11 * (11 - i)))), (0, .ref (a 6 8)), (1, .int (nI (160 * B)))]) hx hb dX6_oldestOf_89 hl (k := 3) rfl (z_kd (by omega)) (by decide) rfl (fun ls hl => ?_)
        refine lv_goto (tgt := 6) hx hb dX6_oldestOf_92 (by decide) ?_
        refine ih (i + 1) (by omega) _ _ _ hH ?_
        rw [show fOd v (i + 1) = fOd v i from by simp only [fOd, c6, not_true_eq_false, not_false_eq_true, and_self, and_true, true_and, and_false, false_and, true_or, or_true, false_or, or_false, if_true, if_false, z10]]
        exact lv_sub hl [0, 1, 4, 5] rfl
      · refine lv_aload_n hx hb dX6_oldestOf_28 rfl (lv_at hl 3 rfl) ?_
        refine gf_X6_s X hH q_576 dX6_oldestOf_29 ?_
        refine lv_iload hx hb dX6_oldestOf_32 (lv_at hl 0 rfl) ?_
        refine lv_bipush (v := 8) hx hb dX6_oldestOf_34 (by decide) ?_
        refine n_iadd (A := 160 * B + 13 + 11 * (11 - i)) (B := 8) hx hb (160 * B + 13 + 11 * (11 - i) + 8) (by omega) dX6_oldestOf_36 ?_
        refine am_s X (by omega) hH (13 + 11 * (11 - i) + 8) (by omega) (by omega) dX6_oldestOf_37 ?_
        refine lv_if_ne (tgt := 45) hx hb dX6_oldestOf_38 (by decide) (fun c7 => ?_) (fun c7 => ?_)
        · refine lv_iconst (v := 0) hx hb dX6_oldestOf_45 (by decide) ?_
          refine lv_istore (lv' := [(5, .int 0), (4, .int (nI (160 * B + 13 + 11 * (11 - i)))), (3, .int (nI (11 - i))), (2, .int (fOd v i)), (0, .ref (a 6 8)), (1, .int (nI (160 * B)))]) hx hb dX6_oldestOf_46 hl (by decide) rfl (fun ls hl => ?_)
          refine lv_iload hx hb dX6_oldestOf_48 (lv_at hl 0 rfl) ?_
          refine lv_if_eq (tgt := 87) hx hb dX6_oldestOf_50 (by decide) (fun _ => ?_) (fun q => absurd (by decide) q)
          refine lv_iload_n hx hb dX6_oldestOf_87 rfl (lv_at hl 3 rfl) ?_
          refine lv_istore_n (lv' := [(2, .int (fOd v i)), (5, .int 0), (4, .int (nI (160 * B + 13 + 11 * (11 - i)))), (3, .int (nI (11 - i))), (0, .ref (a 6 8)), (1, .int (nI (160 * B)))]) hx hb dX6_oldestOf_88 rfl hl (by decide) rfl (fun ls hl => ?_)
          refine lv_iinc (v := 11 - nI (i + 1)) (lv' := [(3, .int (11 - nI (i + 1))), (2, .int (fOd v i)), (5, .int 0), (4, .int (nI (160 * B + 13 + 11 * (11 - i)))), (0, .ref (a 6 8)), (1, .int (nI (160 * B)))]) hx hb dX6_oldestOf_89 hl (k := 3) rfl (z_kd (by omega)) (by decide) rfl (fun ls hl => ?_)
          refine lv_goto (tgt := 6) hx hb dX6_oldestOf_92 (by decide) ?_
          refine ih (i + 1) (by omega) _ _ _ hH ?_
          rw [show fOd v (i + 1) = fOd v i from by simp only [fOd, c6, c7, not_true_eq_false, not_false_eq_true, and_self, and_true, true_and, and_false, false_and, true_or, or_true, false_or, or_false, if_true, if_false, z10]]
          exact lv_sub hl [0, 1, 4, 5] rfl
        · refine lv_iconst (v := 1) hx hb dX6_oldestOf_41 (by decide) ?_
          refine lv_goto (tgt := 46) hx hb dX6_oldestOf_42 (by decide) ?_
          refine lv_istore (lv' := [(5, .int 1), (4, .int (nI (160 * B + 13 + 11 * (11 - i)))), (3, .int (nI (11 - i))), (2, .int (fOd v i)), (0, .ref (a 6 8)), (1, .int (nI (160 * B)))]) hx hb dX6_oldestOf_46 hl (by decide) rfl (fun ls hl => ?_)
          refine lv_iload hx hb dX6_oldestOf_48 (lv_at hl 0 rfl) ?_
          refine lv_if_eq (tgt := 87) hx hb dX6_oldestOf_50 (by decide) (fun q => absurd q (by decide)) (fun _ => ?_)
          refine lv_iload_n hx hb dX6_oldestOf_53 rfl (lv_at hl 3 rfl) ?_
          refine i_if_lt (tgt := 83) hx hb dX6_oldestOf_54 (by decide) (fun c8 => ?_) (fun c8 => ?_)
          · refine lv_iload_n hx hb dX6_oldestOf_83 rfl (lv_at hl 2 rfl) ?_
            refine lv_goto (tgt := 88) hx hb dX6_oldestOf_84 (by decide) ?_
            refine lv_istore_n (lv' := [(2, .int (nI (11 - i))), (5, .int 1), (4, .int (nI (160 * B + 13 + 11 * (11 - i)))), (3, .int (nI (11 - i))), (0, .ref (a 6 8)), (1, .int (nI (160 * B)))]) hx hb dX6_oldestOf_88 rfl hl (by decide) rfl (fun ls hl => ?_)
            refine lv_iinc (v := 11 - nI (i + 1)) (lv' := [(3, .int (11 - nI (i + 1))), (2, .int (nI (11 - i))), (5, .int 1), (4, .int (nI (160 * B + 13 + 11 * (11 - i)))), (0, .ref (a 6 8)), (1, .int (nI (160 * B)))]) hx hb dX6_oldestOf_89 hl (k := 3) rfl (z_kd (by omega)) (by decide) rfl (fun ls hl => ?_)
            refine lv_goto (tgt := 6) hx hb dX6_oldestOf_92 (by decide) ?_
            refine ih (i + 1) (by omega) _ _ _ hH ?_
            rw [show fOd v (i + 1) = nI (11 - i) from by simp only [fOd, c6, c7, c8, not_true_eq_false, not_false_eq_true, and_self, and_true, true_and, and_false, false_and, true_or, or_true, false_or, or_false, if_true, if_false, z10]]
            exact lv_sub hl [0, 1, 4, 5] rfl
          · obtain ⟨F, hF1, hF2, eF⟩ : ∃ F, 12 - i ≤ F ∧ F < 12 ∧ fOd v i = nI F := hfd.resolve_left (fun q => c8 (by rw [q]; decide))
            rw [eF] at hl
            refine lv_aload_n hx hb dX6_oldestOf_57 rfl (lv_at hl 4 rfl) ?_
            refine gf_X6_s X hH q_576 dX6_oldestOf_58 ?_
            refine lv_iload hx hb dX6_oldestOf_61 (lv_at hl 1 rfl) ?_
            refine lv_bipush (v := 7) hx hb dX6_oldestOf_63 (by decide) ?_
            refine n_iadd (A := 160 * B + 13 + 11 * (11 - i)) (B := 7) hx hb (160 * B + 13 + 11 * (11 - i) + 7) (by omega) dX6_oldestOf_65 ?_
            refine am_s X (by omega) hH (13 + 11 * (11 - i) + 7) (by omega) (by omega) dX6_oldestOf_66 ?_
            refine lv_aload_n hx hb dX6_oldestOf_67 rfl (lv_at hl 4 rfl) ?_
            refine gf_X6_s X hH q_576 dX6_oldestOf_68 ?_
            refine lv_iload_n hx hb dX6_oldestOf_71 rfl (lv_at hl 5 rfl) ?_
            refine lv_iload_n hx hb dX6_oldestOf_72 rfl (lv_at hl 3 rfl) ?_
            refine z_callSi X hH (c_X6_planAt l D k a (zM g B v u) B (F)) k_X6_38 [.ref (a 6 9), .int (v (13 + 11 * (11 - i) + 7))] rfl rfl hl.1 (Nat.le_of_ble_eq_true rfl) ⟨Nat.le_of_ble_eq_true rfl, Nat.le_of_ble_eq_true rfl⟩ ⟨Nat.le_refl _, Nat.le_refl _⟩ dX6_oldestOf_73 (fun r9 g10 H locs h11 hH => ?_)
            rw [h11.2] at hH
            rw [h11.1]
            refine lv_bipush (v := 7) hx hb dX6_oldestOf_76 (by decide) ?_
            refine n_iadd (A := 160 * B + 13 + 11 * F) (B := 7) hx hb (160 * B + 13 + 11 * F + 7) (by omega) dX6_oldestOf_78 ?_
            refine am_s X (by omega) hH (13 + 11 * F + 7) (by omega) (by omega) dX6_oldestOf_79 ?_
            refine i_icmp_gt (tgt := 87) hx hb dX6_oldestOf_80 (by decide) (fun c12 => ?_) (fun c12 => ?_)
            · refine lv_iload_n hx hb dX6_oldestOf_87 rfl (lv_at hl 3 rfl) ?_
              refine lv_istore_n (lv' := [(2, .int (nI F)), (5, .int 1), (4, .int (nI (160 * B + 13 + 11 * (11 - i)))), (3, .int (nI (11 - i))), (0, .ref (a 6 8)), (1, .int (nI (160 * B)))]) hx hb dX6_oldestOf_88 rfl hl (by decide) rfl (fun ls hl => ?_)
              refine lv_iinc (v := 11 - nI (i + 1)) (lv' := [(3, .int (11 - nI (i + 1))), (2, .int (nI F)), (5, .int 1), (4, .int (nI (160 * B + 13 + 11 * (11 - i)))), (0, .ref (a 6 8)), (1, .int (nI (160 * B)))]) hx hb dX6_oldestOf_89 hl (k := 3) rfl (z_kd (by omega)) (by decide) rfl (fun ls hl => ?_)
              refine lv_goto (tgt := 6) hx hb dX6_oldestOf_92 (by decide) ?_
              refine ih (i + 1) (by omega) _ _ _ hH ?_
              rw [show fOd v (i + 1) = nI F from by rw [fOd, eF, iN_nI hF2]; simp only [c6, c7, c8, c12, nI_pos (show F < 2 ^ 31 by omega), not_true_eq_false, not_false_eq_true, and_self, true_or, or_true, false_or, or_false, if_true, if_false]]
              exact lv_sub hl [0, 1, 4, 5] rfl
            · refine lv_iload_n hx hb dX6_oldestOf_83 rfl (lv_at hl 2 rfl) ?_
              refine lv_goto (tgt := 88) hx hb dX6_oldestOf_84 (by decide) ?_
              refine lv_istore_n (lv' := [(2, .int (nI (11 - i))), (5, .int 1), (4, .int (nI (160 * B + 13 + 11 * (11 - i)))), (3, .int (nI (11 - i))), (0, .ref (a 6 8)), (1, .int (nI (160 * B)))]) hx hb dX6_oldestOf_88 rfl hl (by decide) rfl (fun ls hl => ?_)
              refine lv_iinc (v := 11 - nI (i + 1)) (lv' := [(3, .int (11 - nI (i + 1))), (2, .int (nI (11 - i))), (5, .int 1), (4, .int (nI (160 * B + 13 + 11 * (11 - i)))), (0, .ref (a 6 8)), (1, .int (nI (160 * B)))]) hx hb dX6_oldestOf_89 hl (k := 3) rfl (z_kd (by omega)) (by decide) rfl (fun ls hl => ?_)
              refine lv_goto (tgt := 6) hx hb dX6_oldestOf_92 (by decide) ?_
              refine ih (i + 1) (by omega) _ _ _ hH ?_
              rw [show fOd v (i + 1) = nI (11 - i) from by rw [fOd, eF, iN_nI hF2]; simp only [c6, c7, c8, c12, nI_pos (show F < 2 ^ 31 by omega), not_true_eq_false, not_false_eq_true, and_self, true_or, or_true, false_or, or_false, if_true, if_false]]
              exact lv_sub hl [0, 1, 4, 5] rfl
  exact Lp 12 0 (by omega) _ _ _ hH (lv_sub hl [0, 1, 2, 3] rfl)
set_option maxRecDepth 100000 in
set_option maxHeartbeats 4000000 in
theorem c_X6_throwsOldest (l : Launch) (D : va_G) (k : Nat → ClassId) (a : Nat → Nat → Nat) (g : Mem) (B : Nat) (hB : B < 7) (v u : V) (hf : zFl v) (S : Nat) (hS : S < 12) (eS : fOldest v = nI S) : zV l yX6_throwsOldest cX6_throwsOldest 3 2 46 D k a [.ref (a 6 8), .int (nI (160 * B))] (zM g B v u) (fun g' => g' = (zM g B (fKill v S) (upd u 9 (if u 9 = -4 then nI S else u 9)))) := by
  refine zV_of (own := RX6) (by decide +kernel) rfl (Nat.le_of_ble_eq_true rfl) ?_
  intro p e s m args below meth c X Q hret hH ls hl
  obtain ⟨hx, hb, hml, hown, hts⟩ := X.1
  have hl : lv_has ls 3 [(0, .ref (a 6 8)), (1, .int (nI (160 * B)))] := hl
  have hH : zH D k a s (zM g B v u) s.heap [] := hH
  refine lv_aload_n hx hb dX6_throwsOldest_0 rfl (lv_at hl 0 rfl) ?_
  refine lv_iload_n hx hb dX6_throwsOldest_1 rfl (lv_at hl 1 rfl) ?_
  refine z_callVi X hH (c_X6_oldestOf l D k a g B (by omega) v u hf) k_X6_52 (rv_X6 X hH) [] rfl rfl hl.1 (Nat.le_of_ble_eq_true rfl) ⟨Nat.le_of_ble_eq_true rfl, Nat.le_of_ble_eq_true rfl⟩ ⟨Nat.le_refl _, Nat.le_refl _⟩ dX6_throwsOldest_2 (fun r1 g2 H locs h3 hH => ?_)
  rw [h3.2] at hH
  rw [h3.1]
  rw [eS]
  refine lv_istore_n (lv' := [(2, .int (nI S)), (0, .ref (a 6 8)), (1, .int (nI (160 * B)))]) hx hb dX6_throwsOldest_5 rfl hl (by decide) rfl (fun ls hl => ?_)
  refine lv_aload_n hx hb dX6_throwsOldest_6 rfl (lv_at hl 1 rfl) ?_
  refine lv_aload_n hx hb dX6_throwsOldest_7 rfl (lv_at hl 1 rfl) ?_
  refine gm_X6_gone X hH q_587 dX6_throwsOldest_8 ?_
  refine lv_bipush (v := (-4)) hx hb dX6_throwsOldest_11 (by decide) ?_
  refine lv_icmp_ne (tgt := 20) hx hb dX6_throwsOldest_13 (by decide) (fun c4 => ?_) (fun c4 => ?_)
  · refine lv_aload_n hx hb dX6_throwsOldest_20 rfl (lv_at hl 1 rfl) ?_
    refine gm_X6_gone X hH q_587 dX6_throwsOldest_21 ?_
    refine pm_X6_gone X hH q_587 dX6_throwsOldest_24 (fun H locs hH => ?_)
    refine lv_aload_n hx hb dX6_throwsOldest_27 rfl (lv_at hl 1 rfl) ?_
    refine gf_X6_s X hH q_576 dX6_throwsOldest_28 ?_
    refine lv_iload_n hx hb dX6_throwsOldest_31 rfl (lv_at hl 2 rfl) ?_
    refine lv_iload_n hx hb dX6_throwsOldest_32 rfl (lv_at hl 0 rfl) ?_
    refine z_callSi X hH (c_X6_planAt l D k a (zM g B v (upd u 9 (u 9))) B (S)) k_X6_38 [.ref (a 6 9)] rfl rfl hl.1 (Nat.le_of_ble_eq_true rfl) ⟨Nat.le_of_ble_eq_true rfl, Nat.le_of_ble_eq_true rfl⟩ ⟨Nat.le_refl _, Nat.le_refl _⟩ dX6_throwsOldest_33 (fun r5 g6 H locs h7 hH => ?_)
    rw [h7.2] at hH
    rw [h7.1]
    refine lv_iconst (v := 0) hx hb dX6_throwsOldest_36 (by decide) ?_
    refine sm_s X (by omega) hH (13 + 11 * S + 0) (by omega) (by omega) dX6_throwsOldest_37 (fun H locs hH => ?_)
    refine lv_aload_n hx hb dX6_throwsOldest_38 rfl (lv_at hl 1 rfl) ?_
    refine gf_X6_s X hH q_576 dX6_throwsOldest_39 ?_
    refine lv_iload_n hx hb dX6_throwsOldest_42 rfl (lv_at hl 2 rfl) ?_
    refine lv_sipush (v := 151) hx hb dX6_throwsOldest_43 (by decide) ?_
    refine n_iadd (A := 160 * B) (B := 151) hx hb (160 * B + 151) (by omega) dX6_throwsOldest_46 ?_
    refine lv_dup2_11 hx hb dX6_throwsOldest_47 rfl rfl ?_
    refine am_s X (by omega) hH (151) (by omega) (by omega) dX6_throwsOldest_48 ?_
    rw [show (upd v (13 + 11 * S + 0) 0) 151 = v 151 from (zu_n _ _ (by omega))]
    refine lv_iconst (v := 1) hx hb dX6_throwsOldest_49 (by decide) ?_
    refine lv_iadd hx hb dX6_throwsOldest_50 ?_
    refine sm_s X (by omega) hH (151) (by omega) (by omega) dX6_throwsOldest_51 (fun H locs hH => ?_)
    exact hret _ _ _ _ _ (by simp only [c4, if_true, if_false]; rfl) hH dX6_throwsOldest_52
  · refine lv_iload_n hx hb dX6_throwsOldest_16 rfl (lv_at hl 0 rfl) ?_
    refine lv_goto (tgt := 24) hx hb dX6_throwsOldest_17 (by decide) ?_
    refine pm_X6_gone X hH q_587 dX6_throwsOldest_24 (fun H locs hH => ?_)
    refine lv_aload_n hx hb dX6_throwsOldest_27 rfl (lv_at hl 1 rfl) ?_
    refine gf_X6_s X hH q_576 dX6_throwsOldest_28 ?_
    refine lv_iload_n hx hb dX6_throwsOldest_31 rfl (lv_at hl 2 rfl) ?_
    refine lv_iload_n hx hb dX6_throwsOldest_32 rfl (lv_at hl 0 rfl) ?_
    refine z_callSi X hH (c_X6_planAt l D k a (zM g B v (upd u 9 (nI S))) B (S)) k_X6_38 [.ref (a 6 9)] rfl rfl hl.1 (Nat.le_of_ble_eq_true rfl) ⟨Nat.le_of_ble_eq_true rfl, Nat.le_of_ble_eq_true rfl⟩ ⟨Nat.le_refl _, Nat.le_refl _⟩ dX6_throwsOldest_33 (fun r8 g9 H locs h10 hH => ?_)
    rw [h10.2] at hH
    rw [h10.1]
    refine lv_iconst (v := 0) hx hb dX6_throwsOldest_36 (by decide) ?_
    refine sm_s X (by omega) hH (13 + 11 * S + 0) (by omega) (by omega) dX6_throwsOldest_37 (fun H locs hH => ?_)
    refine lv_aload_n hx hb dX6_throwsOldest_38 rfl (lv_at hl 1 rfl) ?_
    refine gf_X6_s X hH q_576 dX6_throwsOldest_39 ?_
    refine lv_iload_n hx hb dX6_throwsOldest_42 rfl (lv_at hl 2 rfl) ?_
    refine lv_sipush (v := 151) hx hb dX6_throwsOldest_43 (by decide) ?_
    refine n_iadd (A := 160 * B) (B := 151) hx hb (160 * B + 151) (by omega) dX6_throwsOldest_46 ?_
    refine lv_dup2_11 hx hb dX6_throwsOldest_47 rfl rfl ?_
    refine am_s X (by omega) hH (151) (by omega) (by omega) dX6_throwsOldest_48 ?_
    rw [show (upd v (13 + 11 * S + 0) 0) 151 = v 151 from (zu_n _ _ (by omega))]
    refine lv_iconst (v := 1) hx hb dX6_throwsOldest_49 (by decide) ?_
    refine lv_iadd hx hb dX6_throwsOldest_50 ?_
    refine sm_s X (by omega) hH (151) (by omega) (by omega) dX6_throwsOldest_51 (fun H locs hH => ?_)
    exact hret _ _ _ _ _ (by simp only [c4, if_true, if_false]; rfl) hH dX6_throwsOldest_52
