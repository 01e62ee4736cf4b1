set_option maxRecDepth 100000 in
set_option maxHeartbeats 4000000 in
theorem c_X6_hasRoom (l : Launch) (D : va_G) (k : Nat → ClassId) (a : Nat → Nat → Nat) (g : Mem) (B : Nat) (hB : B < 7) (v u : V) (hf : zFl v) (R : Nat) (eR : v 11 = nI R) (hR : 1 ≤ R) (hR2 : R ≤ 12) (z : Nat) (hz : z < 12) : zI l yX6_hasRoom cX6_hasRoom 3 .boolean 3 68 D k a [.ref (a 6 8), .int (nI (160 * B)), .int (nI z)] (zM g B v u) (fun r g' => r = (if fCould (fRoom v z) z = true then 1 else 0) ∧ g' = (zM g B (fRoom v z) (mRoomU v u z))) := by
  refine zI_of (own := RX6) (by decide +kernel) rfl (Nat.le_of_ble_eq_true rfl) ?_
  intro p e s m args below meth c X Q hret hH ls hl
  obtain ⟨hx, hb, hml, hown, hts⟩ := X.1
  have hl : lv_has ls 3 [(0, .ref (a 6 8)), (1, .int (nI (160 * B))), (2, .int (nI z))] := hl
  have hH : zH D k a s (zM g B v u) s.heap [] := hH
  refine lv_aload_n hx hb dX6_hasRoom_0 rfl (lv_at hl 0 rfl) ?_
  refine gf_X6_s X hH q_576 dX6_hasRoom_1 ?_
  refine lv_iload_n hx hb dX6_hasRoom_4 rfl (lv_at hl 1 rfl) ?_
  refine lv_iload_n hx hb dX6_hasRoom_5 rfl (lv_at hl 2 rfl) ?_
  refine z_callSi X hH (c_X6_planAt l D k a (zM g B v u) B (z)) k_X6_38 [.ref (a 6 9)] rfl rfl hl.1 (Nat.le_of_ble_eq_true rfl) ⟨Nat.le_of_ble_eq_true rfl, Nat.le_of_ble_eq_true rfl⟩ ⟨Nat.le_refl _, Nat.le_refl _⟩ dX6_hasRoom_6 (fun r1 g2 H locs h3 hH => ?_)
  rw [h3.2] at hH
  rw [h3.1]
  refine am_s X (by omega) hH (13 + 11 * z + 0) (by omega) (by omega) dX6_hasRoom_9 ?_
  refine lv_iconst (v := 1) hx hb dX6_hasRoom_10 (by decide) ?_
  refine lv_icmp_eq (tgt := 33) hx hb dX6_hasRoom_11 (by decide) (fun c4 => ?_) (fun c4 => ?_)
  · have hL : ¬ fLacks v z = true := by rw [fLacks, decide_eq_true_eq]; intro q; exact absurd (q.1.symm.trans c4) (by decide)
    refine lv_iconst (v := 1) hx hb dX6_hasRoom_33 (by decide) ?_
    exact hret _ _ _ _ _ _ rfl ⟨by rw [fRoom_no hL, if_pos (fCould_no eR hR2 hL)], by rw [fRoom_no hL, mRoomU_no (fun q => hL q.1)]⟩ hH dX6_hasRoom_34
  · refine lv_aload_n hx hb dX6_hasRoom_14 rfl (lv_at hl 0 rfl) ?_
    refine lv_iload_n hx hb dX6_hasRoom_15 rfl (lv_at hl 1 rfl) ?_
    refine z_callVi X hH (c_X6_kept l D k a g B (by omega) v u hf) k_X6_58 (rv_X6 X hH) [] rfl rfl hl.1 (Nat.le_of_ble_eq_true rfl) ⟨Nat.le_of_ble_eq_true rfl, Nat.le_of_ble_eq_true rfl⟩ ⟨Nat.le_refl _, Nat.le_refl _⟩ dX6_hasRoom_16 (fun r5 g6 H locs h7 hH => ?_)
    rw [h7.2] at hH
    rw [h7.1]
    refine lv_aload_n hx hb dX6_hasRoom_19 rfl (lv_at hl 0 rfl) ?_
    refine gf_X6_s X hH q_576 dX6_hasRoom_20 ?_
    refine lv_iload_n hx hb dX6_hasRoom_23 rfl (lv_at hl 1 rfl) ?_
    refine lv_bipush (v := 8) hx hb dX6_hasRoom_24 (by decide) ?_
    refine n_iadd (A := 160 * B) (B := 8) hx hb (160 * B + 8) (by omega) dX6_hasRoom_26 ?_
    refine lv_iconst (v := 3) hx hb dX6_hasRoom_27 (by decide) ?_
    refine n_iadd (A := 160 * B + 8) (B := 3) hx hb (160 * B + 8 + 3) (by omega) dX6_hasRoom_28 ?_
    refine am_s X (by omega) hH (11) (by omega) (by omega) dX6_hasRoom_29 ?_
    refine i_icmp_ge (tgt := 35) hx hb dX6_hasRoom_30 (by decide) (fun c8 => ?_) (fun c8 => ?_)
    · have hk0 : v (13 + 11 * z + 0) = 0 := (hf z hz).1.resolve_right c4
      have hL : fLacks v z = true := by rw [fLacks, decide_eq_true_eq]; exact ⟨hk0, c8⟩
      obtain ⟨n, hn1, hn2, hn3, hn4⟩ := fLacks_n eR hR hR2 hL
      have hiff := fCould_room eR hR hR2 hL hz
      have Lp : ∀ (j : Nat) (v1 u1 : V), R - 1 + j ≤ 12 → fK v1 12 = nI (R - 1 + j) → zFl v1 → v1 11 = nI R → fCrowd j v1 = fRoom v z → ((u1 = mRoomU v u z ∧ ¬ u1 9 = -4) ∨ (v1 = v ∧ u1 = u ∧ 1 ≤ j)) → ∀ (H : Heap) (locs : List Loc) (ls : Array Slot), zH D k a s (zM g B v1 u1) H locs → lv_has ls 3 [(0, .ref (a 6 8)), (1, .int (nI (160 * B))), (2, .int (nI z))] → W p l e (zRoom 3 68) s m args below meth c H locs 0 0 Q (F0 m 35 ls []) := by
        intro j
        induction j with
        | zero =>
          intro v1 u1 hj hk1 hf1 e11 hv hu H locs ls hH hl
          have hlt : fK v1 12 < v1 11 := by rw [hk1, e11]; exact nI_lt (by omega) (by omega)
          have hv1 : v1 = fRoom v z := hv
          have hu1 : u1 = mRoomU v u z := by rcases hu with q | q; exact q.1; exact absurd q.2.2 (by omega)
          refine lv_aload_n hx hb dX6_hasRoom_35 rfl (lv_at hl 0 rfl) ?_
          refine lv_iload_n hx hb dX6_hasRoom_36 rfl (lv_at hl 1 rfl) ?_
          refine z_callVi X hH (c_X6_kept l D k a g B (by omega) v1 u1 hf1) k_X6_58 (rv_X6 X hH) [] rfl rfl hl.1 (Nat.le_of_ble_eq_true rfl) ⟨Nat.le_of_ble_eq_true rfl, Nat.le_of_ble_eq_true rfl⟩ ⟨Nat.le_refl _, Nat.le_refl _⟩ dX6_hasRoom_37 (fun r9 g10 H locs h11 hH => ?_)
          rw [h11.2] at hH
          rw [h11.1]
          refine lv_aload_n hx hb dX6_hasRoom_40 rfl (lv_at hl 0 rfl) ?_
          refine gf_X6_s X hH q_576 dX6_hasRoom_41 ?_
          refine lv_iload_n hx hb dX6_hasRoom_44 rfl (lv_at hl 1 rfl) ?_
          refine lv_bipush (v := 8) hx hb dX6_hasRoom_45 (by decide) ?_
          refine n_iadd (A := 160 * B) (B := 8) hx hb (160 * B + 8) (by omega) dX6_hasRoom_47 ?_
          refine lv_iconst (v := 3) hx hb dX6_hasRoom_48 (by decide) ?_
          refine n_iadd (A := 160 * B + 8) (B := 3) hx hb (160 * B + 8 + 3) (by omega) dX6_hasRoom_49 ?_
          refine am_s X (by omega) hH (11) (by omega) (by omega) dX6_hasRoom_50 ?_
          refine i_icmp_lt (tgt := 70) hx hb dX6_hasRoom_51 (by decide) (fun c12 => ?_) (fun q => absurd hlt q)
          refine lv_aload_n hx hb dX6_hasRoom_70 rfl (lv_at hl 0 rfl) ?_
          refine lv_iload_n hx hb dX6_hasRoom_71 rfl (lv_at hl 1 rfl) ?_
          refine z_callVi X hH (c_X6_kept l D k a g B (by omega) v1 u1 hf1) k_X6_58 (rv_X6 X hH) [] rfl rfl hl.1 (Nat.le_of_ble_eq_true rfl) ⟨Nat.le_of_ble_eq_true rfl, Nat.le_of_ble_eq_true rfl⟩ ⟨Nat.le_refl _, Nat.le_refl _⟩ dX6_hasRoom_72 (fun r13 g14 H locs h15 hH => ?_)
          rw [h15.2] at hH
          rw [h15.1]
          refine lv_aload_n hx hb dX6_hasRoom_75 rfl (lv_at hl 0 rfl) ?_
          refine gf_X6_s X hH q_576 dX6_hasRoom_76 ?_
          refine lv_iload_n hx hb dX6_hasRoom_79 rfl (lv_at hl 1 rfl) ?_
          refine lv_bipush (v := 8) hx hb dX6_hasRoom_80 (by decide) ?_
          refine n_iadd (A := 160 * B) (B := 8) hx hb (160 * B + 8) (by omega) dX6_hasRoom_82 ?_
          refine lv_iconst (v := 3) hx hb dX6_hasRoom_83 (by decide) ?_
          refine n_iadd (A := 160 * B + 8) (B := 3) hx hb (160 * B + 8 + 3) (by omega) dX6_hasRoom_84 ?_
          refine am_s X (by omega) hH (11) (by omega) (by omega) dX6_hasRoom_85 ?_
          refine i_icmp_ge (tgt := 93) hx hb dX6_hasRoom_86 (by decide) (fun q => absurd hlt q) (fun c16 => ?_)
          refine lv_iconst (v := 1) hx hb dX6_hasRoom_89 (by decide) ?_
          refine lv_goto (tgt := 94) hx hb dX6_hasRoom_90 (by decide) ?_
          exact hret _ _ _ _ _ _ rfl ⟨by rw [if_pos (hiff.mpr (by rw [← hv1, eR, ← e11]; exact hlt))], by rw [hv1, hu1]⟩ hH dX6_hasRoom_94
        | succ j ih =>
          intro v1 u1 hj hk1 hf1 e11 hv hu H locs ls hH hl
          have hlt : ¬ fK v1 12 < v1 11 := by rw [hk1, e11]; exact nI_nlt (by omega) (by omega)
          refine lv_aload_n hx hb dX6_hasRoom_35 rfl (lv_at hl 0 rfl) ?_
          refine lv_iload_n hx hb dX6_hasRoom_36 rfl (lv_at hl 1 rfl) ?_
          refine z_callVi X hH (c_X6_kept l D k a g B (by omega) v1 u1 hf1) k_X6_58 (rv_X6 X hH) [] rfl rfl hl.1 (Nat.le_of_ble_eq_true rfl) ⟨Nat.le_of_ble_eq_true rfl, Nat.le_of_ble_eq_true rfl⟩ ⟨Nat.le_refl _, Nat.le_refl _⟩ dX6_hasRoom_37 (fun r17 g18 H locs h19 hH => ?_)
          rw [h19.2] at hH
          rw [h19.1]
          refine lv_aload_n hx hb dX6_hasRoom_40 rfl (lv_at hl 0 rfl) ?_
          refine gf_X6_s X hH q_576 dX6_hasRoom_41 ?_
          refine lv_iload_n hx hb dX6_hasRoom_44 rfl (lv_at hl 1 rfl) ?_
          refine lv_bipush (v := 8) hx hb dX6_hasRoom_45 (by decide) ?_
          refine n_iadd (A := 160 * B) (B := 8) hx hb (160 * B + 8) (by omega) dX6_hasRoom_47 ?_
          refine lv_iconst (v := 3) hx hb dX6_hasRoom_48 (by decide) ?_
          refine n_iadd (A := 160 * B + 8) (B := 3) hx hb (160 * B + 8 + 3) (by omega) dX6_hasRoom_49 ?_
          refine am_s X (by omega) hH (11) (by omega) (by omega) dX6_hasRoom_50 ?_
          refine i_icmp_lt (tgt := 70) hx hb dX6_hasRoom_51 (by decide) (fun q => absurd q hlt) (fun c20 => ?_)
          refine lv_aload_n hx hb dX6_hasRoom_54 rfl (lv_at hl 0 rfl) ?_
          refine lv_iload_n hx hb dX6_hasRoom_55 rfl (lv_at hl 1 rfl) ?_
          refine z_callVi X hH (c_X6_oldestOf l D k a g B (by omega) v1 u1 hf1) k_X6_52 (rv_X6 X hH) [] rfl rfl hl.1 (Nat.le_of_ble_eq_true rfl) ⟨Nat.le_of_ble_eq_true rfl, Nat.le_of_ble_eq_true rfl⟩ ⟨Nat.le_refl _, Nat.le_refl _⟩ dX6_hasRoom_56 (fun r21 g22 H locs h23 hH => ?_)
          rw [h23.2] at hH
          rw [h23.1]
          refine i_if_lt (tgt := 70) hx hb dX6_hasRoom_59 (by decide) (fun c24 => ?_) (fun c24 => ?_)
          · have hv1 : v1 = fRoom v z := by rw [← hv, fCrowd, if_pos c24]
            have e11' : (fRoom v z) 11 = nI R := by rw [← hv1]; exact e11
            have hu1 : u1 = mRoomU v u z := by rcases hu with q | ⟨q1, q2, -⟩; exact q.1; rw [q2]; exact (mRoomU_no (fun q => q.2 (by rw [← q1]; exact c24))).symm
            refine lv_aload_n hx hb dX6_hasRoom_70 rfl (lv_at hl 0 rfl) ?_
            refine lv_iload_n hx hb dX6_hasRoom_71 rfl (lv_at hl 1 rfl) ?_
            refine z_callVi X hH (c_X6_kept l D k a g B (by omega) v1 u1 hf1) k_X6_58 (rv_X6 X hH) [] rfl rfl hl.1 (Nat.le_of_ble_eq_true rfl) ⟨Nat.le_of_ble_eq_true rfl, Nat.le_of_ble_eq_true rfl⟩ ⟨Nat.le_refl _, Nat.le_refl _⟩ dX6_hasRoom_72 (fun r25 g26 H locs h27 hH => ?_)
            rw [h27.2] at hH
            rw [h27.1]
            refine lv_aload_n hx hb dX6_hasRoom_75 rfl (lv_at hl 0 rfl) ?_
            refine gf_X6_s X hH q_576 dX6_hasRoom_76 ?_
            refine lv_iload_n hx hb dX6_hasRoom_79 rfl (lv_at hl 1 rfl) ?_
            refine lv_bipush (v := 8) hx hb dX6_hasRoom_80 (by decide) ?_
            refine n_iadd (A := 160 * B) (B := 8) hx hb (160 * B + 8) (by omega) dX6_hasRoom_82 ?_
            refine lv_iconst (v := 3) hx hb dX6_hasRoom_83 (by decide) ?_
            refine n_iadd (A := 160 * B + 8) (B := 3) hx hb (160 * B + 8 + 3) (by omega) dX6_hasRoom_84 ?_
            refine am_s X (by omega) hH (11) (by omega) (by omega) dX6_hasRoom_85 ?_
            refine i_icmp_ge (tgt := 93) hx hb dX6_hasRoom_86 (by decide) (fun c28 => ?_) (fun q => absurd q hlt)
            refine lv_iconst (v := 0) hx hb dX6_hasRoom_93 (by decide) ?_
            exact hret _ _ _ _ _ _ rfl ⟨by rw [if_neg (fun q => hlt (by rw [hv1, e11', ← eR]; exact hiff.mp q))], by rw [hv1, hu1]⟩ hH dX6_hasRoom_94
          · obtain ⟨S, hS, eS, hkS, -⟩ := fOldest_nat c24
            refine lv_aload_n hx hb dX6_hasRoom_62 rfl (lv_at hl 0 rfl) ?_
            refine lv_iload_n hx hb dX6_hasRoom_63 rfl (lv_at hl 1 rfl) ?_
            refine z_callVv X hH (c_X6_throwsOldest l D k a g B (by omega) v1 u1 hf1 S hS eS) k_X6_61 (rv_X6 X hH) [] rfl rfl hl.1 (Nat.le_of_ble_eq_true rfl) ⟨Nat.le_of_ble_eq_true rfl, Nat.le_of_ble_eq_true rfl⟩ ⟨Nat.le_refl _, Nat.le_refl _⟩ dX6_hasRoom_64 (fun g29 H locs h30 hH => ?_)
            rw [h30] at hH
            refine lv_goto (tgt := 35) hx hb dX6_hasRoom_67 (by decide) ?_
            refine ih _ _ (by omega) ?_ (zFl_kill hf1) (by rw [fKill_o (by omega) (by omega)]; exact e11) (by rw [← hv, fCrowd, if_neg c24, eS, nI_clamp (by omega)]) (Or.inl ?_) _ _ _ hH (lv_sub hl [0, 1, 2] rfl)
            · have q1 := fK_kill1 hS hkS 12 hS (Nat.le_refl _)
              obtain ⟨kk, hk3, hk4⟩ := fK_nat (v := fKill v1 S) 12
              rw [hk4, hk1, nI_1] at q1
              have q2 := (nI_eq (by omega) (by omega)).mp q1
              rw [hk4, show kk = R - 1 + j by omega]
            · rcases hu with ⟨q1, q2⟩ | ⟨q1, q2, -⟩
              · rw [if_neg q2, zu_id rfl]; exact ⟨q1, q2⟩
              · have q3 := mRoomU_yes (u := u) hL hS (by rw [← q1]; exact eS)
                rw [q2, ← q3.1]; exact ⟨rfl, q3.2⟩
      exact Lp n v u hn1 hn2 hf eR hn4.symm (Or.inr ⟨rfl, rfl, hn3⟩) _ _ _ hH (lv_sub hl [0, 1, 2] rfl)
    · have hL : ¬ fLacks v z = true := by rw [fLacks, decide_eq_true_eq]; intro q; exact q.2 c8
      refine lv_iconst (v := 1) hx hb dX6_hasRoom_33 (by decide) ?_
      exact hret _ _ _ _ _ _ rfl ⟨by rw [fRoom_no hL, if_pos (fCould_no eR hR2 hL)], by rw [fRoom_no hL, mRoomU_no (fun q => hL q.1)]⟩ hH dX6_hasRoom_34
set_option maxRecDepth 100000 in
set_option maxHeartbeats 4000000 in
theorem c_X6_lays (l : Launch) (D : va_G) (k : Nat → ClassId) (a : Nat → Nat → Nat) (g : Mem) (B : Nat) (hB : B < 7) (v u : V) (hk : zKy v) (z : Nat) (hz : z < 12) (w n lo hi : Int32) : zV l yX6_lays cX6_lays 8 2 51 D k a [.ref (a 6 8), .int (nI (160 * B)), .int (nI z), .int (w), .int (n), .int (lo), .int (hi)] (zM g B v u) (fun g' => g' = (zM g B (fPlace v z w n lo hi) u)) := by
  refine zV_of (own := RX6) (by decide +kernel) rfl (Nat.le_of_ble_eq_true rfl) ?_
  intro p e s m args below meth c X Q hret hH ls hl
  obtain ⟨hx, hb, hml, hown, hts⟩ := X.1
  have hl : lv_has ls 8 [(0, .ref (a 6 8)), (1, .int (nI (160 * B))), (2, .int (nI z)), (3, .int (w)), (4, .int (n)), (5, .int (lo)), (6, .int (hi))] := hl
  have hH : zH D k a s (zM g B v u) s.heap [] := hH
  refine lv_iload_n hx hb dX6_lays_0 rfl (lv_at hl 1 rfl) ?_
  refine lv_iload_n hx hb dX6_lays_1 rfl (lv_at hl 2 rfl) ?_
  refine z_callSi X hH (c_X6_planAt l D k a (zM g B v u) B (z)) k_X6_38 [] rfl rfl hl.1 (Nat.le_of_ble_eq_true rfl) ⟨Nat.le_of_ble_eq_true rfl, Nat.le_of_ble_eq_true rfl⟩ ⟨Nat.le_refl _, Nat.le_refl _⟩ dX6_lays_2 (fun r1 g2 H locs h3 hH => ?_)
  rw [h3.2] at hH
  rw [h3.1]
  refine lv_istore (lv' := [(7, .int (nI (160 * B + 13 + 11 * z))), (0, .ref (a 6 8)), (1, .int (nI (160 * B))), (2, .int (nI z)), (3, .int (w)), (4, .int (n)), (5, .int (lo)), (6, .int (hi))]) hx hb dX6_lays_5 hl (by decide) rfl (fun ls hl => ?_)
  refine lv_aload_n hx hb dX6_lays_7 rfl (lv_at hl 1 rfl) ?_
  refine gf_X6_s X hH q_576 dX6_lays_8 ?_
  refine lv_iload hx hb dX6_lays_11 (lv_at hl 0 rfl) ?_
  refine lv_iconst (v := 1) hx hb dX6_lays_13 (by decide) ?_
  refine sm_s X (by omega) hH (13 + 11 * z + 0) (by omega) (by omega) dX6_lays_14 (fun H locs hH => ?_)
  refine lv_aload_n hx hb dX6_lays_15 rfl (lv_at hl 1 rfl) ?_
  refine gf_X6_s X hH q_576 dX6_lays_16 ?_
  refine lv_iload hx hb dX6_lays_19 (lv_at hl 0 rfl) ?_
  refine lv_iconst (v := 1) hx hb dX6_lays_21 (by decide) ?_
  refine n_iadd (A := 160 * B + 13 + 11 * z) (B := 1) hx hb (160 * B + 13 + 11 * z + 1) (by omega) dX6_lays_22 ?_
  refine lv_iload_n hx hb dX6_lays_23 rfl (lv_at hl 4 rfl) ?_
  refine sm_s X (by omega) hH (13 + 11 * z + 1) (by omega) (by omega) dX6_lays_24 (fun H locs hH => ?_)
  refine lv_aload_n hx hb dX6_lays_25 rfl (lv_at hl 1 rfl) ?_
  refine gf_X6_s X hH q_576 dX6_lays_26 ?_
  refine lv_iload hx hb dX6_lays_29 (lv_at hl 0 rfl) ?_
  refine lv_iconst (v := 2) hx hb dX6_lays_31 (by decide) ?_
  refine n_iadd (A := 160 * B + 13 + 11 * z) (B := 2) hx hb (160 * B + 13 + 11 * z + 2) (by omega) dX6_lays_32 ?_
  refine lv_iload hx hb dX6_lays_33 (lv_at hl 6 rfl) ?_
  refine sm_s X (by omega) hH (13 + 11 * z + 2) (by omega) (by omega) dX6_lays_35 (fun H locs hH => ?_)
  refine lv_aload_n hx hb dX6_lays_36 rfl (lv_at hl 1 rfl) ?_
  refine gf_X6_s X hH q_576 dX6_lays_37 ?_
  refine lv_iload hx hb dX6_lays_40 (lv_at hl 0 rfl) ?_
  refine lv_iconst (v := 3) hx hb dX6_lays_42 (by decide) ?_
  refine n_iadd (A := 160 * B + 13 + 11 * z) (B := 3) hx hb (160 * B + 13 + 11 * z + 3) (by omega) dX6_lays_43 ?_
  refine lv_iload hx hb dX6_lays_44 (lv_at hl 7 rfl) ?_
  refine sm_s X (by omega) hH (13 + 11 * z + 3) (by omega) (by omega) dX6_lays_46 (fun H locs hH => ?_)
  refine lv_aload_n hx hb dX6_lays_47 rfl (lv_at hl 1 rfl) ?_
  refine gf_X6_s X hH q_576 dX6_lays_48 ?_
  refine lv_iload hx hb dX6_lays_51 (lv_at hl 0 rfl) ?_
  refine lv_iconst (v := 4) hx hb dX6_lays_53 (by decide) ?_
  refine n_iadd (A := 160 * B + 13 + 11 * z) (B := 4) hx hb (160 * B + 13 + 11 * z + 4) (by omega) dX6_lays_54 ?_
  refine lv_iload hx hb dX6_lays_55 (lv_at hl 5 rfl) ?_
  refine sm_s X (by omega) hH (13 + 11 * z + 4) (by omega) (by omega) dX6_lays_57 (fun H locs hH => ?_)
  refine lv_aload_n hx hb dX6_lays_58 rfl (lv_at hl 1 rfl) ?_
  refine gf_X6_s X hH q_576 dX6_lays_59 ?_
  refine lv_iload hx hb dX6_lays_62 (lv_at hl 0 rfl) ?_
  refine lv_iconst (v := 5) hx hb dX6_lays_64 (by decide) ?_
  refine n_iadd (A := 160 * B + 13 + 11 * z) (B := 5) hx hb (160 * B + 13 + 11 * z + 5) (by omega) dX6_lays_65 ?_
  refine lv_aload_n hx hb dX6_lays_66 rfl (lv_at hl 1 rfl) ?_
  refine lv_iload_n hx hb dX6_lays_67 rfl (lv_at hl 2 rfl) ?_
  refine lv_iload_n hx hb dX6_lays_68 rfl (lv_at hl 3 rfl) ?_
  refine lv_iload_n hx hb dX6_lays_69 rfl (lv_at hl 4 rfl) ?_
  refine lv_iload hx hb dX6_lays_70 (lv_at hl 5 rfl) ?_
  refine z_callVi X hH (c_X6_costs l D k a g B (by omega) (upd (upd (upd (upd (upd v (13 + 11 * z + 0) 1) (13 + 11 * z + 1) w) (13 + 11 * z + 2) lo) (13 + 11 * z + 3) hi) (13 + 11 * z + 4) n) u (fun t ht => by rw [show (upd (upd (upd (upd (upd v (13 + 11 * z + 0) 1) (13 + 11 * z + 1) w) (13 + 11 * z + 2) lo) (13 + 11 * z + 3) hi) (13 + 11 * z + 4) n) (4 + t) = v (4 + t) from ((zu_n _ _ (by omega)).trans ((zu_n _ _ (by omega)).trans ((zu_n _ _ (by omega)).trans ((zu_n _ _ (by omega)).trans (zu_n _ _ (by omega))))))]; exact hk t ht) (z) (by omega) w n) k_X6_34 (rv_X6 X hH) [.int (nI (160 * B + 13 + 11 * z + 5)), .ref (a 6 9)] rfl rfl hl.1 (Nat.le_of_ble_eq_true rfl) ⟨Nat.le_of_ble_eq_true rfl, Nat.le_of_ble_eq_true rfl⟩ ⟨Nat.le_refl _, Nat.le_refl _⟩ dX6_lays_72 (fun r4 g5 H locs h6 hH => ?_)
  rw [h6.2] at hH
  rw [h6.1]
  rw [show fCost (upd (upd (upd (upd (upd v (13 + 11 * z + 0) 1) (13 + 11 * z + 1) w) (13 + 11 * z + 2) lo) (13 + 11 * z + 3) hi) (13 + 11 * z + 4) n) z w n = fCost v z w n from fCost_co (by omega) (fun j hj => ((zu_n _ _ (by omega)).trans ((zu_n _ _ (by omega)).trans ((zu_n _ _ (by omega)).trans ((zu_n _ _ (by omega)).trans (zu_n _ _ (by omega)))))))]
  refine sm_s X (by omega) hH (13 + 11 * z + 5) (by omega) (by omega) dX6_lays_75 (fun H locs hH => ?_)
  refine lv_aload_n hx hb dX6_lays_76 rfl (lv_at hl 1 rfl) ?_
  refine gf_X6_s X hH q_576 dX6_lays_77 ?_
  refine lv_iload hx hb dX6_lays_80 (lv_at hl 0 rfl) ?_
  refine lv_bipush (v := 6) hx hb dX6_lays_82 (by decide) ?_
  refine n_iadd (A := 160 * B + 13 + 11 * z) (B := 6) hx hb (160 * B + 13 + 11 * z + 6) (by omega) dX6_lays_84 ?_
  refine lv_aload_n hx hb dX6_lays_85 rfl (lv_at hl 1 rfl) ?_
  refine gf_X6_s X hH q_576 dX6_lays_86 ?_
  refine lv_iload_n hx hb dX6_lays_89 rfl (lv_at hl 2 rfl) ?_
  refine lv_sipush (v := 145) hx hb dX6_lays_90 (by decide) ?_
  refine n_iadd (A := 160 * B) (B := 145) hx hb (160 * B + 145) (by omega) dX6_lays_93 ?_
  refine am_s X (by omega) hH (145) (by omega) (by omega) dX6_lays_94 ?_
  rw [show (upd (upd (upd (upd (upd (upd v (13 + 11 * z + 0) 1) (13 + 11 * z + 1) w) (13 + 11 * z + 2) lo) (13 + 11 * z + 3) hi) (13 + 11 * z + 4) n) (13 + 11 * z + 5) (fCost v z w n)) 145 = v 145 from ((zu_n _ _ (by omega)).trans ((zu_n _ _ (by omega)).trans ((zu_n _ _ (by omega)).trans ((zu_n _ _ (by omega)).trans ((zu_n _ _ (by omega)).trans (zu_n _ _ (by omega)))))))]
  refine sm_s X (by omega) hH (13 + 11 * z + 6) (by omega) (by omega) dX6_lays_95 (fun H locs hH => ?_)
  refine lv_aload_n hx hb dX6_lays_96 rfl (lv_at hl 1 rfl) ?_
  refine gf_X6_s X hH q_576 dX6_lays_97 ?_
  refine lv_iload hx hb dX6_lays_100 (lv_at hl 0 rfl) ?_
  refine lv_bipush (v := 7) hx hb dX6_lays_102 (by decide) ?_
  refine n_iadd (A := 160 * B + 13 + 11 * z) (B := 7) hx hb (160 * B + 13 + 11 * z + 7) (by omega) dX6_lays_104 ?_
  refine lv_aload_n hx hb dX6_lays_105 rfl (lv_at hl 1 rfl) ?_
  refine gf_X6_s X hH q_576 dX6_lays_106 ?_
  refine lv_iload_n hx hb dX6_lays_109 rfl (lv_at hl 2 rfl) ?_
  refine lv_sipush (v := 145) hx hb dX6_lays_110 (by decide) ?_
  refine n_iadd (A := 160 * B) (B := 145) hx hb (160 * B + 145) (by omega) dX6_lays_113 ?_
  refine am_s X (by omega) hH (145) (by omega) (by omega) dX6_lays_114 ?_
  rw [show (upd (upd (upd (upd (upd (upd (upd v (13 + 11 * z + 0) 1) (13 + 11 * z + 1) w) (13 + 11 * z + 2) lo) (13 + 11 * z + 3) hi) (13 + 11 * z + 4) n) (13 + 11 * z + 5) (fCost v z w n)) (13 + 11 * z + 6) (v 145)) 145 = v 145 from ((zu_n _ _ (by omega)).trans ((zu_n _ _ (by omega)).trans ((zu_n _ _ (by omega)).trans ((zu_n _ _ (by omega)).trans ((zu_n _ _ (by omega)).trans ((zu_n _ _ (by omega)).trans (zu_n _ _ (by omega))))))))]
  refine sm_s X (by omega) hH (13 + 11 * z + 7) (by omega) (by omega) dX6_lays_115 (fun H locs hH => ?_)
  refine lv_aload_n hx hb dX6_lays_116 rfl (lv_at hl 1 rfl) ?_
  refine gf_X6_s X hH q_576 dX6_lays_117 ?_
  refine lv_iload hx hb dX6_lays_120 (lv_at hl 0 rfl) ?_
  refine lv_bipush (v := 8) hx hb dX6_lays_122 (by decide) ?_
  refine n_iadd (A := 160 * B + 13 + 11 * z) (B := 8) hx hb (160 * B + 13 + 11 * z + 8) (by omega) dX6_lays_124 ?_
  refine lv_iconst (v := 0) hx hb dX6_lays_125 (by decide) ?_
  refine sm_s X (by omega) hH (13 + 11 * z + 8) (by omega) (by omega) dX6_lays_126 (fun H locs hH => ?_)
  refine lv_aload_n hx hb dX6_lays_127 rfl (lv_at hl 1 rfl) ?_
  refine gf_X6_s X hH q_576 dX6_lays_128 ?_
  refine lv_iload hx hb dX6_lays_131 (lv_at hl 0 rfl) ?_
  refine lv_bipush (v := 9) hx hb dX6_lays_133 (by decide) ?_
  refine n_iadd (A := 160 * B + 13 + 11 * z) (B := 9) hx hb (160 * B + 13 + 11 * z + 9) (by omega) dX6_lays_135 ?_
  refine lv_iconst (v := 0) hx hb dX6_lays_136 (by decide) ?_
  refine sm_s X (by omega) hH (13 + 11 * z + 9) (by omega) (by omega) dX6_lays_137 (fun H locs hH => ?_)
  refine lv_aload_n hx hb dX6_lays_138 rfl (lv_at hl 1 rfl) ?_
  refine gf_X6_s X hH q_576 dX6_lays_139 ?_
  refine lv_iload hx hb dX6_lays_142 (lv_at hl 0 rfl) ?_
  refine lv_bipush (v := 10) hx hb dX6_lays_144 (by decide) ?_
  refine n_iadd (A := 160 * B + 13 + 11 * z) (B := 10) hx hb (160 * B + 13 + 11 * z + 10) (by omega) dX6_lays_146 ?_
  refine lv_aload_n hx hb dX6_lays_147 rfl (lv_at hl 1 rfl) ?_
  refine gf_X6_s X hH q_576 dX6_lays_148 ?_
  refine lv_iload_n hx hb dX6_lays_151 rfl (lv_at hl 2 rfl) ?_
  refine lv_iload_n hx hb dX6_lays_152 rfl (lv_at hl 3 rfl) ?_
  refine lv_iconst (v := 3) hx hb dX6_lays_153 (by decide) ?_
  refine n_idiv (A := z) (B := 3) hx hb (z / 3) rfl (by omega) (by omega) (by omega) dX6_lays_154 ?_
  refine n_iadd (A := 160 * B) (B := z / 3) hx hb (160 * B + (z / 3)) (by omega) dX6_lays_155 ?_
  refine am_s X (by omega) hH ((z / 3)) (by omega) (by omega) dX6_lays_156 ?_
  rw [show (upd (upd (upd (upd (upd (upd (upd (upd (upd (upd v (13 + 11 * z + 0) 1) (13 + 11 * z + 1) w) (13 + 11 * z + 2) lo) (13 + 11 * z + 3) hi) (13 + 11 * z + 4) n) (13 + 11 * z + 5) (fCost v z w n)) (13 + 11 * z + 6) (v 145)) (13 + 11 * z + 7) (v 145)) (13 + 11 * z + 8) 0) (13 + 11 * z + 9) 0) ((z / 3)) = v ((z / 3)) from ((zu_n _ _ (by omega)).trans ((zu_n _ _ (by omega)).trans ((zu_n _ _ (by omega)).trans ((zu_n _ _ (by omega)).trans ((zu_n _ _ (by omega)).trans ((zu_n _ _ (by omega)).trans ((zu_n _ _ (by omega)).trans ((zu_n _ _ (by omega)).trans ((zu_n _ _ (by omega)).trans (zu_n _ _ (by omega)))))))))))]
  refine sm_s X (by omega) hH (13 + 11 * z + 10) (by omega) (by omega) dX6_lays_157 (fun H locs hH => ?_)
  exact hret _ _ _ _ _ (by rw [fPlace_m]) hH dX6_lays_158
set_option maxRecDepth 100000 in
set_option maxHeartbeats 4000000 in
theorem c_X6_copies (l : Launch) (D : va_G) (k : Nat → ClassId) (a : Nat → Nat → Nat) (g : Mem) (F T : Nat) (hF : F < 7) (hT : T < 7) (hFT : F ≠ T) (v u : V) (hjk : ∀ j, 160 ≤ j → v j = g (10 + F) j) : zV l yX6_copies cX6_copies 4 0 0 D k a [.ref (a 6 8), .int (nI F), .int (nI T)] (zM g T v u) (fun g' => g' = (zM g T (g (10 + F)) u)) := by
  refine zV_of (own := RX6) (by decide +kernel) rfl (Nat.le_of_ble_eq_true rfl) ?_
  intro p e s m args below meth c X Q hret hH ls hl
  obtain ⟨hx, hb, hml, hown, hts⟩ := X.1
  have hl : lv_has ls 4 [(0, .ref (a 6 8)), (1, .int (nI F)), (2, .int (nI T))] := hl
  have hH : zH D k a s (zM g T v u) s.heap [] := hH
  refine lv_iconst (v := 0) hx hb dX6_copies_0 (by decide) ?_
  refine lv_istore_n (lv' := [(3, .int 0), (0, .ref (a 6 8)), (1, .int (nI F)), (2, .int (nI T))]) hx hb dX6_copies_1 rfl hl (by decide) rfl (fun ls hl => ?_)
  have Lp2 : ∀ (jx i : Nat), i + jx = 160 → ∀ (H : Heap) (locs : List Loc) (ls : Array Slot), zH D k a s (zM g T (cpN v (g (10 + F)) i) u) H locs → lv_has ls 4 [(3, .int (nI i)), (0, .ref (a 6 8)), (1, .int (nI F)), (2, .int (nI T))] → W p l e (zRoom 0 0) s m args below meth c H locs 0 0 Q (F0 m 2 ls []) := by
    intro jx
    induction jx with
    | zero =>
      intro i hix H locs ls hH hl
      obtain rfl : i = 160 := by omega
      refine lv_iload_n hx hb dX6_copies_2 rfl (lv_at hl 0 rfl) ?_
      refine lv_sipush (v := 160) hx hb dX6_copies_3 (by decide) ?_
      refine n_icmp_ge (A := 160) (B := 160) (tgt := 39) hx hb (by omega) (by omega) dX6_copies_6 (by decide) (fun c1 => ?_) (fun q => absurd q (by omega))
      exact hret _ _ _ _ _ (by rw [cpN_eq hjk]) hH dX6_copies_39
    | succ jx ih =>
      intro i hix H locs ls hH hl
      have hi2 : i < 160 := by omega
      refine lv_iload_n hx hb dX6_copies_2 rfl (lv_at hl 0 rfl) ?_
      refine lv_sipush (v := 160) hx hb dX6_copies_3 (by decide) ?_
      refine n_icmp_ge (A := i) (B := 160) (tgt := 39) hx hb (by omega) (by omega) dX6_copies_6 (by decide) (fun q => absurd q (by omega)) (fun c2 => ?_)
      refine lv_aload_n hx hb dX6_copies_9 rfl (lv_at hl 1 rfl) ?_
      refine gf_X6_s X hH q_576 dX6_copies_10 ?_
      refine lv_sipush (v := 160) hx hb dX6_copies_13 (by decide) ?_
      refine lv_iload_n hx hb dX6_copies_16 rfl (lv_at hl 3 rfl) ?_
      refine n_imul (A := 160) (B := T) hx hb (160 * T) (by omega) dX6_copies_17 ?_
      refine lv_iload_n hx hb dX6_copies_18 rfl (lv_at hl 0 rfl) ?_
      refine n_iadd (A := 160 * T) (B := i) hx hb (160 * T + i) (by omega) dX6_copies_19 ?_
      refine lv_aload_n hx hb dX6_copies_20 rfl (lv_at hl 1 rfl) ?_
      refine gf_X6_s X hH q_576 dX6_copies_21 ?_
      refine lv_sipush (v := 160) hx hb dX6_copies_24 (by decide) ?_
      refine lv_iload_n hx hb dX6_copies_27 rfl (lv_at hl 2 rfl) ?_
      refine n_imul (A := 160) (B := F) hx hb (160 * F) (by omega) dX6_copies_28 ?_
      refine lv_iload_n hx hb dX6_copies_29 rfl (lv_at hl 0 rfl) ?_
      refine n_iadd (A := 160 * F) (B := i) hx hb (160 * F + i) (by omega) dX6_copies_30 ?_
      refine ar_s X hH (F) (i) (by omega) (by omega) (by omega) dX6_copies_31 ?_
      rw [show (zM g T (cpN v (g (10 + F)) i) u) (10 + F) (i) = g (10 + F) (i) from congrFun (zM_o _ _ _ (by omega) (by omega)) _]
      refine sm_s X (by omega) hH (i) (by omega) (by omega) dX6_copies_32 (fun H locs hH => ?_)
      refine lv_iinc (v := nI (i + 1)) (lv' := [(3, .int (nI (i + 1))), (0, .ref (a 6 8)), (1, .int (nI F)), (2, .int (nI T))]) hx hb dX6_copies_33 hl (k := 0) rfl (z_inc1 _) (by decide) rfl (fun ls hl => ?_)
      refine lv_goto (tgt := 2) hx hb dX6_copies_36 (by decide) ?_
      refine ih (i + 1) (by omega) _ _ _ ?_ ?_
      · rw [show (zM g T (cpN v (g (10 + F)) (i + 1)) u) = (zM g T (upd (cpN v (g (10 + F)) i) i (g (10 + F) i)) u) from by rfl]; exact hH
      · exact lv_sub hl [0, 1, 2, 3] rfl
  refine Lp2 (160) 0 (by omega) _ _ _ ?_ ?_
  · rw [show (zM g T (cpN v (g (10 + F)) 0) u) = (zM g T v u) from by rfl]; exact hH
  · rw [show (nI 0 : Int32) = 0 from by rfl]; exact lv_sub hl [0, 1, 2, 3] rfl
