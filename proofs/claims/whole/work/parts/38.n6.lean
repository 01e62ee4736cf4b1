set_option maxRecDepth 100000 in
set_option maxHeartbeats 4000000 in
theorem c_X6_hasPlan (l : Launch) (D : va_G) (k : Nat → ClassId) (a : Nat → Nat → Nat) (g : Mem) (v u : V) (hf : zFl v) (sh : Int32) : zI l yX6_hasPlan cX6_hasPlan 2 .boolean 2 42 D k a [.ref (a 6 8), .int (sh)] (zM g 0 v u) (fun r g' => r = (if hasP v sh then 1 else 0) ∧ g' = (zM g 0 v u)) := by
  refine zI_of (own := RX6) (by decide +kernel) rfl (Nat.le_of_ble_eq_true rfl) ?_
  intro p e s m args below meth c X Q hret hH ls hl
  obtain ⟨hx, hb, hml, hown, hts⟩ := X.1
  have hl : lv_has ls 2 [(0, .ref (a 6 8)), (1, .int (sh))] := hl
  have hH : zH D k a s (zM g 0 v u) s.heap [] := hH
  refine lv_iload_n hx hb dX6_hasPlan_0 rfl (lv_at hl 1 rfl) ?_
  refine z_callSi X hH (c_X6_isShape l D k a (zM g 0 v u) sh) k_X6_89 [] rfl rfl hl.1 (Nat.le_of_ble_eq_true rfl) ⟨Nat.le_of_ble_eq_true rfl, Nat.le_of_ble_eq_true rfl⟩ ⟨Nat.le_refl _, Nat.le_refl _⟩ dX6_hasPlan_1 (fun r1 g2 H locs h3 hH => ?_)
  rw [h3.2] at hH
  rw [h3.1]
  refine b_ifeq (P := okS sh) (tgt := 25) hx hb dX6_hasPlan_4 (by decide) (fun c4 => ?_) (fun c4 => ?_)
  · refine lv_iconst (v := 0) hx hb dX6_hasPlan_25 (by decide) ?_
    exact hret _ _ _ _ _ _ rfl ⟨by simp only [c4, okS, okT, okW, okN, hasP, zAct, if_true, if_false, not_true_eq_false, not_false_eq_true, and_self, or_true, true_or, or_false, false_or, and_true, true_and, and_false, false_and, or_self, Bool.false_eq_true, z10], rfl⟩ hH dX6_hasPlan_26
  · obtain ⟨z, hz, rfl⟩ := zIx (B := 12) (b := 12) rfl (by decide) c4
    have hz1 : iN (nI z) = z := iNn (by omega)
    refine lv_aload_n hx hb dX6_hasPlan_7 rfl (lv_at hl 0 rfl) ?_
    refine gf_X6_s X hH q_576 dX6_hasPlan_8 ?_
    refine lv_iconst (v := 0) hx hb dX6_hasPlan_11 (by decide) ?_
    refine lv_iload_n hx hb dX6_hasPlan_12 rfl (lv_at hl 1 rfl) ?_
    refine z_callSi X hH (c_X6_planAt l D k a (zM g 0 v u) 0 (z)) k_X6_38 [.ref (a 6 9)] rfl rfl hl.1 (Nat.le_of_ble_eq_true rfl) ⟨Nat.le_of_ble_eq_true rfl, Nat.le_of_ble_eq_true rfl⟩ ⟨Nat.le_refl _, Nat.le_refl _⟩ dX6_hasPlan_13 (fun r5 g6 H locs h7 hH => ?_)
    rw [h7.2] at hH
    rw [h7.1]
    refine am_s X (by omega) hH (13 + 11 * z + 0) (by omega) (by omega) dX6_hasPlan_16 ?_
    refine lv_iconst (v := 1) hx hb dX6_hasPlan_17 (by decide) ?_
    refine lv_icmp_ne (tgt := 25) hx hb dX6_hasPlan_18 (by decide) (fun c8 => ?_) (fun c8 => ?_)
    · have c8p := mt (z_p1 hf (by omega)).mpr c8
      refine lv_iconst (v := 0) hx hb dX6_hasPlan_25 (by decide) ?_
      exact hret _ _ _ _ _ _ rfl ⟨by simp only [c4, hz1, c8p, okS, okT, okW, okN, hasP, zAct, if_true, if_false, not_true_eq_false, not_false_eq_true, and_self, or_true, true_or, or_false, false_or, and_true, true_and, and_false, false_and, or_self, Bool.false_eq_true, z10], rfl⟩ hH dX6_hasPlan_26
    · have c8p := (z_p1 hf (by omega)).mp c8
      refine lv_iconst (v := 1) hx hb dX6_hasPlan_21 (by decide) ?_
      refine lv_goto (tgt := 26) hx hb dX6_hasPlan_22 (by decide) ?_
      exact hret _ _ _ _ _ _ rfl ⟨by simp only [c4, hz1, c8p, okS, okT, okW, okN, hasP, zAct, if_true, if_false, not_true_eq_false, not_false_eq_true, and_self, or_true, true_or, or_false, false_or, and_true, true_and, and_false, false_and, or_self, Bool.false_eq_true, z10], rfl⟩ hH dX6_hasPlan_26
set_option maxRecDepth 100000 in
set_option maxHeartbeats 4000000 in
theorem c_X6_pinned (l : Launch) (D : va_G) (k : Nat → ClassId) (a : Nat → Nat → Nat) (g : Mem) (v u : V) (hf : zFl v) : zI l yX6_pinned cX6_pinned 3 .int 1 21 D k a [.ref (a 6 8)] (zM g 0 v u) (fun r g' => r = (fP v 12) ∧ g' = (zM g 0 v u)) := by
  refine zI_of (own := RX6) (by decide +kernel) rfl (Nat.le_of_ble_eq_true rfl) ?_
  intro p e s m args below meth c X Q hret hH ls hl
  obtain ⟨hx, hb, hml, hown, hts⟩ := X.1
  have hl : lv_has ls 3 [(0, .ref (a 6 8))] := hl
  have hH : zH D k a s (zM g 0 v u) s.heap [] := hH
  refine lv_iconst (v := 0) hx hb dX6_pinned_0 (by decide) ?_
  refine lv_istore_n (lv' := [(1, .int 0), (0, .ref (a 6 8))]) hx hb dX6_pinned_1 rfl hl (by decide) rfl (fun ls hl => ?_)
  refine lv_iconst (v := 0) hx hb dX6_pinned_2 (by decide) ?_
  refine lv_istore_n (lv' := [(2, .int 0), (1, .int 0), (0, .ref (a 6 8))]) hx hb dX6_pinned_3 rfl hl (by decide) rfl (fun ls hl => ?_)
  have Lp4 : ∀ (jx i : Nat), i + jx = 12 → ∀ (H : Heap) (locs : List Loc) (ls : Array Slot), zH D k a s (zM g 0 v u) H locs → lv_has ls 3 [(2, .int (nI i)), (1, .int (fP v i)), (0, .ref (a 6 8))] → W p l e (zRoom 1 21) s m args below meth c H locs 0 0 Q (F0 m 4 ls []) := by
    intro jx
    induction jx with
    | zero =>
      intro i hix H locs ls hH hl
      obtain rfl : i = 12 := by omega
      refine lv_iload_n hx hb dX6_pinned_4 rfl (lv_at hl 0 rfl) ?_
      refine lv_bipush (v := 12) hx hb dX6_pinned_5 (by decide) ?_
      refine n_icmp_ge (A := 12) (B := 12) (tgt := 43) hx hb (by omega) (by omega) dX6_pinned_7 (by decide) (fun c1 => ?_) (fun q => absurd q (by omega))
      refine lv_iload_n hx hb dX6_pinned_43 rfl (lv_at hl 1 rfl) ?_
      exact hret _ _ _ _ _ _ rfl ⟨rfl, rfl⟩ hH dX6_pinned_44
    | succ jx ih =>
      intro i hix H locs ls hH hl
      have hi4 : i < 12 := by omega
      refine lv_iload_n hx hb dX6_pinned_4 rfl (lv_at hl 0 rfl) ?_
      refine lv_bipush (v := 12) hx hb dX6_pinned_5 (by decide) ?_
      refine n_icmp_ge (A := i) (B := 12) (tgt := 43) hx hb (by omega) (by omega) dX6_pinned_7 (by decide) (fun q => absurd q (by omega)) (fun c2 => ?_)
      refine lv_iload_n hx hb dX6_pinned_10 rfl (lv_at hl 1 rfl) ?_
      refine lv_aload_n hx hb dX6_pinned_11 rfl (lv_at hl 2 rfl) ?_
      refine gf_X6_s X hH q_576 dX6_pinned_12 ?_
      refine lv_iconst (v := 0) hx hb dX6_pinned_15 (by decide) ?_
      refine lv_iload_n hx hb dX6_pinned_16 rfl (lv_at hl 0 rfl) ?_
      refine z_callSi X hH (c_X6_planAt l D k a (zM g 0 v u) 0 (i)) k_X6_38 [.ref (a 6 9), .int (fP v i)] rfl rfl hl.1 (Nat.le_of_ble_eq_true rfl) ⟨Nat.le_of_ble_eq_true rfl, Nat.le_of_ble_eq_true rfl⟩ ⟨Nat.le_refl _, Nat.le_refl _⟩ dX6_pinned_17 (fun r3 g4 H locs h5 hH => ?_)
      rw [h5.2] at hH
      rw [h5.1]
      refine am_s X (by omega) hH (13 + 11 * i + 0) (by omega) (by omega) dX6_pinned_20 ?_
      refine lv_aload_n hx hb dX6_pinned_21 rfl (lv_at hl 2 rfl) ?_
      refine gf_X6_s X hH q_576 dX6_pinned_22 ?_
      refine lv_iconst (v := 0) hx hb dX6_pinned_25 (by decide) ?_
      refine lv_iload_n hx hb dX6_pinned_26 rfl (lv_at hl 0 rfl) ?_
      refine z_callSi X hH (c_X6_planAt l D k a (zM g 0 v u) 0 (i)) k_X6_38 [.ref (a 6 9), .int (v (13 + 11 * i + 0)), .int (fP v i)] rfl rfl hl.1 (Nat.le_of_ble_eq_true rfl) ⟨Nat.le_of_ble_eq_true rfl, Nat.le_of_ble_eq_true rfl⟩ ⟨Nat.le_refl _, Nat.le_refl _⟩ dX6_pinned_27 (fun r6 g7 H locs h8 hH => ?_)
      rw [h8.2] at hH
      rw [h8.1]
      refine lv_bipush (v := 8) hx hb dX6_pinned_30 (by decide) ?_
      refine n_iadd (A := 160 * 0 + 13 + 11 * i) (B := 8) hx hb (160 * 0 + 13 + 11 * i + 8) (by omega) dX6_pinned_32 ?_
      refine am_s X (by omega) hH (13 + 11 * i + 8) (by omega) (by omega) dX6_pinned_33 ?_
      refine lv_imul hx hb dX6_pinned_34 ?_
      refine lv_iadd hx hb dX6_pinned_35 ?_
      refine lv_istore_n (lv' := [(1, .int ((fP v i) + ((v (13 + 11 * i + 0)) * (v (13 + 11 * i + 8))))), (2, .int (nI i)), (0, .ref (a 6 8))]) hx hb dX6_pinned_36 rfl hl (by decide) rfl (fun ls hl => ?_)
      refine lv_iinc (v := nI (i + 1)) (lv' := [(2, .int (nI (i + 1))), (1, .int ((fP v i) + ((v (13 + 11 * i + 0)) * (v (13 + 11 * i + 8))))), (0, .ref (a 6 8))]) hx hb dX6_pinned_37 hl (k := 1) rfl (z_inc1 _) (by decide) rfl (fun ls hl => ?_)
      refine lv_goto (tgt := 4) hx hb dX6_pinned_40 (by decide) ?_
      refine ih (i + 1) (by omega) _ _ _ ?_ ?_
      · exact hH
      · rw [show (fP v (i + 1) : Int32) = (fP v i) + ((v (13 + 11 * i + 0)) * (v (13 + 11 * i + 8))) from by rw [fP_s hf (by omega)]]; exact lv_sub hl [0, 1, 2] rfl
  refine Lp4 (12) 0 (by omega) _ _ _ ?_ ?_
  · exact hH
  · rw [show (nI 0 : Int32) = 0 from by rfl, show (fP v 0 : Int32) = 0 from by rfl]; exact lv_sub hl [0, 1, 2] rfl
set_option maxRecDepth 100000 in
set_option maxHeartbeats 4000000 in
theorem c_X6_stale (l : Launch) (D : va_G) (k : Nat → ClassId) (a : Nat → Nat → Nat) (g : Mem) (v u : V) (hf : zFl v) : zI l yX6_stale cX6_stale 3 .int 3 65 D k a [.ref (a 6 8)] (zM g 0 v u) (fun r g' => r = (fS v 12) ∧ g' = (zM g 0 v u)) := by
  refine zI_of (own := RX6) (by decide +kernel) rfl (Nat.le_of_ble_eq_true rfl) ?_
  intro p e s m args below meth c X Q hret hH ls hl
  obtain ⟨hx, hb, hml, hown, hts⟩ := X.1
  have hl : lv_has ls 3 [(0, .ref (a 6 8))] := hl
  have hH : zH D k a s (zM g 0 v u) s.heap [] := hH
  refine lv_iconst (v := 0) hx hb dX6_stale_0 (by decide) ?_
  refine lv_istore_n (lv' := [(1, .int 0), (0, .ref (a 6 8))]) hx hb dX6_stale_1 rfl hl (by decide) rfl (fun ls hl => ?_)
  refine lv_iconst (v := 0) hx hb dX6_stale_2 (by decide) ?_
  refine lv_istore_n (lv' := [(2, .int 0), (1, .int 0), (0, .ref (a 6 8))]) hx hb dX6_stale_3 rfl hl (by decide) rfl (fun ls hl => ?_)
  have Lp4 : ∀ (jx i : Nat), i + jx = 12 → ∀ (H : Heap) (locs : List Loc) (ls : Array Slot), zH D k a s (zM g 0 v u) H locs → lv_has ls 3 [(2, .int (nI i)), (1, .int (fS v i)), (0, .ref (a 6 8))] → W p l e (zRoom 3 65) s m args below meth c H locs 0 0 Q (F0 m 4 ls []) := by
    intro jx
    induction jx with
    | zero =>
      intro i hix H locs ls hH hl
      obtain rfl : i = 12 := by omega
      refine lv_iload_n hx hb dX6_stale_4 rfl (lv_at hl 0 rfl) ?_
      refine lv_bipush (v := 12) hx hb dX6_stale_5 (by decide) ?_
      refine n_icmp_ge (A := 12) (B := 12) (tgt := 50) hx hb (by omega) (by omega) dX6_stale_7 (by decide) (fun c1 => ?_) (fun q => absurd q (by omega))
      refine lv_iload_n hx hb dX6_stale_50 rfl (lv_at hl 1 rfl) ?_
      exact hret _ _ _ _ _ _ rfl ⟨rfl, rfl⟩ hH dX6_stale_51
    | succ jx ih =>
      intro i hix H locs ls hH hl
      have hi4 : i < 12 := by omega
      refine lv_iload_n hx hb dX6_stale_4 rfl (lv_at hl 0 rfl) ?_
      refine lv_bipush (v := 12) hx hb dX6_stale_5 (by decide) ?_
      refine n_icmp_ge (A := i) (B := 12) (tgt := 50) hx hb (by omega) (by omega) dX6_stale_7 (by decide) (fun q => absurd q (by omega)) (fun c2 => ?_)
      refine lv_iload_n hx hb dX6_stale_10 rfl (lv_at hl 1 rfl) ?_
      refine lv_aload_n hx hb dX6_stale_11 rfl (lv_at hl 2 rfl) ?_
      refine lv_iload_n hx hb dX6_stale_12 rfl (lv_at hl 0 rfl) ?_
      refine z_callVi X hH (c_X6_hasPlan l D k a g v u hf (nI i)) k_X6_140 (rv_X6 X hH) [.int (fS v i)] rfl rfl hl.1 (Nat.le_of_ble_eq_true rfl) ⟨Nat.le_of_ble_eq_true rfl, Nat.le_of_ble_eq_true rfl⟩ ⟨Nat.le_refl _, Nat.le_refl _⟩ dX6_stale_13 (fun r3 g4 H locs h5 hH => ?_)
      rw [h5.2] at hH
      rw [h5.1]
      refine b_ifeq (P := hasP v (nI i)) (tgt := 41) hx hb dX6_stale_16 (by decide) (fun c6 => ?_) (fun c6 => ?_)
      · refine lv_iconst (v := 0) hx hb dX6_stale_41 (by decide) ?_
        refine lv_iadd hx hb dX6_stale_42 ?_
        refine lv_istore_n (lv' := [(1, .int ((fS v i) + 0)), (2, .int (nI i)), (0, .ref (a 6 8))]) hx hb dX6_stale_43 rfl hl (by decide) rfl (fun ls hl => ?_)
        refine lv_iinc (v := nI (i + 1)) (lv' := [(2, .int (nI (i + 1))), (1, .int ((fS v i) + 0)), (0, .ref (a 6 8))]) hx hb dX6_stale_44 hl (k := 1) rfl (z_inc1 _) (by decide) rfl (fun ls hl => ?_)
        refine lv_goto (tgt := 4) hx hb dX6_stale_47 (by decide) ?_
        refine ih (i + 1) (by omega) _ _ _ ?_ ?_
        · exact hH
        · rw [show (fS v (i + 1) : Int32) = (fS v i) + 0 from by rw [fS, if_pos (Classical.byContradiction (fun q => c6 ((zS_h (by omega)).mpr q))), Int32.add_zero]]; exact lv_sub hl [0, 1, 2] rfl
      · refine lv_aload_n hx hb dX6_stale_19 rfl (lv_at hl 2 rfl) ?_
        refine lv_iconst (v := 0) hx hb dX6_stale_20 (by decide) ?_
        refine lv_iload_n hx hb dX6_stale_21 rfl (lv_at hl 0 rfl) ?_
        refine z_callVi X hH (c_X6_isChanged l D k a g 0 (by omega) v u (i) (by omega)) k_X6_45 (rv_X6 X hH) [.int (fS v i)] rfl rfl hl.1 (Nat.le_of_ble_eq_true rfl) ⟨Nat.le_of_ble_eq_true rfl, Nat.le_of_ble_eq_true rfl⟩ ⟨Nat.le_refl _, Nat.le_refl _⟩ dX6_stale_22 (fun r7 g8 H locs h9 hH => ?_)
        rw [h9.2] at hH
        rw [h9.1]
        refine b_ifne (P := fChanged v i = true) (tgt := 37) hx hb dX6_stale_25 (by decide) (fun c10 => ?_) (fun c10 => ?_)
        · refine lv_iconst (v := 1) hx hb dX6_stale_37 (by decide) ?_
          refine lv_goto (tgt := 42) hx hb dX6_stale_38 (by decide) ?_
          refine lv_iadd hx hb dX6_stale_42 ?_
          refine lv_istore_n (lv' := [(1, .int ((fS v i) + 1)), (2, .int (nI i)), (0, .ref (a 6 8))]) hx hb dX6_stale_43 rfl hl (by decide) rfl (fun ls hl => ?_)
          refine lv_iinc (v := nI (i + 1)) (lv' := [(2, .int (nI (i + 1))), (1, .int ((fS v i) + 1)), (0, .ref (a 6 8))]) hx hb dX6_stale_44 hl (k := 1) rfl (z_inc1 _) (by decide) rfl (fun ls hl => ?_)
          refine lv_goto (tgt := 4) hx hb dX6_stale_47 (by decide) ?_
          refine ih (i + 1) (by omega) _ _ _ ?_ ?_
          · exact hH
          · rw [show (fS v (i + 1) : Int32) = (fS v i) + 1 from by rw [fS, if_neg ((zS_h (by omega)).mp c6), if_pos (Or.inl c10)]]; exact lv_sub hl [0, 1, 2] rfl
        · refine lv_aload_n hx hb dX6_stale_28 rfl (lv_at hl 2 rfl) ?_
          refine lv_iconst (v := 0) hx hb dX6_stale_29 (by decide) ?_
          refine lv_iload_n hx hb dX6_stale_30 rfl (lv_at hl 0 rfl) ?_
          refine z_callVi X hH (c_X6_isOld l D k a g 0 (by omega) v u (i) (by omega)) k_X6_49 (rv_X6 X hH) [.int (fS v i)] rfl rfl hl.1 (Nat.le_of_ble_eq_true rfl) ⟨Nat.le_of_ble_eq_true rfl, Nat.le_of_ble_eq_true rfl⟩ ⟨Nat.le_refl _, Nat.le_refl _⟩ dX6_stale_31 (fun r11 g12 H locs h13 hH => ?_)
          rw [h13.2] at hH
          rw [h13.1]
          refine b_ifeq (P := fOld v i = true) (tgt := 41) hx hb dX6_stale_34 (by decide) (fun c14 => ?_) (fun c14 => ?_)
          · refine lv_iconst (v := 0) hx hb dX6_stale_41 (by decide) ?_
            refine lv_iadd hx hb dX6_stale_42 ?_
            refine lv_istore_n (lv' := [(1, .int ((fS v i) + 0)), (2, .int (nI i)), (0, .ref (a 6 8))]) hx hb dX6_stale_43 rfl hl (by decide) rfl (fun ls hl => ?_)
            refine lv_iinc (v := nI (i + 1)) (lv' := [(2, .int (nI (i + 1))), (1, .int ((fS v i) + 0)), (0, .ref (a 6 8))]) hx hb dX6_stale_44 hl (k := 1) rfl (z_inc1 _) (by decide) rfl (fun ls hl => ?_)
            refine lv_goto (tgt := 4) hx hb dX6_stale_47 (by decide) ?_
            refine ih (i + 1) (by omega) _ _ _ ?_ ?_
            · exact hH
            · rw [show (fS v (i + 1) : Int32) = (fS v i) + 0 from by rw [fS, if_neg ((zS_h (by omega)).mp c6), if_neg (fun q => q.elim c10 c14), Int32.add_zero]]; exact lv_sub hl [0, 1, 2] rfl
          · refine lv_iconst (v := 1) hx hb dX6_stale_37 (by decide) ?_
            refine lv_goto (tgt := 42) hx hb dX6_stale_38 (by decide) ?_
            refine lv_iadd hx hb dX6_stale_42 ?_
            refine lv_istore_n (lv' := [(1, .int ((fS v i) + 1)), (2, .int (nI i)), (0, .ref (a 6 8))]) hx hb dX6_stale_43 rfl hl (by decide) rfl (fun ls hl => ?_)
            refine lv_iinc (v := nI (i + 1)) (lv' := [(2, .int (nI (i + 1))), (1, .int ((fS v i) + 1)), (0, .ref (a 6 8))]) hx hb dX6_stale_44 hl (k := 1) rfl (z_inc1 _) (by decide) rfl (fun ls hl => ?_)
            refine lv_goto (tgt := 4) hx hb dX6_stale_47 (by decide) ?_
            refine ih (i + 1) (by omega) _ _ _ ?_ ?_
            · exact hH
            · rw [show (fS v (i + 1) : Int32) = (fS v i) + 1 from by rw [fS, if_neg ((zS_h (by omega)).mp c6), if_pos (Or.inr c14)]]; exact lv_sub hl [0, 1, 2] rfl
  refine Lp4 (12) 0 (by omega) _ _ _ ?_ ?_
  · exact hH
  · rw [show (nI 0 : Int32) = 0 from by rfl, show (fS v 0 : Int32) = 0 from by rfl]; exact lv_sub hl [0, 1, 2] rfl
set_option maxRecDepth 100000 in
set_option maxHeartbeats 4000000 in
theorem c_X6_keptFor (l : Launch) (D : va_G) (k : Nat → ClassId) (a : Nat → Nat → Nat) (g : Mem) (v u : V) (hf : zFl v) (q : Nat) (hq : q < 4) : zI l yX6_keptFor cX6_keptFor 2 .int 1 21 D k a [.ref (a 6 8), .int (nI q)] (zM g 0 v u) (fun r g' => r = (fKo v q 3) ∧ g' = (zM g 0 v u)) := by
  refine zI_of (own := RX6) (by decide +kernel) rfl (Nat.le_of_ble_eq_true rfl) ?_
  intro p e s m args below meth c X Q hret hH ls hl
  obtain ⟨hx, hb, hml, hown, hts⟩ := X.1
  have hl : lv_has ls 2 [(0, .ref (a 6 8)), (1, .int (nI q))] := hl
  have hH : zH D k a s (zM g 0 v u) s.heap [] := hH
  refine lv_aload_n hx hb dX6_keptFor_0 rfl (lv_at hl 0 rfl) ?_
  refine gf_X6_s X hH q_576 dX6_keptFor_1 ?_
  refine lv_iconst (v := 0) hx hb dX6_keptFor_4 (by decide) ?_
  refine lv_iconst (v := 3) hx hb dX6_keptFor_5 (by decide) ?_
  refine lv_iload_n hx hb dX6_keptFor_6 rfl (lv_at hl 1 rfl) ?_
  refine n_imul (A := 3) (B := q) hx hb (3 * q) (by omega) dX6_keptFor_7 ?_
  refine z_callSi X hH (c_X6_planAt l D k a (zM g 0 v u) 0 (3 * q)) k_X6_38 [.ref (a 6 9)] rfl rfl hl.1 (Nat.le_of_ble_eq_true rfl) ⟨Nat.le_of_ble_eq_true rfl, Nat.le_of_ble_eq_true rfl⟩ ⟨Nat.le_refl _, Nat.le_refl _⟩ dX6_keptFor_8 (fun r1 g2 H locs h3 hH => ?_)
  rw [h3.2] at hH
  rw [h3.1]
  refine am_s X (by omega) hH (13 + 11 * (3 * q) + 0) (by omega) (by omega) dX6_keptFor_11 ?_
  refine lv_aload_n hx hb dX6_keptFor_12 rfl (lv_at hl 0 rfl) ?_
  refine gf_X6_s X hH q_576 dX6_keptFor_13 ?_
  refine lv_iconst (v := 0) hx hb dX6_keptFor_16 (by decide) ?_
  refine lv_iconst (v := 3) hx hb dX6_keptFor_17 (by decide) ?_
  refine lv_iload_n hx hb dX6_keptFor_18 rfl (lv_at hl 1 rfl) ?_
  refine n_imul (A := 3) (B := q) hx hb (3 * q) (by omega) dX6_keptFor_19 ?_
  refine lv_iconst (v := 1) hx hb dX6_keptFor_20 (by decide) ?_
  refine n_iadd (A := 3 * q) (B := 1) hx hb (3 * q + 1) (by omega) dX6_keptFor_21 ?_
  refine z_callSi X hH (c_X6_planAt l D k a (zM g 0 v u) 0 (3 * q + 1)) k_X6_38 [.ref (a 6 9), .int (v (13 + 11 * (3 * q) + 0))] rfl rfl hl.1 (Nat.le_of_ble_eq_true rfl) ⟨Nat.le_of_ble_eq_true rfl, Nat.le_of_ble_eq_true rfl⟩ ⟨Nat.le_refl _, Nat.le_refl _⟩ dX6_keptFor_22 (fun r4 g5 H locs h6 hH => ?_)
  rw [h6.2] at hH
  rw [h6.1]
  refine am_s X (by omega) hH (13 + 11 * (3 * q + 1) + 0) (by omega) (by omega) dX6_keptFor_25 ?_
  refine lv_iadd hx hb dX6_keptFor_26 ?_
  refine lv_aload_n hx hb dX6_keptFor_27 rfl (lv_at hl 0 rfl) ?_
  refine gf_X6_s X hH q_576 dX6_keptFor_28 ?_
  refine lv_iconst (v := 0) hx hb dX6_keptFor_31 (by decide) ?_
  refine lv_iconst (v := 3) hx hb dX6_keptFor_32 (by decide) ?_
  refine lv_iload_n hx hb dX6_keptFor_33 rfl (lv_at hl 1 rfl) ?_
  refine n_imul (A := 3) (B := q) hx hb (3 * q) (by omega) dX6_keptFor_34 ?_
  refine lv_iconst (v := 2) hx hb dX6_keptFor_35 (by decide) ?_
  refine n_iadd (A := 3 * q) (B := 2) hx hb (3 * q + 2) (by omega) dX6_keptFor_36 ?_
  refine z_callSi X hH (c_X6_planAt l D k a (zM g 0 v u) 0 (3 * q + 2)) k_X6_38 [.ref (a 6 9), .int ((v (13 + 11 * (3 * q) + 0)) + (v (13 + 11 * (3 * q + 1) + 0)))] rfl rfl hl.1 (Nat.le_of_ble_eq_true rfl) ⟨Nat.le_of_ble_eq_true rfl, Nat.le_of_ble_eq_true rfl⟩ ⟨Nat.le_refl _, Nat.le_refl _⟩ dX6_keptFor_37 (fun r7 g8 H locs h9 hH => ?_)
  rw [h9.2] at hH
  rw [h9.1]
  refine am_s X (by omega) hH (13 + 11 * (3 * q + 2) + 0) (by omega) (by omega) dX6_keptFor_40 ?_
  refine lv_iadd hx hb dX6_keptFor_41 ?_
  exact hret _ _ _ _ _ _ rfl ⟨by rw [fKo_s hf (by omega), fKo_s hf (by omega), fKo_s hf (by omega)]; show _ = 0 + v (13 + 11 * (3 * q) + 0) + _ + _; rw [Int32.zero_add], rfl⟩ hH dX6_keptFor_42
set_option maxRecDepth 100000 in
set_option maxHeartbeats 4000000 in
theorem c_X6_lowest (l : Launch) (D : va_G) (k : Nat → ClassId) (a : Nat → Nat → Nat) (g : Mem) (q : Nat) (hq : q < 5) : zI l yX6_lowest cX6_lowest 1 .int 0 0 D k a [.int (nI q)] (g) (fun r g' => r = (zLe q) ∧ g' = (g)) := by
  refine zI_of (own := RX6) (by decide +kernel) rfl (Nat.le_of_ble_eq_true rfl) ?_
  intro p e s m args below meth c X Q hret hH ls hl
  obtain ⟨hx, hb, hml, hown, hts⟩ := X.1
  have hl : lv_has ls 1 [(0, .int (nI q))] := hl
  have hH : zH D k a s (g) s.heap [] := hH
  refine lv_iload_n hx hb dX6_lowest_0 rfl (lv_at hl 0 rfl) ?_
  refine n_if_ne (A := q) (tgt := 8) hx hb (by omega) dX6_lowest_1 (by decide) (fun c1 => ?_) (fun c1 => ?_)
  · refine lv_iconst (v := 1) hx hb dX6_lowest_8 (by decide) ?_
    exact hret _ _ _ _ _ _ rfl ⟨(by rcases (show q = 0 ∨ q = 1 ∨ q = 2 ∨ q = 3 ∨ q = 4 by omega) with e9 | e9 | e9 | e9 | e9 <;> subst e9 <;> first | rfl | omega), rfl⟩ hH dX6_lowest_9
  · refine lv_iconst (v := 0) hx hb dX6_lowest_4 (by decide) ?_
    refine lv_goto (tgt := 9) hx hb dX6_lowest_5 (by decide) ?_
    exact hret _ _ _ _ _ _ rfl ⟨(by rcases (show q = 0 ∨ q = 1 ∨ q = 2 ∨ q = 3 ∨ q = 4 by omega) with e9 | e9 | e9 | e9 | e9 <;> subst e9 <;> first | rfl | omega), rfl⟩ hH dX6_lowest_9
set_option maxRecDepth 100000 in
set_option maxHeartbeats 4000000 in
theorem c_X6_highest (l : Launch) (D : va_G) (k : Nat → ClassId) (a : Nat → Nat → Nat) (g : Mem) (q : Nat) (hq : q < 5) : zI l yX6_highest cX6_highest 1 .int 0 0 D k a [.int (nI q)] (g) (fun r g' => r = (zMo q) ∧ g' = (g)) := by
  refine zI_of (own := RX6) (by decide +kernel) rfl (Nat.le_of_ble_eq_true rfl) ?_
  intro p e s m args below meth c X Q hret hH ls hl
  obtain ⟨hx, hb, hml, hown, hts⟩ := X.1
  have hl : lv_has ls 1 [(0, .int (nI q))] := hl
  have hH : zH D k a s (g) s.heap [] := hH
  refine lv_iload_n hx hb dX6_highest_0 rfl (lv_at hl 0 rfl) ?_
  refine n_if_eq (A := q) (tgt := 9) hx hb (by omega) dX6_highest_1 (by decide) (fun c1 => ?_) (fun c1 => ?_)
  · refine lv_sipush (v := 999) hx hb dX6_highest_9 (by decide) ?_
    refine lv_goto (tgt := 27) hx hb dX6_highest_12 (by decide) ?_
    exact hret _ _ _ _ _ _ rfl ⟨(by rcases (show q = 0 ∨ q = 1 ∨ q = 2 ∨ q = 3 ∨ q = 4 by omega) with e9 | e9 | e9 | e9 | e9 <;> subst e9 <;> first | rfl | omega), rfl⟩ hH dX6_highest_27
  · refine lv_iload_n hx hb dX6_highest_4 rfl (lv_at hl 0 rfl) ?_
    refine lv_iconst (v := 2) hx hb dX6_highest_5 (by decide) ?_
    refine n_icmp_ne (A := q) (B := 2) (tgt := 15) hx hb (by omega) (by omega) dX6_highest_6 (by decide) (fun c2 => ?_) (fun c2 => ?_)
    · refine lv_iload_n hx hb dX6_highest_15 rfl (lv_at hl 0 rfl) ?_
      refine lv_iconst (v := 3) hx hb dX6_highest_16 (by decide) ?_
      refine n_icmp_ne (A := q) (B := 3) (tgt := 25) hx hb (by omega) (by omega) dX6_highest_17 (by decide) (fun c3 => ?_) (fun c3 => ?_)
      · refine lv_bipush (v := 20) hx hb dX6_highest_25 (by decide) ?_
        exact hret _ _ _ _ _ _ rfl ⟨(by rcases (show q = 0 ∨ q = 1 ∨ q = 2 ∨ q = 3 ∨ q = 4 by omega) with e9 | e9 | e9 | e9 | e9 <;> subst e9 <;> first | rfl | omega), rfl⟩ hH dX6_highest_27
      · refine lv_bipush (v := 12) hx hb dX6_highest_20 (by decide) ?_
        refine lv_goto (tgt := 27) hx hb dX6_highest_22 (by decide) ?_
        exact hret _ _ _ _ _ _ rfl ⟨(by rcases (show q = 0 ∨ q = 1 ∨ q = 2 ∨ q = 3 ∨ q = 4 by omega) with e9 | e9 | e9 | e9 | e9 <;> subst e9 <;> first | rfl | omega), rfl⟩ hH dX6_highest_27
    · refine lv_sipush (v := 999) hx hb dX6_highest_9 (by decide) ?_
      refine lv_goto (tgt := 27) hx hb dX6_highest_12 (by decide) ?_
      exact hret _ _ _ _ _ _ rfl ⟨(by rcases (show q = 0 ∨ q = 1 ∨ q = 2 ∨ q = 3 ∨ q = 4 by omega) with e9 | e9 | e9 | e9 | e9 <;> subst e9 <;> first | rfl | omega), rfl⟩ hH dX6_highest_27
