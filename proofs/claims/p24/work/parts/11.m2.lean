set_option maxRecDepth 100000 in
set_option maxHeartbeats 4000000 in
theorem c_X3_keptPlans (l : Launch) (D : va_G) (k : Nat → ClassId) (a : Nat → Nat → Nat) (g : Mem) (v : V) : zI l yX3_keptPlans cX3_keptPlans 3 .int 0 0 D k a [.ref (a 0 0)] (zUp g 0 v) (fun r g' => r = (fK v 12) ∧ g' = (zUp g 0 v)) := by
  refine zI_of (own := RX3) (by decide +kernel) rfl (Nat.le_of_ble_eq_true rfl) ?_
  intro p e s m args below meth c X Q hret hH ls hl
  obtain ⟨hx, hb, hml, hown, hts⟩ := X.1
  have hl : lv_has ls 3 [(0, .ref (a 0 0))] := hl
  have hH : zH D k a s (zUp g 0 v) s.heap [] := hH
  refine lv_iconst (v := 0) hx hb dX3_keptPlans_0 (by decide) ?_
  refine lv_istore_n (lv' := [(1, .int 0), (0, .ref (a 0 0))]) hx hb dX3_keptPlans_1 rfl hl (by decide) rfl (fun ls hl => ?_)
  refine lv_iconst (v := 0) hx hb dX3_keptPlans_2 (by decide) ?_
  refine lv_istore_n (lv' := [(2, .int 0), (1, .int 0), (0, .ref (a 0 0))]) hx hb dX3_keptPlans_3 rfl hl (by decide) rfl (fun ls hl => ?_)
  have Lp4 : ∀ (jx i : Nat), i + jx = 12 → ∀ (H : Heap) (locs : List Loc) (ls : Array Slot), zH D k a s (zUp g 0 v) H locs → lv_has ls 3 [(2, .int (nI i)), (1, .int (fK v i)), (0, .ref (a 0 0))] → W p l e (zRoom 0 0) s m args below meth c H locs 0 0 Q (F0 m 4 ls []) := by
    intro jx
    induction jx with
    | zero =>
      intro i hix H locs ls hH hl
      obtain rfl : i = 12 := by omega
      refine lv_iload_n hx hb dX3_keptPlans_4 rfl (lv_at hl 0 rfl) ?_
      refine lv_bipush (v := 12) hx hb dX3_keptPlans_5 (by decide) ?_
      refine n_icmp_ge (A := 12) (B := 12) (tgt := 31) hx hb (by omega) (by omega) dX3_keptPlans_7 (by decide) (fun c1 => ?_) (fun q => absurd q (by omega))
      refine lv_iload_n hx hb dX3_keptPlans_31 rfl (lv_at hl 1 rfl) ?_
      exact hret _ _ _ _ _ _ rfl ⟨by simp only [c1, if_true, if_false, not_true_eq_false, not_false_eq_true, and_self, or_true, true_or, or_false, false_or, and_true, true_and, and_false, false_and, or_self, decide_eq_true_eq, Bool.false_eq_true, z10], rfl⟩ hH dX3_keptPlans_32
    | succ jx ih =>
      intro i hix H locs ls hH hl
      have hi4 : i < 12 := by omega
      refine lv_iload_n hx hb dX3_keptPlans_4 rfl (lv_at hl 0 rfl) ?_
      refine lv_bipush (v := 12) hx hb dX3_keptPlans_5 (by decide) ?_
      refine n_icmp_ge (A := i) (B := 12) (tgt := 31) hx hb (by omega) (by omega) dX3_keptPlans_7 (by decide) (fun q => absurd q (by omega)) (fun c2 => ?_)
      refine lv_aload_n hx hb dX3_keptPlans_10 rfl (lv_at hl 2 rfl) ?_
      refine gf_X3_plans X hH (by omega) q_120 dX3_keptPlans_11 ?_
      refine lv_iload_n hx hb dX3_keptPlans_14 rfl (lv_at hl 0 rfl) ?_
      refine ar_plans X hH (by omega) (i) (by omega) dX3_keptPlans_15 ?_
      refine gn_X1_kept X hH (by omega) q_64 dX3_keptPlans_16 ?_
      refine lv_if_eq (tgt := 25) hx hb dX3_keptPlans_19 (by decide) (fun c3 => ?_) (fun c3 => ?_)
      · refine lv_iinc (v := nI (i + 1)) (lv' := [(2, .int (nI (i + 1))), (1, .int (fK v i)), (0, .ref (a 0 0))]) hx hb dX3_keptPlans_25 hl (k := 0) rfl (z_inc1 _) (by decide) rfl (fun ls hl => ?_)
        refine lv_goto (tgt := 4) hx hb dX3_keptPlans_28 (by decide) ?_
        refine ih (i + 1) (by omega) _ _ _ ?_ ?_
        · exact hH
        · rw [show (fK v (i + 1) : Int32) = fK v i from by simp only [fK, c2, c3, if_true, if_false, or_true, true_or, or_false, false_or, not_true_eq_false, not_false_eq_true]]; exact lv_sub hl [0, 1, 2] rfl
      · refine lv_iinc (v := (fK v i) + 1) (lv' := [(1, .int ((fK v i) + 1)), (2, .int (nI i)), (0, .ref (a 0 0))]) hx hb dX3_keptPlans_22 hl (k := 1) rfl (z_incI _) (by decide) rfl (fun ls hl => ?_)
        refine lv_iinc (v := nI (i + 1)) (lv' := [(2, .int (nI (i + 1))), (1, .int ((fK v i) + 1)), (0, .ref (a 0 0))]) hx hb dX3_keptPlans_25 hl (k := 1) rfl (z_inc1 _) (by decide) rfl (fun ls hl => ?_)
        refine lv_goto (tgt := 4) hx hb dX3_keptPlans_28 (by decide) ?_
        refine ih (i + 1) (by omega) _ _ _ ?_ ?_
        · exact hH
        · rw [show (fK v (i + 1) : Int32) = (fK v i) + 1 from by simp only [fK, c2, c3, if_true, if_false, or_true, true_or, or_false, false_or, not_true_eq_false, not_false_eq_true]]; exact lv_sub hl [0, 1, 2] rfl
  refine Lp4 (12) 0 (by omega) _ _ _ ?_ ?_
  · exact hH
  · rw [show (nI 0 : Int32) = 0 from by rfl, show (fK v 0 : Int32) = 0 from by rfl]; exact lv_sub hl [0, 1, 2] rfl
set_option maxRecDepth 100000 in
set_option maxHeartbeats 4000000 in
theorem c_X3_pinnedPlans (l : Launch) (D : va_G) (k : Nat → ClassId) (a : Nat → Nat → Nat) (g : Mem) (v : V) : zI l yX3_pinnedPlans cX3_pinnedPlans 3 .int 0 0 D k a [.ref (a 0 0)] (zUp g 0 v) (fun r g' => r = (fP v 12) ∧ g' = (zUp g 0 v)) := by
  refine zI_of (own := RX3) (by decide +kernel) rfl (Nat.le_of_ble_eq_true rfl) ?_
  intro p e s m args below meth c X Q hret hH ls hl
  obtain ⟨hx, hb, hml, hown, hts⟩ := X.1
  have hl : lv_has ls 3 [(0, .ref (a 0 0))] := hl
  have hH : zH D k a s (zUp g 0 v) s.heap [] := hH
  refine lv_iconst (v := 0) hx hb dX3_pinnedPlans_0 (by decide) ?_
  refine lv_istore_n (lv' := [(1, .int 0), (0, .ref (a 0 0))]) hx hb dX3_pinnedPlans_1 rfl hl (by decide) rfl (fun ls hl => ?_)
  refine lv_iconst (v := 0) hx hb dX3_pinnedPlans_2 (by decide) ?_
  refine lv_istore_n (lv' := [(2, .int 0), (1, .int 0), (0, .ref (a 0 0))]) hx hb dX3_pinnedPlans_3 rfl hl (by decide) rfl (fun ls hl => ?_)
  have Lp4 : ∀ (jx i : Nat), i + jx = 12 → ∀ (H : Heap) (locs : List Loc) (ls : Array Slot), zH D k a s (zUp g 0 v) H locs → lv_has ls 3 [(2, .int (nI i)), (1, .int (fP v i)), (0, .ref (a 0 0))] → W p l e (zRoom 0 0) s m args below meth c H locs 0 0 Q (F0 m 4 ls []) := by
    intro jx
    induction jx with
    | zero =>
      intro i hix H locs ls hH hl
      obtain rfl : i = 12 := by omega
      refine lv_iload_n hx hb dX3_pinnedPlans_4 rfl (lv_at hl 0 rfl) ?_
      refine lv_bipush (v := 12) hx hb dX3_pinnedPlans_5 (by decide) ?_
      refine n_icmp_ge (A := 12) (B := 12) (tgt := 43) hx hb (by omega) (by omega) dX3_pinnedPlans_7 (by decide) (fun c1 => ?_) (fun q => absurd q (by omega))
      refine lv_iload_n hx hb dX3_pinnedPlans_43 rfl (lv_at hl 1 rfl) ?_
      exact hret _ _ _ _ _ _ rfl ⟨by simp only [c1, if_true, if_false, not_true_eq_false, not_false_eq_true, and_self, or_true, true_or, or_false, false_or, and_true, true_and, and_false, false_and, or_self, decide_eq_true_eq, Bool.false_eq_true, z10], rfl⟩ hH dX3_pinnedPlans_44
    | succ jx ih =>
      intro i hix H locs ls hH hl
      have hi4 : i < 12 := by omega
      refine lv_iload_n hx hb dX3_pinnedPlans_4 rfl (lv_at hl 0 rfl) ?_
      refine lv_bipush (v := 12) hx hb dX3_pinnedPlans_5 (by decide) ?_
      refine n_icmp_ge (A := i) (B := 12) (tgt := 43) hx hb (by omega) (by omega) dX3_pinnedPlans_7 (by decide) (fun q => absurd q (by omega)) (fun c2 => ?_)
      refine lv_aload_n hx hb dX3_pinnedPlans_10 rfl (lv_at hl 2 rfl) ?_
      refine gf_X3_plans X hH (by omega) q_120 dX3_pinnedPlans_11 ?_
      refine lv_iload_n hx hb dX3_pinnedPlans_14 rfl (lv_at hl 0 rfl) ?_
      refine ar_plans X hH (by omega) (i) (by omega) dX3_pinnedPlans_15 ?_
      refine gn_X1_kept X hH (by omega) q_64 dX3_pinnedPlans_16 ?_
      refine lv_if_eq (tgt := 37) hx hb dX3_pinnedPlans_19 (by decide) (fun c3 => ?_) (fun c3 => ?_)
      · refine lv_iinc (v := nI (i + 1)) (lv' := [(2, .int (nI (i + 1))), (1, .int (fP v i)), (0, .ref (a 0 0))]) hx hb dX3_pinnedPlans_37 hl (k := 0) rfl (z_inc1 _) (by decide) rfl (fun ls hl => ?_)
        refine lv_goto (tgt := 4) hx hb dX3_pinnedPlans_40 (by decide) ?_
        refine ih (i + 1) (by omega) _ _ _ ?_ ?_
        · exact hH
        · rw [show (fP v (i + 1) : Int32) = fP v i from by simp only [fP, c2, c3, if_true, if_false, or_true, true_or, or_false, false_or, not_true_eq_false, not_false_eq_true]]; exact lv_sub hl [0, 1, 2] rfl
      · refine lv_aload_n hx hb dX3_pinnedPlans_22 rfl (lv_at hl 2 rfl) ?_
        refine gf_X3_plans X hH (by omega) q_120 dX3_pinnedPlans_23 ?_
        refine lv_iload_n hx hb dX3_pinnedPlans_26 rfl (lv_at hl 0 rfl) ?_
        refine ar_plans X hH (by omega) (i) (by omega) dX3_pinnedPlans_27 ?_
        refine gn_X1_pinned X hH (by omega) q_67 dX3_pinnedPlans_28 ?_
        refine lv_if_eq (tgt := 37) hx hb dX3_pinnedPlans_31 (by decide) (fun c4 => ?_) (fun c4 => ?_)
        · refine lv_iinc (v := nI (i + 1)) (lv' := [(2, .int (nI (i + 1))), (1, .int (fP v i)), (0, .ref (a 0 0))]) hx hb dX3_pinnedPlans_37 hl (k := 0) rfl (z_inc1 _) (by decide) rfl (fun ls hl => ?_)
          refine lv_goto (tgt := 4) hx hb dX3_pinnedPlans_40 (by decide) ?_
          refine ih (i + 1) (by omega) _ _ _ ?_ ?_
          · exact hH
          · rw [show (fP v (i + 1) : Int32) = fP v i from by simp only [fP, c2, c3, c4, if_true, if_false, or_true, true_or, or_false, false_or, not_true_eq_false, not_false_eq_true]]; exact lv_sub hl [0, 1, 2] rfl
        · refine lv_iinc (v := (fP v i) + 1) (lv' := [(1, .int ((fP v i) + 1)), (2, .int (nI i)), (0, .ref (a 0 0))]) hx hb dX3_pinnedPlans_34 hl (k := 1) rfl (z_incI _) (by decide) rfl (fun ls hl => ?_)
          refine lv_iinc (v := nI (i + 1)) (lv' := [(2, .int (nI (i + 1))), (1, .int ((fP v i) + 1)), (0, .ref (a 0 0))]) hx hb dX3_pinnedPlans_37 hl (k := 1) rfl (z_inc1 _) (by decide) rfl (fun ls hl => ?_)
          refine lv_goto (tgt := 4) hx hb dX3_pinnedPlans_40 (by decide) ?_
          refine ih (i + 1) (by omega) _ _ _ ?_ ?_
          · exact hH
          · rw [show (fP v (i + 1) : Int32) = (fP v i) + 1 from by simp only [fP, c2, c3, c4, if_true, if_false, or_true, true_or, or_false, false_or, not_true_eq_false, not_false_eq_true]]; exact lv_sub hl [0, 1, 2] rfl
  refine Lp4 (12) 0 (by omega) _ _ _ ?_ ?_
  · exact hH
  · rw [show (nI 0 : Int32) = 0 from by rfl, show (fP v 0 : Int32) = 0 from by rfl]; exact lv_sub hl [0, 1, 2] rfl
set_option maxRecDepth 100000 in
set_option maxHeartbeats 4000000 in
theorem c_X3_stalePlans (l : Launch) (D : va_G) (k : Nat → ClassId) (a : Nat → Nat → Nat) (g : Mem) (v : V) : zI l yX3_stalePlans cX3_stalePlans 3 .int 3 64 D k a [.ref (a 0 0)] (zUp g 0 v) (fun r g' => r = (fS v 12) ∧ g' = (zUp g 0 v)) := by
  refine zI_of (own := RX3) (by decide +kernel) rfl (Nat.le_of_ble_eq_true rfl) ?_
  intro p e s m args below meth c X Q hret hH ls hl
  obtain ⟨hx, hb, hml, hown, hts⟩ := X.1
  have hl : lv_has ls 3 [(0, .ref (a 0 0))] := hl
  have hH : zH D k a s (zUp g 0 v) s.heap [] := hH
  refine lv_iconst (v := 0) hx hb dX3_stalePlans_0 (by decide) ?_
  refine lv_istore_n (lv' := [(1, .int 0), (0, .ref (a 0 0))]) hx hb dX3_stalePlans_1 rfl hl (by decide) rfl (fun ls hl => ?_)
  refine lv_iconst (v := 0) hx hb dX3_stalePlans_2 (by decide) ?_
  refine lv_istore_n (lv' := [(2, .int 0), (1, .int 0), (0, .ref (a 0 0))]) hx hb dX3_stalePlans_3 rfl hl (by decide) rfl (fun ls hl => ?_)
  have Lp4 : ∀ (jx i : Nat), i + jx = 12 → ∀ (H : Heap) (locs : List Loc) (ls : Array Slot), zH D k a s (zUp g 0 v) H locs → lv_has ls 3 [(2, .int (nI i)), (1, .int (fS v i)), (0, .ref (a 0 0))] → W p l e (zRoom 3 64) s m args below meth c H locs 0 0 Q (F0 m 4 ls []) := by
    intro jx
    induction jx with
    | zero =>
      intro i hix H locs ls hH hl
      obtain rfl : i = 12 := by omega
      refine lv_iload_n hx hb dX3_stalePlans_4 rfl (lv_at hl 0 rfl) ?_
      refine lv_bipush (v := 12) hx hb dX3_stalePlans_5 (by decide) ?_
      refine n_icmp_ge (A := 12) (B := 12) (tgt := 39) hx hb (by omega) (by omega) dX3_stalePlans_7 (by decide) (fun c1 => ?_) (fun q => absurd q (by omega))
      refine lv_iload_n hx hb dX3_stalePlans_39 rfl (lv_at hl 1 rfl) ?_
      exact hret _ _ _ _ _ _ rfl ⟨by simp only [c1, if_true, if_false, not_true_eq_false, not_false_eq_true, and_self, or_true, true_or, or_false, false_or, and_true, true_and, and_false, false_and, or_self, decide_eq_true_eq, Bool.false_eq_true, z10], rfl⟩ hH dX3_stalePlans_40
    | succ jx ih =>
      intro i hix H locs ls hH hl
      have hi4 : i < 12 := by omega
      refine lv_iload_n hx hb dX3_stalePlans_4 rfl (lv_at hl 0 rfl) ?_
      refine lv_bipush (v := 12) hx hb dX3_stalePlans_5 (by decide) ?_
      refine n_icmp_ge (A := i) (B := 12) (tgt := 39) hx hb (by omega) (by omega) dX3_stalePlans_7 (by decide) (fun q => absurd q (by omega)) (fun c2 => ?_)
      refine lv_aload_n hx hb dX3_stalePlans_10 rfl (lv_at hl 2 rfl) ?_
      refine gf_X3_plans X hH (by omega) q_120 dX3_stalePlans_11 ?_
      refine lv_iload_n hx hb dX3_stalePlans_14 rfl (lv_at hl 0 rfl) ?_
      refine ar_plans X hH (by omega) (i) (by omega) dX3_stalePlans_15 ?_
      refine gn_X1_kept X hH (by omega) q_64 dX3_stalePlans_16 ?_
      refine lv_if_eq (tgt := 33) hx hb dX3_stalePlans_19 (by decide) (fun c3 => ?_) (fun c3 => ?_)
      · refine lv_iinc (v := nI (i + 1)) (lv' := [(2, .int (nI (i + 1))), (1, .int (fS v i)), (0, .ref (a 0 0))]) hx hb dX3_stalePlans_33 hl (k := 0) rfl (z_inc1 _) (by decide) rfl (fun ls hl => ?_)
        refine lv_goto (tgt := 4) hx hb dX3_stalePlans_36 (by decide) ?_
        refine ih (i + 1) (by omega) _ _ _ ?_ ?_
        · exact hH
        · rw [show (fS v (i + 1) : Int32) = fS v i from by simp only [fS, c2, c3, if_true, if_false, or_true, true_or, or_false, false_or, not_true_eq_false, not_false_eq_true]]; exact lv_sub hl [0, 1, 2] rfl
      · refine lv_aload_n hx hb dX3_stalePlans_22 rfl (lv_at hl 2 rfl) ?_
        refine lv_iload_n hx hb dX3_stalePlans_23 rfl (lv_at hl 0 rfl) ?_
        refine z_callVi X hH (c_X3_isStale l D k a g v (i) (by omega)) k_X3_176 (rv_X3 X hH (by omega)) [] rfl rfl hl.1 (Nat.le_of_ble_eq_true rfl) ⟨Nat.le_of_ble_eq_true rfl, Nat.le_of_ble_eq_true rfl⟩ ⟨Nat.le_refl _, Nat.le_refl _⟩ dX3_stalePlans_24 (fun r4 g5 H locs h6 hH => ?_)
        rw [h6.2] at hH
        rw [h6.1]
        refine b_ifeq (P := fChanged v i = true ∨ fOld v i = true) (tgt := 33) hx hb dX3_stalePlans_27 (by decide) (fun c7 => ?_) (fun c7 => ?_)
        · refine lv_iinc (v := nI (i + 1)) (lv' := [(2, .int (nI (i + 1))), (1, .int (fS v i)), (0, .ref (a 0 0))]) hx hb dX3_stalePlans_33 hl (k := 0) rfl (z_inc1 _) (by decide) rfl (fun ls hl => ?_)
          refine lv_goto (tgt := 4) hx hb dX3_stalePlans_36 (by decide) ?_
          refine ih (i + 1) (by omega) _ _ _ ?_ ?_
          · exact hH
          · rw [show (fS v (i + 1) : Int32) = fS v i from by simp only [fS, c2, c3, c7, if_true, if_false, or_true, true_or, or_false, false_or, not_true_eq_false, not_false_eq_true]]; exact lv_sub hl [0, 1, 2] rfl
        · refine lv_iinc (v := (fS v i) + 1) (lv' := [(1, .int ((fS v i) + 1)), (2, .int (nI i)), (0, .ref (a 0 0))]) hx hb dX3_stalePlans_30 hl (k := 1) rfl (z_incI _) (by decide) rfl (fun ls hl => ?_)
          refine lv_iinc (v := nI (i + 1)) (lv' := [(2, .int (nI (i + 1))), (1, .int ((fS v i) + 1)), (0, .ref (a 0 0))]) hx hb dX3_stalePlans_33 hl (k := 1) rfl (z_inc1 _) (by decide) rfl (fun ls hl => ?_)
          refine lv_goto (tgt := 4) hx hb dX3_stalePlans_36 (by decide) ?_
          refine ih (i + 1) (by omega) _ _ _ ?_ ?_
          · exact hH
          · rw [show (fS v (i + 1) : Int32) = (fS v i) + 1 from by simp only [fS, c2, c3, c7, if_true, if_false, or_true, true_or, or_false, false_or, not_true_eq_false, not_false_eq_true]]; exact lv_sub hl [0, 1, 2] rfl
  refine Lp4 (12) 0 (by omega) _ _ _ ?_ ?_
  · exact hH
  · rw [show (nI 0 : Int32) = 0 from by rfl, show (fS v 0 : Int32) = 0 from by rfl]; exact lv_sub hl [0, 1, 2] rfl
set_option maxRecDepth 100000 in
set_option maxHeartbeats 4000000 in
theorem c_X3_keptPlansOf (l : Launch) (D : va_G) (k : Nat → ClassId) (a : Nat → Nat → Nat) (g : Mem) (v : V) (q : Nat) (hq : q < 4) : zI l yX3_keptPlansOf cX3_keptPlansOf 4 .int 0 0 D k a [.ref (a 0 0), .int (nI q)] (zUp g 0 v) (fun r g' => r = (fKo v q 3) ∧ g' = (zUp g 0 v)) := by
  refine zI_of (own := RX3) (by decide +kernel) rfl (Nat.le_of_ble_eq_true rfl) ?_
  intro p e s m args below meth c X Q hret hH ls hl
  obtain ⟨hx, hb, hml, hown, hts⟩ := X.1
  have hl : lv_has ls 4 [(0, .ref (a 0 0)), (1, .int (nI q))] := hl
  have hH : zH D k a s (zUp g 0 v) s.heap [] := hH
  refine lv_iconst (v := 0) hx hb dX3_keptPlansOf_0 (by decide) ?_
  refine lv_istore_n (lv' := [(2, .int 0), (0, .ref (a 0 0)), (1, .int (nI q))]) hx hb dX3_keptPlansOf_1 rfl hl (by decide) rfl (fun ls hl => ?_)
  refine lv_iconst (v := 0) hx hb dX3_keptPlansOf_2 (by decide) ?_
  refine lv_istore_n (lv' := [(3, .int 0), (2, .int 0), (0, .ref (a 0 0)), (1, .int (nI q))]) hx hb dX3_keptPlansOf_3 rfl hl (by decide) rfl (fun ls hl => ?_)
  have Lp4 : ∀ (jx i : Nat), i + jx = 3 → ∀ (H : Heap) (locs : List Loc) (ls : Array Slot), zH D k a s (zUp g 0 v) H locs → lv_has ls 4 [(3, .int (nI i)), (2, .int (fKo v q i)), (0, .ref (a 0 0)), (1, .int (nI q))] → W p l e (zRoom 0 0) s m args below meth c H locs 0 0 Q (F0 m 4 ls []) := by
    intro jx
    induction jx with
    | zero =>
      intro i hix H locs ls hH hl
      obtain rfl : i = 3 := by omega
      refine lv_iload_n hx hb dX3_keptPlansOf_4 rfl (lv_at hl 0 rfl) ?_
      refine lv_iconst (v := 3) hx hb dX3_keptPlansOf_5 (by decide) ?_
      refine n_icmp_ge (A := 3) (B := 3) (tgt := 34) hx hb (by omega) (by omega) dX3_keptPlansOf_6 (by decide) (fun c1 => ?_) (fun q => absurd q (by omega))
      refine lv_iload_n hx hb dX3_keptPlansOf_34 rfl (lv_at hl 1 rfl) ?_
      exact hret _ _ _ _ _ _ rfl ⟨by simp only [c1, if_true, if_false, not_true_eq_false, not_false_eq_true, and_self, or_true, true_or, or_false, false_or, and_true, true_and, and_false, false_and, or_self, decide_eq_true_eq, Bool.false_eq_true, z10], rfl⟩ hH dX3_keptPlansOf_35
    | succ jx ih =>
      intro i hix H locs ls hH hl
      have hi4 : i < 3 := by omega
      refine lv_iload_n hx hb dX3_keptPlansOf_4 rfl (lv_at hl 0 rfl) ?_
      refine lv_iconst (v := 3) hx hb dX3_keptPlansOf_5 (by decide) ?_
      refine n_icmp_ge (A := i) (B := 3) (tgt := 34) hx hb (by omega) (by omega) dX3_keptPlansOf_6 (by decide) (fun q => absurd q (by omega)) (fun c2 => ?_)
      refine lv_aload_n hx hb dX3_keptPlansOf_9 rfl (lv_at hl 2 rfl) ?_
      refine gf_X3_plans X hH (by omega) q_120 dX3_keptPlansOf_10 ?_
      refine lv_iconst (v := 3) hx hb dX3_keptPlansOf_13 (by decide) ?_
      refine lv_iload_n hx hb dX3_keptPlansOf_14 rfl (lv_at hl 3 rfl) ?_
      refine n_imul (A := 3) (B := q) hx hb (3 * q) (by omega) dX3_keptPlansOf_15 ?_
      refine lv_iload_n hx hb dX3_keptPlansOf_16 rfl (lv_at hl 0 rfl) ?_
      refine n_iadd (A := 3 * q) (B := i) hx hb (3 * q + i) (by omega) dX3_keptPlansOf_17 ?_
      refine ar_plans X hH (by omega) (3 * q + i) (by omega) dX3_keptPlansOf_18 ?_
      refine gn_X1_kept X hH (by omega) q_64 dX3_keptPlansOf_19 ?_
      refine lv_if_eq (tgt := 28) hx hb dX3_keptPlansOf_22 (by decide) (fun c3 => ?_) (fun c3 => ?_)
      · refine lv_iinc (v := nI (i + 1)) (lv' := [(3, .int (nI (i + 1))), (2, .int (fKo v q i)), (0, .ref (a 0 0)), (1, .int (nI q))]) hx hb dX3_keptPlansOf_28 hl (k := 0) rfl (z_inc1 _) (by decide) rfl (fun ls hl => ?_)
        refine lv_goto (tgt := 4) hx hb dX3_keptPlansOf_31 (by decide) ?_
        refine ih (i + 1) (by omega) _ _ _ ?_ ?_
        · exact hH
        · rw [show (fKo v q (i + 1) : Int32) = fKo v q i from by simp only [fKo, c2, c3, if_true, if_false, or_true, true_or, or_false, false_or, not_true_eq_false, not_false_eq_true]]; exact lv_sub hl [0, 1, 2, 3] rfl
      · refine lv_iinc (v := (fKo v q i) + 1) (lv' := [(2, .int ((fKo v q i) + 1)), (3, .int (nI i)), (0, .ref (a 0 0)), (1, .int (nI q))]) hx hb dX3_keptPlansOf_25 hl (k := 1) rfl (z_incI _) (by decide) rfl (fun ls hl => ?_)
        refine lv_iinc (v := nI (i + 1)) (lv' := [(3, .int (nI (i + 1))), (2, .int ((fKo v q i) + 1)), (0, .ref (a 0 0)), (1, .int (nI q))]) hx hb dX3_keptPlansOf_28 hl (k := 1) rfl (z_inc1 _) (by decide) rfl (fun ls hl => ?_)
        refine lv_goto (tgt := 4) hx hb dX3_keptPlansOf_31 (by decide) ?_
        refine ih (i + 1) (by omega) _ _ _ ?_ ?_
        · exact hH
        · rw [show (fKo v q (i + 1) : Int32) = (fKo v q i) + 1 from by simp only [fKo, c2, c3, if_true, if_false, or_true, true_or, or_false, false_or, not_true_eq_false, not_false_eq_true]]; exact lv_sub hl [0, 1, 2, 3] rfl
  refine Lp4 (3) 0 (by omega) _ _ _ ?_ ?_
  · exact hH
  · rw [show (nI 0 : Int32) = 0 from by rfl, show (fKo v q 0 : Int32) = 0 from by rfl]; exact lv_sub hl [0, 1, 2, 3] rfl
set_option maxRecDepth 100000 in
set_option maxHeartbeats 4000000 in
theorem c_X3_oldestUnpinned (l : Launch) (D : va_G) (k : Nat → ClassId) (a : Nat → Nat → Nat) (g : Mem) (v : V) : zI l yX3_oldestUnpinned cX3_oldestUnpinned 6 .int 0 0 D k a [.ref (a 0 0)] (zUp g 0 v) (fun r g' => r = (fOldest v) ∧ g' = (zUp g 0 v)) := by
  refine zI_of (own := RX3) (by decide +kernel) rfl (Nat.le_of_ble_eq_true rfl) ?_
  intro p e s m args below meth c X Q hret hH ls hl
  obtain ⟨hx, hb, hml, hown, hts⟩ := X.1
  have hl : lv_has ls 6 [(0, .ref (a 0 0))] := hl
  have hH : zH D k a s (zUp g 0 v) s.heap [] := hH
  refine lv_bipush (v := (-4)) hx hb dX3_oldestUnpinned_0 (by decide) ?_
  refine lv_istore_n (lv' := [(1, .int (-4)), (0, .ref (a 0 0))]) hx hb dX3_oldestUnpinned_2 rfl hl (by decide) rfl (fun ls hl => ?_)
  refine lv_iconst (v := 0) hx hb dX3_oldestUnpinned_3 (by decide) ?_
  refine lv_istore_n (lv' := [(2, .int 0), (1, .int (-4)), (0, .ref (a 0 0))]) hx hb dX3_oldestUnpinned_4 rfl hl (by decide) rfl (fun ls hl => ?_)
  refine lv_iconst (v := 0) hx hb dX3_oldestUnpinned_5 (by decide) ?_
  refine lv_istore_n (lv' := [(3, .int 0), (2, .int 0), (1, .int (-4)), (0, .ref (a 0 0))]) hx hb dX3_oldestUnpinned_6 rfl hl (by decide) rfl (fun ls hl => ?_)
  have Lp7 : ∀ (jx i : Nat), i + jx = 12 → ∀ (H : Heap) (locs : List Loc) (ls : Array Slot), zH D k a s (zUp g 0 v) H locs → lv_has ls 6 [(3, .int (nI i)), (2, .int ((fO v i).2)), (1, .int ((fO v i).1)), (0, .ref (a 0 0))] → W p l e (zRoom 0 0) s m args below meth c H locs 0 0 Q (F0 m 7 ls []) := by
    intro jx
    induction jx with
    | zero =>
      intro i hix H locs ls hH hl
      obtain rfl : i = 12 := by omega
      refine lv_iload_n hx hb dX3_oldestUnpinned_7 rfl (lv_at hl 0 rfl) ?_
      refine lv_bipush (v := 12) hx hb dX3_oldestUnpinned_8 (by decide) ?_
      refine n_icmp_ge (A := 12) (B := 12) (tgt := 78) hx hb (by omega) (by omega) dX3_oldestUnpinned_10 (by decide) (fun c1 => ?_) (fun q => absurd q (by omega))
      refine lv_iload_n hx hb dX3_oldestUnpinned_78 rfl (lv_at hl 2 rfl) ?_
      exact hret _ _ _ _ _ _ rfl ⟨by simp only [fOldest, c1, if_true, if_false, not_true_eq_false, not_false_eq_true, and_self, or_true, true_or, or_false, false_or, and_true, true_and, and_false, false_and, or_self, decide_eq_true_eq, Bool.false_eq_true, z10], rfl⟩ hH dX3_oldestUnpinned_79
    | succ jx ih =>
      intro i hix H locs ls hH hl
      have hi7 : i < 12 := by omega
      refine lv_iload_n hx hb dX3_oldestUnpinned_7 rfl (lv_at hl 0 rfl) ?_
      refine lv_bipush (v := 12) hx hb dX3_oldestUnpinned_8 (by decide) ?_
      refine n_icmp_ge (A := i) (B := 12) (tgt := 78) hx hb (by omega) (by omega) dX3_oldestUnpinned_10 (by decide) (fun q => absurd q (by omega)) (fun c2 => ?_)
      refine lv_aload_n hx hb dX3_oldestUnpinned_13 rfl (lv_at hl 3 rfl) ?_
      refine gf_X3_plans X hH (by omega) q_120 dX3_oldestUnpinned_14 ?_
      refine lv_iload_n hx hb dX3_oldestUnpinned_17 rfl (lv_at hl 0 rfl) ?_
      refine ar_plans X hH (by omega) (i) (by omega) dX3_oldestUnpinned_18 ?_
      refine lv_astore (lv' := [(4, .ref (a 0 (8 + i))), (3, .int (nI i)), (2, .int ((fO v i).2)), (1, .int ((fO v i).1)), (0, .ref (a 0 0))]) hx hb dX3_oldestUnpinned_19 hl (by decide) rfl (fun ls hl => ?_)
      refine lv_iload_n hx hb dX3_oldestUnpinned_21 rfl (lv_at hl 3 rfl) ?_
      refine lv_bipush (v := (-4)) hx hb dX3_oldestUnpinned_22 (by decide) ?_
      refine lv_icmp_eq (tgt := 36) hx hb dX3_oldestUnpinned_24 (by decide) (fun c3 => ?_) (fun c3 => ?_)
      · refine lv_iconst (v := 1) hx hb dX3_oldestUnpinned_36 (by decide) ?_
        refine lv_goto (tgt := 41) hx hb dX3_oldestUnpinned_37 (by decide) ?_
        refine lv_istore (lv' := [(5, .int 1), (4, .ref (a 0 (8 + i))), (3, .int (nI i)), (2, .int ((fO v i).2)), (1, .int ((fO v i).1)), (0, .ref (a 0 0))]) hx hb dX3_oldestUnpinned_41 hl (by decide) rfl (fun ls hl => ?_)
        refine lv_aload hx hb dX3_oldestUnpinned_43 (lv_at hl 1 rfl) ?_
        refine gn_X1_kept X hH (by omega) q_64 dX3_oldestUnpinned_45 ?_
        refine lv_if_eq (tgt := 72) hx hb dX3_oldestUnpinned_48 (by decide) (fun c4 => ?_) (fun c4 => ?_)
        · refine lv_iinc (v := nI (i + 1)) (lv' := [(3, .int (nI (i + 1))), (5, .int 1), (4, .ref (a 0 (8 + i))), (2, .int ((fO v i).2)), (1, .int ((fO v i).1)), (0, .ref (a 0 0))]) hx hb dX3_oldestUnpinned_72 hl (k := 2) rfl (z_inc1 _) (by decide) rfl (fun ls hl => ?_)
          refine lv_goto (tgt := 7) hx hb dX3_oldestUnpinned_75 (by decide) ?_
          refine ih (i + 1) (by omega) _ _ _ ?_ ?_
          · exact hH
          · rw [show ((fO v (i + 1)).2 : Int32) = (fO v i).2 from by simp only [fO, c2, c3, c4, if_true, if_false, or_true, true_or, or_false, false_or, not_true_eq_false, not_false_eq_true], show ((fO v (i + 1)).1 : Int32) = (fO v i).1 from by simp only [fO, c2, c3, c4, if_true, if_false, or_true, true_or, or_false, false_or, not_true_eq_false, not_false_eq_true]]; exact lv_sub hl [0, 3, 4, 5] rfl
        · refine lv_aload hx hb dX3_oldestUnpinned_51 (lv_at hl 1 rfl) ?_
          refine gn_X1_pinned X hH (by omega) q_67 dX3_oldestUnpinned_53 ?_
          refine lv_if_ne (tgt := 72) hx hb dX3_oldestUnpinned_56 (by decide) (fun c5 => ?_) (fun c5 => ?_)
          · refine lv_iinc (v := nI (i + 1)) (lv' := [(3, .int (nI (i + 1))), (5, .int 1), (4, .ref (a 0 (8 + i))), (2, .int ((fO v i).2)), (1, .int ((fO v i).1)), (0, .ref (a 0 0))]) hx hb dX3_oldestUnpinned_72 hl (k := 2) rfl (z_inc1 _) (by decide) rfl (fun ls hl => ?_)
            refine lv_goto (tgt := 7) hx hb dX3_oldestUnpinned_75 (by decide) ?_
            refine ih (i + 1) (by omega) _ _ _ ?_ ?_
            · exact hH
            · rw [show ((fO v (i + 1)).2 : Int32) = (fO v i).2 from by simp only [fO, c2, c3, c4, c5, if_true, if_false, or_true, true_or, or_false, false_or, not_true_eq_false, not_false_eq_true], show ((fO v (i + 1)).1 : Int32) = (fO v i).1 from by simp only [fO, c2, c3, c4, c5, if_true, if_false, or_true, true_or, or_false, false_or, not_true_eq_false, not_false_eq_true]]; exact lv_sub hl [0, 3, 4, 5] rfl
          · refine lv_iload hx hb dX3_oldestUnpinned_59 (lv_at hl 0 rfl) ?_
            refine lv_if_eq (tgt := 72) hx hb dX3_oldestUnpinned_61 (by decide) (fun q => absurd q (by decide)) (fun _ => ?_)
            refine lv_iload_n hx hb dX3_oldestUnpinned_64 rfl (lv_at hl 2 rfl) ?_
            refine lv_istore_n (lv' := [(1, .int (nI i)), (5, .int 1), (4, .ref (a 0 (8 + i))), (3, .int (nI i)), (2, .int ((fO v i).2)), (0, .ref (a 0 0))]) hx hb dX3_oldestUnpinned_65 rfl hl (by decide) rfl (fun ls hl => ?_)
            refine lv_aload hx hb dX3_oldestUnpinned_66 (lv_at hl 2 rfl) ?_
            refine gn_X1_usedAt X hH (by omega) q_93 dX3_oldestUnpinned_68 ?_
            refine lv_istore_n (lv' := [(2, .int (v (13 + 11 * i + 7))), (1, .int (nI i)), (5, .int 1), (4, .ref (a 0 (8 + i))), (3, .int (nI i)), (0, .ref (a 0 0))]) hx hb dX3_oldestUnpinned_71 rfl hl (by decide) rfl (fun ls hl => ?_)
            refine lv_iinc (v := nI (i + 1)) (lv' := [(3, .int (nI (i + 1))), (2, .int (v (13 + 11 * i + 7))), (1, .int (nI i)), (5, .int 1), (4, .ref (a 0 (8 + i))), (0, .ref (a 0 0))]) hx hb dX3_oldestUnpinned_72 hl (k := 4) rfl (z_inc1 _) (by decide) rfl (fun ls hl => ?_)
            refine lv_goto (tgt := 7) hx hb dX3_oldestUnpinned_75 (by decide) ?_
            refine ih (i + 1) (by omega) _ _ _ ?_ ?_
            · exact hH
            · rw [show ((fO v (i + 1)).2 : Int32) = v (13 + 11 * i + 7) from by simp only [fO, c2, c3, c4, c5, if_true, if_false, or_true, true_or, or_false, false_or, not_true_eq_false, not_false_eq_true], show ((fO v (i + 1)).1 : Int32) = nI i from by simp only [fO, c2, c3, c4, c5, if_true, if_false, or_true, true_or, or_false, false_or, not_true_eq_false, not_false_eq_true]]; exact lv_sub hl [0, 1, 2, 5] rfl
      · refine lv_aload hx hb dX3_oldestUnpinned_27 (lv_at hl 0 rfl) ?_
        refine gn_X1_usedAt X hH (by omega) q_93 dX3_oldestUnpinned_29 ?_
        refine lv_iload_n hx hb dX3_oldestUnpinned_32 rfl (lv_at hl 2 rfl) ?_
        refine i_icmp_ge (tgt := 40) hx hb dX3_oldestUnpinned_33 (by decide) (fun c6 => ?_) (fun c6 => ?_)
        · refine lv_iconst (v := 0) hx hb dX3_oldestUnpinned_40 (by decide) ?_
          refine lv_istore (lv' := [(5, .int 0), (4, .ref (a 0 (8 + i))), (3, .int (nI i)), (2, .int ((fO v i).2)), (1, .int ((fO v i).1)), (0, .ref (a 0 0))]) hx hb dX3_oldestUnpinned_41 hl (by decide) rfl (fun ls hl => ?_)
          refine lv_aload hx hb dX3_oldestUnpinned_43 (lv_at hl 1 rfl) ?_
          refine gn_X1_kept X hH (by omega) q_64 dX3_oldestUnpinned_45 ?_
          refine lv_if_eq (tgt := 72) hx hb dX3_oldestUnpinned_48 (by decide) (fun c7 => ?_) (fun c7 => ?_)
          · refine lv_iinc (v := nI (i + 1)) (lv' := [(3, .int (nI (i + 1))), (5, .int 0), (4, .ref (a 0 (8 + i))), (2, .int ((fO v i).2)), (1, .int ((fO v i).1)), (0, .ref (a 0 0))]) hx hb dX3_oldestUnpinned_72 hl (k := 2) rfl (z_inc1 _) (by decide) rfl (fun ls hl => ?_)
            refine lv_goto (tgt := 7) hx hb dX3_oldestUnpinned_75 (by decide) ?_
            refine ih (i + 1) (by omega) _ _ _ ?_ ?_
            · exact hH
            · rw [show ((fO v (i + 1)).2 : Int32) = (fO v i).2 from by simp only [fO, c2, c3, c6, c7, if_true, if_false, or_true, true_or, or_false, false_or, not_true_eq_false, not_false_eq_true], show ((fO v (i + 1)).1 : Int32) = (fO v i).1 from by simp only [fO, c2, c3, c6, c7, if_true, if_false, or_true, true_or, or_false, false_or, not_true_eq_false, not_false_eq_true]]; exact lv_sub hl [0, 3, 4, 5] rfl
          · refine lv_aload hx hb dX3_oldestUnpinned_51 (lv_at hl 1 rfl) ?_
            refine gn_X1_pinned X hH (by omega) q_67 dX3_oldestUnpinned_53 ?_
            refine lv_if_ne (tgt := 72) hx hb dX3_oldestUnpinned_56 (by decide) (fun c8 => ?_) (fun c8 => ?_)
            · refine lv_iinc (v := nI (i + 1)) (lv' := [(3, .int (nI (i + 1))), (5, .int 0), (4, .ref (a 0 (8 + i))), (2, .int ((fO v i).2)), (1, .int ((fO v i).1)), (0, .ref (a 0 0))]) hx hb dX3_oldestUnpinned_72 hl (k := 2) rfl (z_inc1 _) (by decide) rfl (fun ls hl => ?_)
              refine lv_goto (tgt := 7) hx hb dX3_oldestUnpinned_75 (by decide) ?_
              refine ih (i + 1) (by omega) _ _ _ ?_ ?_
              · exact hH
              · rw [show ((fO v (i + 1)).2 : Int32) = (fO v i).2 from by simp only [fO, c2, c3, c6, c7, c8, if_true, if_false, or_true, true_or, or_false, false_or, not_true_eq_false, not_false_eq_true], show ((fO v (i + 1)).1 : Int32) = (fO v i).1 from by simp only [fO, c2, c3, c6, c7, c8, if_true, if_false, or_true, true_or, or_false, false_or, not_true_eq_false, not_false_eq_true]]; exact lv_sub hl [0, 3, 4, 5] rfl
            · refine lv_iload hx hb dX3_oldestUnpinned_59 (lv_at hl 0 rfl) ?_
              refine lv_if_eq (tgt := 72) hx hb dX3_oldestUnpinned_61 (by decide) (fun _ => ?_) (fun q => absurd (by decide) q)
              refine lv_iinc (v := nI (i + 1)) (lv' := [(3, .int (nI (i + 1))), (5, .int 0), (4, .ref (a 0 (8 + i))), (2, .int ((fO v i).2)), (1, .int ((fO v i).1)), (0, .ref (a 0 0))]) hx hb dX3_oldestUnpinned_72 hl (k := 2) rfl (z_inc1 _) (by decide) rfl (fun ls hl => ?_)
              refine lv_goto (tgt := 7) hx hb dX3_oldestUnpinned_75 (by decide) ?_
              refine ih (i + 1) (by omega) _ _ _ ?_ ?_
              · exact hH
              · rw [show ((fO v (i + 1)).2 : Int32) = (fO v i).2 from by simp only [fO, c2, c3, c6, c7, c8, if_true, if_false, or_true, true_or, or_false, false_or, not_true_eq_false, not_false_eq_true], show ((fO v (i + 1)).1 : Int32) = (fO v i).1 from by simp only [fO, c2, c3, c6, c7, c8, if_true, if_false, or_true, true_or, or_false, false_or, not_true_eq_false, not_false_eq_true]]; exact lv_sub hl [0, 3, 4, 5] rfl
        · refine lv_iconst (v := 1) hx hb dX3_oldestUnpinned_36 (by decide) ?_
          refine lv_goto (tgt := 41) hx hb dX3_oldestUnpinned_37 (by decide) ?_
          refine lv_istore (lv' := [(5, .int 1), (4, .ref (a 0 (8 + i))), (3, .int (nI i)), (2, .int ((fO v i).2)), (1, .int ((fO v i).1)), (0, .ref (a 0 0))]) hx hb dX3_oldestUnpinned_41 hl (by decide) rfl (fun ls hl => ?_)
          refine lv_aload hx hb dX3_oldestUnpinned_43 (lv_at hl 1 rfl) ?_
          refine gn_X1_kept X hH (by omega) q_64 dX3_oldestUnpinned_45 ?_
          refine lv_if_eq (tgt := 72) hx hb dX3_oldestUnpinned_48 (by decide) (fun c9 => ?_) (fun c9 => ?_)
          · refine lv_iinc (v := nI (i + 1)) (lv' := [(3, .int (nI (i + 1))), (5, .int 1), (4, .ref (a 0 (8 + i))), (2, .int ((fO v i).2)), (1, .int ((fO v i).1)), (0, .ref (a 0 0))]) hx hb dX3_oldestUnpinned_72 hl (k := 2) rfl (z_inc1 _) (by decide) rfl (fun ls hl => ?_)
            refine lv_goto (tgt := 7) hx hb dX3_oldestUnpinned_75 (by decide) ?_
            refine ih (i + 1) (by omega) _ _ _ ?_ ?_
            · exact hH
            · rw [show ((fO v (i + 1)).2 : Int32) = (fO v i).2 from by simp only [fO, c2, c3, c6, c9, if_true, if_false, or_true, true_or, or_false, false_or, not_true_eq_false, not_false_eq_true], show ((fO v (i + 1)).1 : Int32) = (fO v i).1 from by simp only [fO, c2, c3, c6, c9, if_true, if_false, or_true, true_or, or_false, false_or, not_true_eq_false, not_false_eq_true]]; exact lv_sub hl [0, 3, 4, 5] rfl
          · refine lv_aload hx hb dX3_oldestUnpinned_51 (lv_at hl 1 rfl) ?_
            refine gn_X1_pinned X hH (by omega) q_67 dX3_oldestUnpinned_53 ?_
            refine lv_if_ne (tgt := 72) hx hb dX3_oldestUnpinned_56 (by decide) (fun c10 => ?_) (fun c10 => ?_)
            · refine lv_iinc (v := nI (i + 1)) (lv' := [(3, .int (nI (i + 1))), (5, .int 1), (4, .ref (a 0 (8 + i))), (2, .int ((fO v i).2)), (1, .int ((fO v i).1)), (0, .ref (a 0 0))]) hx hb dX3_oldestUnpinned_72 hl (k := 2) rfl (z_inc1 _) (by decide) rfl (fun ls hl => ?_)
              refine lv_goto (tgt := 7) hx hb dX3_oldestUnpinned_75 (by decide) ?_
              refine ih (i + 1) (by omega) _ _ _ ?_ ?_
              · exact hH
              · rw [show ((fO v (i + 1)).2 : Int32) = (fO v i).2 from by simp only [fO, c2, c3, c6, c9, c10, if_true, if_false, or_true, true_or, or_false, false_or, not_true_eq_false, not_false_eq_true], show ((fO v (i + 1)).1 : Int32) = (fO v i).1 from by simp only [fO, c2, c3, c6, c9, c10, if_true, if_false, or_true, true_or, or_false, false_or, not_true_eq_false, not_false_eq_true]]; exact lv_sub hl [0, 3, 4, 5] rfl
            · refine lv_iload hx hb dX3_oldestUnpinned_59 (lv_at hl 0 rfl) ?_
              refine lv_if_eq (tgt := 72) hx hb dX3_oldestUnpinned_61 (by decide) (fun q => absurd q (by decide)) (fun _ => ?_)
              refine lv_iload_n hx hb dX3_oldestUnpinned_64 rfl (lv_at hl 2 rfl) ?_
              refine lv_istore_n (lv' := [(1, .int (nI i)), (5, .int 1), (4, .ref (a 0 (8 + i))), (3, .int (nI i)), (2, .int ((fO v i).2)), (0, .ref (a 0 0))]) hx hb dX3_oldestUnpinned_65 rfl hl (by decide) rfl (fun ls hl => ?_)
              refine lv_aload hx hb dX3_oldestUnpinned_66 (lv_at hl 2 rfl) ?_
              refine gn_X1_usedAt X hH (by omega) q_93 dX3_oldestUnpinned_68 ?_
              refine lv_istore_n (lv' := [(2, .int (v (13 + 11 * i + 7))), (1, .int (nI i)), (5, .int 1), (4, .ref (a 0 (8 + i))), (3, .int (nI i)), (0, .ref (a 0 0))]) hx hb dX3_oldestUnpinned_71 rfl hl (by decide) rfl (fun ls hl => ?_)
              refine lv_iinc (v := nI (i + 1)) (lv' := [(3, .int (nI (i + 1))), (2, .int (v (13 + 11 * i + 7))), (1, .int (nI i)), (5, .int 1), (4, .ref (a 0 (8 + i))), (0, .ref (a 0 0))]) hx hb dX3_oldestUnpinned_72 hl (k := 4) rfl (z_inc1 _) (by decide) rfl (fun ls hl => ?_)
              refine lv_goto (tgt := 7) hx hb dX3_oldestUnpinned_75 (by decide) ?_
              refine ih (i + 1) (by omega) _ _ _ ?_ ?_
              · exact hH
              · rw [show ((fO v (i + 1)).2 : Int32) = v (13 + 11 * i + 7) from by simp only [fO, c2, c3, c6, c9, c10, if_true, if_false, or_true, true_or, or_false, false_or, not_true_eq_false, not_false_eq_true], show ((fO v (i + 1)).1 : Int32) = nI i from by simp only [fO, c2, c3, c6, c9, c10, if_true, if_false, or_true, true_or, or_false, false_or, not_true_eq_false, not_false_eq_true]]; exact lv_sub hl [0, 1, 2, 5] rfl
  refine Lp7 (12) 0 (by omega) _ _ _ ?_ ?_
  · exact hH
  · rw [show (nI 0 : Int32) = 0 from by rfl, show ((fO v 0).2 : Int32) = 0 from by rfl, show ((fO v 0).1 : Int32) = (-4) from by rfl]; exact lv_sub hl [0, 1, 2, 3] rfl
set_option maxRecDepth 100000 in
set_option maxHeartbeats 4000000 in
theorem c_X3_couldKeep (l : Launch) (D : va_G) (k : Nat → ClassId) (a : Nat → Nat → Nat) (g : Mem) (v : V) (z : Nat) (hz : z < 12) : zI l yX3_couldKeep cX3_couldKeep 2 .boolean 1 22 D k a [.ref (a 0 0), .int (nI z)] (zUp g 0 v) (fun r g' => r = (if fCould v z = true then 1 else 0) ∧ g' = (zUp g 0 v)) := by
  refine zI_of (own := RX3) (by decide +kernel) rfl (Nat.le_of_ble_eq_true rfl) ?_
  intro p e s m args below meth c X Q hret hH ls hl
  obtain ⟨hx, hb, hml, hown, hts⟩ := X.1
  have hl : lv_has ls 2 [(0, .ref (a 0 0)), (1, .int (nI z))] := hl
  have hH : zH D k a s (zUp g 0 v) s.heap [] := hH
  refine lv_aload_n hx hb dX3_couldKeep_0 rfl (lv_at hl 0 rfl) ?_
  refine gf_X3_plans X hH (by omega) q_120 dX3_couldKeep_1 ?_
  refine lv_iload_n hx hb dX3_couldKeep_4 rfl (lv_at hl 1 rfl) ?_
  refine ar_plans X hH (by omega) (z) (by omega) dX3_couldKeep_5 ?_
  refine gn_X1_kept X hH (by omega) q_64 dX3_couldKeep_6 ?_
  refine lv_if_ne (tgt := 25) hx hb dX3_couldKeep_9 (by decide) (fun c1 => ?_) (fun c1 => ?_)
  · refine lv_iconst (v := 1) hx hb dX3_couldKeep_25 (by decide) ?_
    refine lv_goto (tgt := 30) hx hb dX3_couldKeep_26 (by decide) ?_
    exact hret _ _ _ _ _ _ rfl ⟨by simp only [fCould, c1, if_true, if_false, not_true_eq_false, not_false_eq_true, and_self, or_true, true_or, or_false, false_or, and_true, true_and, and_false, false_and, or_self, decide_eq_true_eq, Bool.false_eq_true, z10], rfl⟩ hH dX3_couldKeep_30
  · refine lv_aload_n hx hb dX3_couldKeep_12 rfl (lv_at hl 0 rfl) ?_
    refine z_callVi X hH (c_X3_pinnedPlans l D k a g v) k_X3_160 (rv_X3 X hH (by omega)) [] rfl rfl hl.1 (Nat.le_of_ble_eq_true rfl) ⟨Nat.le_of_ble_eq_true rfl, Nat.le_of_ble_eq_true rfl⟩ ⟨Nat.le_refl _, Nat.le_refl _⟩ dX3_couldKeep_13 (fun r2 g3 H locs h4 hH => ?_)
    rw [h4.2] at hH
    rw [h4.1]
    refine lv_aload_n hx hb dX3_couldKeep_16 rfl (lv_at hl 0 rfl) ?_
    refine gf_X3_settings X hH (by omega) q_122 dX3_couldKeep_17 ?_
    refine lv_iconst (v := 3) hx hb dX3_couldKeep_20 (by decide) ?_
    refine an_sets X hH (3) (by omega) dX3_couldKeep_21 ?_
    refine i_icmp_ge (tgt := 29) hx hb dX3_couldKeep_22 (by decide) (fun c5 => ?_) (fun c5 => ?_)
    · refine lv_iconst (v := 0) hx hb dX3_couldKeep_29 (by decide) ?_
      exact hret _ _ _ _ _ _ rfl ⟨by simp only [fCould, c1, c5, if_true, if_false, not_true_eq_false, not_false_eq_true, and_self, or_true, true_or, or_false, false_or, and_true, true_and, and_false, false_and, or_self, decide_eq_true_eq, Bool.false_eq_true, z10], rfl⟩ hH dX3_couldKeep_30
    · refine lv_iconst (v := 1) hx hb dX3_couldKeep_25 (by decide) ?_
      refine lv_goto (tgt := 30) hx hb dX3_couldKeep_26 (by decide) ?_
      exact hret _ _ _ _ _ _ rfl ⟨by simp only [fCould, c1, c5, if_true, if_false, not_true_eq_false, not_false_eq_true, and_self, or_true, true_or, or_false, false_or, and_true, true_and, and_false, false_and, or_self, decide_eq_true_eq, Bool.false_eq_true, z10], rfl⟩ hH dX3_couldKeep_30
set_option maxRecDepth 100000 in
set_option maxHeartbeats 4000000 in
theorem c_X3_lacksRoomFor (l : Launch) (D : va_G) (k : Nat → ClassId) (a : Nat → Nat → Nat) (g : Mem) (v : V) (z : Nat) (hz : z < 12) : zI l yX3_lacksRoomFor cX3_lacksRoomFor 2 .boolean 1 22 D k a [.ref (a 0 0), .int (nI z)] (zUp g 0 v) (fun r g' => r = (if fLacks v z = true then 1 else 0) ∧ g' = (zUp g 0 v)) := by
  refine zI_of (own := RX3) (by decide +kernel) rfl (Nat.le_of_ble_eq_true rfl) ?_
  intro p e s m args below meth c X Q hret hH ls hl
  obtain ⟨hx, hb, hml, hown, hts⟩ := X.1
  have hl : lv_has ls 2 [(0, .ref (a 0 0)), (1, .int (nI z))] := hl
  have hH : zH D k a s (zUp g 0 v) s.heap [] := hH
  refine lv_aload_n hx hb dX3_lacksRoomFor_0 rfl (lv_at hl 0 rfl) ?_
  refine gf_X3_plans X hH (by omega) q_120 dX3_lacksRoomFor_1 ?_
  refine lv_iload_n hx hb dX3_lacksRoomFor_4 rfl (lv_at hl 1 rfl) ?_
  refine ar_plans X hH (by omega) (z) (by omega) dX3_lacksRoomFor_5 ?_
  refine gn_X1_kept X hH (by omega) q_64 dX3_lacksRoomFor_6 ?_
  refine lv_if_ne (tgt := 29) hx hb dX3_lacksRoomFor_9 (by decide) (fun c1 => ?_) (fun c1 => ?_)
  · refine lv_iconst (v := 0) hx hb dX3_lacksRoomFor_29 (by decide) ?_
    exact hret _ _ _ _ _ _ rfl ⟨by simp only [fLacks, c1, if_true, if_false, not_true_eq_false, not_false_eq_true, and_self, or_true, true_or, or_false, false_or, and_true, true_and, and_false, false_and, or_self, decide_eq_true_eq, Bool.false_eq_true, z10], rfl⟩ hH dX3_lacksRoomFor_30
  · refine lv_aload_n hx hb dX3_lacksRoomFor_12 rfl (lv_at hl 0 rfl) ?_
    refine z_callVi X hH (c_X3_keptPlans l D k a g v) k_X3_164 (rv_X3 X hH (by omega)) [] rfl rfl hl.1 (Nat.le_of_ble_eq_true rfl) ⟨Nat.le_of_ble_eq_true rfl, Nat.le_of_ble_eq_true rfl⟩ ⟨Nat.le_refl _, Nat.le_refl _⟩ dX3_lacksRoomFor_13 (fun r2 g3 H locs h4 hH => ?_)
    rw [h4.2] at hH
    rw [h4.1]
    refine lv_aload_n hx hb dX3_lacksRoomFor_16 rfl (lv_at hl 0 rfl) ?_
    refine gf_X3_settings X hH (by omega) q_122 dX3_lacksRoomFor_17 ?_
    refine lv_iconst (v := 3) hx hb dX3_lacksRoomFor_20 (by decide) ?_
    refine an_sets X hH (3) (by omega) dX3_lacksRoomFor_21 ?_
    refine i_icmp_lt (tgt := 29) hx hb dX3_lacksRoomFor_22 (by decide) (fun c5 => ?_) (fun c5 => ?_)
    · refine lv_iconst (v := 0) hx hb dX3_lacksRoomFor_29 (by decide) ?_
      exact hret _ _ _ _ _ _ rfl ⟨by simp only [fLacks, c1, c5, if_true, if_false, not_true_eq_false, not_false_eq_true, and_self, or_true, true_or, or_false, false_or, and_true, true_and, and_false, false_and, or_self, decide_eq_true_eq, Bool.false_eq_true, z10], rfl⟩ hH dX3_lacksRoomFor_30
    · refine lv_iconst (v := 1) hx hb dX3_lacksRoomFor_25 (by decide) ?_
      refine lv_goto (tgt := 30) hx hb dX3_lacksRoomFor_26 (by decide) ?_
      exact hret _ _ _ _ _ _ rfl ⟨by simp only [fLacks, c1, c5, if_true, if_false, not_true_eq_false, not_false_eq_true, and_self, or_true, true_or, or_false, false_or, and_true, true_and, and_false, false_and, or_self, decide_eq_true_eq, Bool.false_eq_true, z10], rfl⟩ hH dX3_lacksRoomFor_30
set_option maxRecDepth 100000 in
set_option maxHeartbeats 4000000 in
theorem c_X3_firstCrowdedOutBy (l : Launch) (D : va_G) (k : Nat → ClassId) (a : Nat → Nat → Nat) (g : Mem) (v : V) (z : Nat) (hz : z < 12) : zI l yX3_firstCrowdedOutBy cX3_firstCrowdedOutBy 2 .int 2 43 D k a [.ref (a 0 0), .int (nI z)] (zUp g 0 v) (fun r g' => r = (fFirst v z) ∧ g' = (zUp g 0 v)) := by
  refine zI_of (own := RX3) (by decide +kernel) rfl (Nat.le_of_ble_eq_true rfl) ?_
  intro p e s m args below meth c X Q hret hH ls hl
  obtain ⟨hx, hb, hml, hown, hts⟩ := X.1
  have hl : lv_has ls 2 [(0, .ref (a 0 0)), (1, .int (nI z))] := hl
  have hH : zH D k a s (zUp g 0 v) s.heap [] := hH
  refine lv_aload_n hx hb dX3_firstCrowdedOutBy_0 rfl (lv_at hl 0 rfl) ?_
  refine lv_iload_n hx hb dX3_firstCrowdedOutBy_1 rfl (lv_at hl 1 rfl) ?_
  refine z_callVi X hH (c_X3_lacksRoomFor l D k a g v (z) (by omega)) k_X3_167 (rv_X3 X hH (by omega)) [] rfl rfl hl.1 (Nat.le_of_ble_eq_true rfl) ⟨Nat.le_of_ble_eq_true rfl, Nat.le_of_ble_eq_true rfl⟩ ⟨Nat.le_refl _, Nat.le_refl _⟩ dX3_firstCrowdedOutBy_2 (fun r1 g2 H locs h3 hH => ?_)
  rw [h3.2] at hH
  rw [h3.1]
  refine b_ifeq (P := fLacks v z = true) (tgt := 15) hx hb dX3_firstCrowdedOutBy_5 (by decide) (fun c4 => ?_) (fun c4 => ?_)
  · refine lv_bipush (v := (-4)) hx hb dX3_firstCrowdedOutBy_15 (by decide) ?_
    exact hret _ _ _ _ _ _ rfl ⟨by simp only [fFirst, c4, if_true, if_false, not_true_eq_false, not_false_eq_true, and_self, or_true, true_or, or_false, false_or, and_true, true_and, and_false, false_and, or_self, decide_eq_true_eq, Bool.false_eq_true, z10], rfl⟩ hH dX3_firstCrowdedOutBy_17
  · refine lv_aload_n hx hb dX3_firstCrowdedOutBy_8 rfl (lv_at hl 0 rfl) ?_
    refine z_callVi X hH (c_X3_oldestUnpinned l D k a g v) k_X3_170 (rv_X3 X hH (by omega)) [] rfl rfl hl.1 (Nat.le_of_ble_eq_true rfl) ⟨Nat.le_of_ble_eq_true rfl, Nat.le_of_ble_eq_true rfl⟩ ⟨Nat.le_refl _, Nat.le_refl _⟩ dX3_firstCrowdedOutBy_9 (fun r5 g6 H locs h7 hH => ?_)
    rw [h7.2] at hH
    rw [h7.1]
    refine lv_goto (tgt := 17) hx hb dX3_firstCrowdedOutBy_12 (by decide) ?_
    exact hret _ _ _ _ _ _ rfl ⟨by simp only [fFirst, c4, if_true, if_false, not_true_eq_false, not_false_eq_true, and_self, or_true, true_or, or_false, false_or, and_true, true_and, and_false, false_and, or_self, decide_eq_true_eq, Bool.false_eq_true, z10], rfl⟩ hH dX3_firstCrowdedOutBy_17
