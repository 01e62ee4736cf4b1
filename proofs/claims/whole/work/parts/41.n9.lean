set_option maxRecDepth 100000 in
set_option maxHeartbeats 4000000 in
theorem c_X6_type (l : Launch) (D : va_G) (k : Nat → ClassId) (a : Nat → Nat → Nat) (g : Mem) (L : Nat) (hL : L ≤ 80) (eL : g 18 2 = nI L) (ch : Int32) (hch : vp_nar .char ch = ch) : zI l yX6_type cX6_type 2 .int 0 0 D k a [.ref (a 6 8), .int (ch)] (g) (fun r g' => r = (if g 18 2 < 80 then g 18 2 + 1 else -3) ∧ g' = (if g 18 2 < 80 then zUp (zUp g 19 (upd (g 19) (iN (g 18 2)) ch)) 18 (upd (g 18) 2 (g 18 2 + 1)) else g)) := by
  refine zI_of (own := RX6) (by decide +kernel) rfl (Nat.le_of_ble_eq_true rfl) ?_
  intro p e s m args below meth c X Q hret hH ls hl
  obtain ⟨hx, hb, hml, hown, hts⟩ := X.1
  have hl : lv_has ls 2 [(0, .ref (a 6 8)), (1, .int (ch))] := hl
  have hH : zH D k a s (g) s.heap [] := hH
  refine lv_aload_n hx hb dX6_type_0 rfl (lv_at hl 0 rfl) ?_
  refine gf_X6_typed X hH q_580 dX6_type_1 ?_
  rw [eL]
  refine lv_bipush (v := 80) hx hb dX6_type_4 (by decide) ?_
  refine n_icmp_ne (A := L) (B := 80) (tgt := 12) hx hb (by omega) (by omega) dX6_type_6 (by decide) (fun c1 => ?_) (fun c1 => ?_)
  · have hL2 :  g 18 2 < 80 := by rw [eL]; exact (nI_ltI (a := L) (b := 80) (by omega) (by omega)).mpr (by omega)
    refine lv_aload_n hx hb dX6_type_12 rfl (lv_at hl 0 rfl) ?_
    refine gf_X6_text X hH q_579 dX6_type_13 ?_
    refine lv_aload_n hx hb dX6_type_16 rfl (lv_at hl 0 rfl) ?_
    refine gf_X6_typed X hH q_580 dX6_type_17 ?_
    rw [eL]
    refine lv_iload_n hx hb dX6_type_20 rfl (lv_at hl 1 rfl) ?_
    refine as_text X hH (L) (by omega) hch dX6_type_21 (fun H locs hH => ?_)
    refine lv_aload_n hx hb dX6_type_22 rfl (lv_at hl 0 rfl) ?_
    refine lv_dup hx hb dX6_type_23 rfl ?_
    refine gf_X6_typed X hH q_580 dX6_type_24 ?_
    rw [show (zUp g 19 (upd (g 19) L ch)) 18 2 = (g 18) 2 from (congrFun (zUp_n _ _ (by omega)) 2)]
    rw [eL]
    refine lv_iconst (v := 1) hx hb dX6_type_27 (by decide) ?_
    refine n_iadd (A := L) (B := 1) hx hb (L + 1) (by omega) dX6_type_28 ?_
    refine pf_X6_typed X hH q_580 dX6_type_29 (fun H locs hH => ?_)
    rw [show zUp (zUp g 19 (upd (g 19) L ch)) 18 (upd ((zUp g 19 (upd (g 19) L ch)) 18) 2 (nI (L + 1))) = zUp (zUp g 19 (upd (g 19) L ch)) 18 (upd (g 18) 2 (nI (L + 1))) from by rw [show (zUp g 19 (upd (g 19) L ch)) 18 = g 18 from (zUp_n _ _ (by omega))]] at hH
    refine lv_aload_n hx hb dX6_type_32 rfl (lv_at hl 0 rfl) ?_
    refine gf_X6_typed X hH q_580 dX6_type_33 ?_
    rw [show (zUp (zUp g 19 (upd (g 19) L ch)) 18 (upd (g 18) 2 (nI (L + 1)))) 18 2 = nI (L + 1) from ((congrFun (zUp_s _ _ _) 2).trans (zu_s _ _ _))]
    exact hret _ _ _ _ _ _ rfl ⟨by rw [if_pos hL2, eL, nI_1], by rw [if_pos hL2, eL, iNn (by omega), nI_1]⟩ hH dX6_type_36
  · have hL2 : ¬ g 18 2 < 80 := by rw [eL]; exact fun q => absurd ((nI_ltI (a := L) (b := 80) (by omega) (by omega)).mp q) (by omega)
    refine lv_bipush (v := (-3)) hx hb dX6_type_9 (by decide) ?_
    exact hret _ _ _ _ _ _ rfl ⟨by rw [if_neg hL2], by rw [if_neg hL2]⟩ hH dX6_type_11
set_option maxRecDepth 100000 in
set_option maxHeartbeats 4000000 in
theorem c_X6_clearText (l : Launch) (D : va_G) (k : Nat → ClassId) (a : Nat → Nat → Nat) (g : Mem) : zI l yX6_clearText cX6_clearText 2 .int 0 0 D k a [.ref (a 6 8)] (g) (fun r g' => r = (g 18 2) ∧ g' = (zUp g 18 (upd (g 18) 2 0))) := by
  refine zI_of (own := RX6) (by decide +kernel) rfl (Nat.le_of_ble_eq_true rfl) ?_
  intro p e s m args below meth c X Q hret hH ls hl
  obtain ⟨hx, hb, hml, hown, hts⟩ := X.1
  have hl : lv_has ls 2 [(0, .ref (a 6 8))] := hl
  have hH : zH D k a s (g) s.heap [] := hH
  refine lv_aload_n hx hb dX6_clearText_0 rfl (lv_at hl 0 rfl) ?_
  refine gf_X6_typed X hH q_580 dX6_clearText_1 ?_
  refine lv_istore_n (lv' := [(1, .int ((g 18) 2)), (0, .ref (a 6 8))]) hx hb dX6_clearText_4 rfl hl (by decide) rfl (fun ls hl => ?_)
  refine lv_aload_n hx hb dX6_clearText_5 rfl (lv_at hl 1 rfl) ?_
  refine lv_iconst (v := 0) hx hb dX6_clearText_6 (by decide) ?_
  refine pf_X6_typed X hH q_580 dX6_clearText_7 (fun H locs hH => ?_)
  refine lv_iload_n hx hb dX6_clearText_10 rfl (lv_at hl 0 rfl) ?_
  exact hret _ _ _ _ _ _ rfl ⟨rfl, rfl⟩ hH dX6_clearText_11
set_option maxRecDepth 100000 in
set_option maxHeartbeats 4000000 in
theorem c_X6_undo (l : Launch) (D : va_G) (k : Nat → ClassId) (a : Nat → Nat → Nat) (g : Mem) (v u : V) (n : Nat) (hn : n ≤ 4) (eu : u 0 = nI n) (hJ : zJk g) (hv : ∀ j, 160 ≤ j → v j = 0) : zI l yX6_undo cX6_undo 1 .int 1 23 D k a [.ref (a 6 8)] (zM g 0 v u) (fun r g' => r = (if n = 0 then -4 else nI (n - 1)) ∧ g' = (if n = 0 then zM g 0 v u else zM g 0 (g (10 + n)) (upd u 0 (nI (n - 1))))) := by
  refine zI_of (own := RX6) (by decide +kernel) rfl (Nat.le_of_ble_eq_true rfl) ?_
  intro p e s m args below meth c X Q hret hH ls hl
  obtain ⟨hx, hb, hml, hown, hts⟩ := X.1
  have hl : lv_has ls 1 [(0, .ref (a 6 8))] := hl
  have hH : zH D k a s (zM g 0 v u) s.heap [] := hH
  refine lv_aload_n hx hb dX6_undo_0 rfl (lv_at hl 0 rfl) ?_
  refine gm_X6_states X hH q_577 dX6_undo_1 ?_
  rw [eu]
  refine n_if_ne (A := n) (tgt := 10) hx hb (by omega) dX6_undo_4 (by decide) (fun c1 => ?_) (fun c1 => ?_)
  · refine lv_aload_n hx hb dX6_undo_10 rfl (lv_at hl 0 rfl) ?_
    refine lv_aload_n hx hb dX6_undo_11 rfl (lv_at hl 0 rfl) ?_
    refine gm_X6_states X hH q_577 dX6_undo_12 ?_
    rw [eu]
    refine lv_iconst (v := 0) hx hb dX6_undo_15 (by decide) ?_
    refine z_callVv X hH (c_X6_copies l D k a g (n) 0 (by omega) (by omega) (by omega) v u (fun j hj => (hv j hj).trans (hJ (n) (by omega) j hj).symm)) k_X6_25 (rv_X6 X hH) [] rfl rfl hl.1 (Nat.le_of_ble_eq_true rfl) ⟨Nat.le_of_ble_eq_true rfl, Nat.le_of_ble_eq_true rfl⟩ ⟨Nat.le_refl _, Nat.le_refl _⟩ dX6_undo_16 (fun g2 H locs h3 hH => ?_)
    rw [h3] at hH
    refine lv_aload_n hx hb dX6_undo_19 rfl (lv_at hl 0 rfl) ?_
    refine lv_dup hx hb dX6_undo_20 rfl ?_
    refine gm_X6_states X hH q_577 dX6_undo_21 ?_
    rw [eu]
    refine lv_iconst (v := 1) hx hb dX6_undo_24 (by decide) ?_
    refine n_isub (A := n) (B := 1) hx hb (n - 1) (by omega) dX6_undo_25 ?_
    refine pm_X6_states X hH q_577 dX6_undo_26 (fun H locs hH => ?_)
    refine lv_aload_n hx hb dX6_undo_29 rfl (lv_at hl 0 rfl) ?_
    refine gm_X6_states X hH q_577 dX6_undo_30 ?_
    rw [show (upd u 0 (nI (n - 1))) 0 = nI (n - 1) from (zu_s _ _ _)]
    exact hret _ _ _ _ _ _ rfl ⟨by rw [if_neg c1], by rw [if_neg c1]⟩ hH dX6_undo_33
  · refine lv_bipush (v := (-4)) hx hb dX6_undo_7 (by decide) ?_
    exact hret _ _ _ _ _ _ rfl ⟨by rw [if_pos c1], by rw [if_pos c1]⟩ hH dX6_undo_9
set_option maxRecDepth 100000 in
set_option maxHeartbeats 4000000 in
theorem c_X6_keep (l : Launch) (D : va_G) (k : Nat → ClassId) (a : Nat → Nat → Nat) (g : Mem) (v u : V) (n : Nat) (hn : n ≤ 4) (eu : u 0 = nI n) (hJ : zJk g) (hv : ∀ j, 160 ≤ j → v j = 0) (hf : zFl v) : zI l yX6_keep cX6_keep 1 .int 2 44 D k a [.ref (a 6 8)] (zM g 0 v u) (fun r g' => r = (fK v 12) ∧ g' = (zM (zUp g (10 + 5) v) 0 v (upd u 1 1))) := by
  refine zI_of (own := RX6) (by decide +kernel) rfl (Nat.le_of_ble_eq_true rfl) ?_
  intro p e s m args below meth c X Q hret hH ls hl
  obtain ⟨hx, hb, hml, hown, hts⟩ := X.1
  have hl : lv_has ls 1 [(0, .ref (a 6 8))] := hl
  have hH : zH D k a s (zM g 0 v u) s.heap [] := hH
  refine lv_aload_n hx hb dX6_keep_0 rfl (lv_at hl 0 rfl) ?_
  refine lv_iconst (v := 0) hx hb dX6_keep_1 (by decide) ?_
  refine lv_iconst (v := 5) hx hb dX6_keep_2 (by decide) ?_
  refine z_callVv X (by rw [zM_in _ _ _ (by omega) (by omega)]; exact hH) (c_X6_copies l D k a (zUp g (10 + 0) v) (0) (5) (by omega) (by omega) (by omega) (g (10 + 5)) u (fun j hj => (hJ (5) (by omega) j hj).trans (((congrFun (zUp_s _ _ _) j).trans (hv j hj)).symm))) k_X6_25 (rv_X6 X hH) [] rfl rfl hl.1 (Nat.le_of_ble_eq_true rfl) ⟨Nat.le_of_ble_eq_true rfl, Nat.le_of_ble_eq_true rfl⟩ ⟨Nat.le_refl _, Nat.le_refl _⟩ dX6_keep_3 (fun g1 H locs h2 hH => ?_)
  rw [h2, show (zUp g (10 + 0) v) (10 + 0) = v from (zUp_s _ _ _), zM_out _ _ _ _ (by omega) (by omega)] at hH
  refine lv_aload_n hx hb dX6_keep_6 rfl (lv_at hl 0 rfl) ?_
  refine lv_iconst (v := 1) hx hb dX6_keep_7 (by decide) ?_
  refine pm_X6_isKept X hH (Or.inr rfl) q_578 dX6_keep_8 (fun H locs hH => ?_)
  refine lv_aload_n hx hb dX6_keep_11 rfl (lv_at hl 0 rfl) ?_
  refine lv_iconst (v := 0) hx hb dX6_keep_12 (by decide) ?_
  refine z_callVi X hH (c_X6_kept l D k a (zUp g (10 + 5) v) 0 (by omega) v (upd u 1 1) hf) k_X6_58 (rv_X6 X hH) [] rfl rfl hl.1 (Nat.le_of_ble_eq_true rfl) ⟨Nat.le_of_ble_eq_true rfl, Nat.le_of_ble_eq_true rfl⟩ ⟨Nat.le_refl _, Nat.le_refl _⟩ dX6_keep_13 (fun r3 g4 H locs h5 hH => ?_)
  rw [h5.2] at hH
  rw [h5.1]
  exact hret _ _ _ _ _ _ rfl ⟨rfl, rfl⟩ hH dX6_keep_16
set_option maxRecDepth 100000 in
set_option maxHeartbeats 4000000 in
theorem c_X6_restore (l : Launch) (D : va_G) (k : Nat → ClassId) (a : Nat → Nat → Nat) (g : Mem) (v u : V) (n : Nat) (hn : n ≤ 4) (eu : u 0 = nI n) (hJ : zJk g) (hv : ∀ j, 160 ≤ j → v j = 0) (hf5 : zFl (g (10 + 5))) : zI l yX6_restore cX6_restore 1 .int 2 44 D k a [.ref (a 6 8)] (zM g 0 v u) (fun r g' => r = (if u 1 = 0 then -4 else fK (g (10 + 5)) 12) ∧ zPo g v u n (if u 1 = 0 then none else some (g (10 + 5))) g') := by
  refine zI_of (own := RX6) (by decide +kernel) rfl (Nat.le_of_ble_eq_true rfl) ?_
  intro p e s m args below meth c X Q hret hH ls hl
  obtain ⟨hx, hb, hml, hown, hts⟩ := X.1
  have hl : lv_has ls 1 [(0, .ref (a 6 8))] := hl
  have hH : zH D k a s (zM g 0 v u) s.heap [] := hH
  refine lv_aload_n hx hb dX6_restore_0 rfl (lv_at hl 0 rfl) ?_
  refine gm_X6_isKept X hH q_578 dX6_restore_1 ?_
  refine lv_if_ne (tgt := 10) hx hb dX6_restore_4 (by decide) (fun c1 => ?_) (fun c1 => ?_)
  · refine lv_aload_n hx hb dX6_restore_10 rfl (lv_at hl 0 rfl) ?_
    refine z_callVv X hH (c_X6_records l D k a g v u n hn eu hJ hv) k_X6_86 (rv_X6 X hH) [] rfl rfl hl.1 (Nat.le_of_ble_eq_true rfl) ⟨Nat.le_of_ble_eq_true rfl, Nat.le_of_ble_eq_true rfl⟩ ⟨Nat.le_refl _, Nat.le_refl _⟩ dX6_restore_11 (fun g2 H locs h3 hH => ?_)
    rw [h3] at hH
    refine lv_aload_n hx hb dX6_restore_14 rfl (lv_at hl 0 rfl) ?_
    refine lv_iconst (v := 5) hx hb dX6_restore_15 (by decide) ?_
    refine lv_iconst (v := 0) hx hb dX6_restore_16 (by decide) ?_
    refine z_callVv X hH (c_X6_copies l D k a (mRecG g v n) (5) 0 (by omega) (by omega) (by omega) v (mRecU u n) (fun j hj => (hv j hj).trans ((zJk_rec hn hJ hv) (5) (by omega) j hj).symm)) k_X6_25 (rv_X6 X hH) [] rfl rfl hl.1 (Nat.le_of_ble_eq_true rfl) ⟨Nat.le_of_ble_eq_true rfl, Nat.le_of_ble_eq_true rfl⟩ ⟨Nat.le_refl _, Nat.le_refl _⟩ dX6_restore_17 (fun g4 H locs h5 hH => ?_)
    rw [h5] at hH
    rw [show (mRecG g v n) (10 + 5) = g (10 + 5) from mRecG_o hn (by omega)] at hH
    refine lv_aload_n hx hb dX6_restore_20 rfl (lv_at hl 0 rfl) ?_
    refine lv_iconst (v := 0) hx hb dX6_restore_21 (by decide) ?_
    refine z_callVi X hH (c_X6_kept l D k a (mRecG g v n) 0 (by omega) (g (10 + 5)) (mRecU u n) hf5) k_X6_58 (rv_X6 X hH) [] rfl rfl hl.1 (Nat.le_of_ble_eq_true rfl) ⟨Nat.le_of_ble_eq_true rfl, Nat.le_of_ble_eq_true rfl⟩ ⟨Nat.le_refl _, Nat.le_refl _⟩ dX6_restore_22 (fun r6 g7 H locs h8 hH => ?_)
    rw [h8.2] at hH
    rw [h8.1]
    exact hret _ _ _ _ _ _ rfl ⟨by rw [if_neg c1], by rw [if_neg c1]; exact zPo_s hn hJ (fun j hj => rfl)⟩ hH dX6_restore_25
  · refine lv_bipush (v := (-4)) hx hb dX6_restore_7 (by decide) ?_
    exact hret _ _ _ _ _ _ rfl ⟨by rw [if_pos c1], by rw [if_pos c1]; exact zPo_n hJ⟩ hH dX6_restore_9
set_option maxRecDepth 100000 in
set_option maxHeartbeats 4000000 in
theorem c_X6_cost (l : Launch) (D : va_G) (k : Nat → ClassId) (a : Nat → Nat → Nat) (g : Mem) (v u : V) (hk : zKy v) (sh wa nu : Int32) : zI l yX6_cost cX6_cost 4 .int 2 51 D k a [.ref (a 6 8), .int (sh), .int (wa), .int (nu)] (zM g 0 v u) (fun r g' => r = (kCost v sh wa nu) ∧ g' = (zM g 0 v u)) := by
  refine zI_of (own := RX6) (by decide +kernel) rfl (Nat.le_of_ble_eq_true rfl) ?_
  intro p e s m args below meth c X Q hret hH ls hl
  obtain ⟨hx, hb, hml, hown, hts⟩ := X.1
  have hl : lv_has ls 4 [(0, .ref (a 6 8)), (1, .int (sh)), (2, .int (wa)), (3, .int (nu))] := hl
  have hH : zH D k a s (zM g 0 v u) s.heap [] := hH
  refine lv_iload_n hx hb dX6_cost_0 rfl (lv_at hl 1 rfl) ?_
  refine z_callSi X hH (c_X6_isShape l D k a (zM g 0 v u) sh) k_X6_89 [] rfl rfl hl.1 (Nat.le_of_ble_eq_true rfl) ⟨Nat.le_of_ble_eq_true rfl, Nat.le_of_ble_eq_true rfl⟩ ⟨Nat.le_refl _, Nat.le_refl _⟩ dX6_cost_1 (fun r1 g2 H locs h3 hH => ?_)
  rw [h3.2] at hH
  rw [h3.1]
  refine b_ifne (P := okS sh) (tgt := 9) hx hb dX6_cost_4 (by decide) (fun c4 => ?_) (fun c4 => ?_)
  · obtain ⟨z, hz, rfl⟩ := zIx (B := 12) (b := 12) rfl (by decide) c4
    have hz1 : iN (nI z) = z := iNn (by omega)
    refine lv_iload_n hx hb dX6_cost_9 rfl (lv_at hl 2 rfl) ?_
    refine lv_iconst (v := 0) hx hb dX6_cost_10 (by decide) ?_
    refine lv_iconst (v := 2) hx hb dX6_cost_11 (by decide) ?_
    refine z_callSi X hH (c_X6_in l D k a (zM g 0 v u) wa 0 2) k_X6_17 [] rfl rfl hl.1 (Nat.le_of_ble_eq_true rfl) ⟨Nat.le_of_ble_eq_true rfl, Nat.le_of_ble_eq_true rfl⟩ ⟨Nat.le_refl _, Nat.le_refl _⟩ dX6_cost_12 (fun r5 g6 H locs h7 hH => ?_)
    rw [h7.2] at hH
    rw [h7.1]
    refine b_ifeq (P := ¬ wa < 0 ∧ ¬ 2 < wa) (tgt := 37) hx hb dX6_cost_15 (by decide) (fun c8 => ?_) (fun c8 => ?_)
    · refine lv_bipush (v := (-2)) hx hb dX6_cost_37 (by decide) ?_
      exact hret _ _ _ _ _ _ rfl ⟨by simp only [kCost, ← z_4, ← z_3, ← z_5, z_if2, z_if3, c4, hz1, c8, okS, okT, okW, okN, hasP, zAct, if_true, if_false, not_true_eq_false, not_false_eq_true, and_self, or_true, true_or, or_false, false_or, and_true, true_and, and_false, false_and, or_self, Bool.false_eq_true, z10], rfl⟩ hH dX6_cost_39
    · refine lv_iload_n hx hb dX6_cost_18 rfl (lv_at hl 1 rfl) ?_
      refine lv_iload_n hx hb dX6_cost_19 rfl (lv_at hl 3 rfl) ?_
      refine z_callSi X hH (c_X6_isNumber l D k a (zM g 0 v u) (z) (by omega) nu) k_X6_93 [] rfl rfl hl.1 (Nat.le_of_ble_eq_true rfl) ⟨Nat.le_of_ble_eq_true rfl, Nat.le_of_ble_eq_true rfl⟩ ⟨Nat.le_refl _, Nat.le_refl _⟩ dX6_cost_20 (fun r9 g10 H locs h11 hH => ?_)
      rw [h11.2] at hH
      rw [h11.1]
      refine b_ifeq (P := okN z nu) (tgt := 37) hx hb dX6_cost_23 (by decide) (fun c12 => ?_) (fun c12 => ?_)
      · refine lv_bipush (v := (-2)) hx hb dX6_cost_37 (by decide) ?_
        exact hret _ _ _ _ _ _ rfl ⟨by simp only [kCost, ← z_4, ← z_3, ← z_5, z_if2, z_if3, c4, hz1, c8, c12, okS, okT, okW, okN, hasP, zAct, if_true, if_false, not_true_eq_false, not_false_eq_true, and_self, or_true, true_or, or_false, false_or, and_true, true_and, and_false, false_and, or_self, Bool.false_eq_true, z10], rfl⟩ hH dX6_cost_39
      · refine lv_aload_n hx hb dX6_cost_26 rfl (lv_at hl 0 rfl) ?_
        refine lv_iconst (v := 0) hx hb dX6_cost_27 (by decide) ?_
        refine lv_iload_n hx hb dX6_cost_28 rfl (lv_at hl 1 rfl) ?_
        refine lv_iload_n hx hb dX6_cost_29 rfl (lv_at hl 2 rfl) ?_
        refine lv_iload_n hx hb dX6_cost_30 rfl (lv_at hl 3 rfl) ?_
        refine z_callVi X hH (c_X6_costs l D k a g 0 (by omega) v u hk (z) (by omega) wa nu) k_X6_34 (rv_X6 X hH) [] rfl rfl hl.1 (Nat.le_of_ble_eq_true rfl) ⟨Nat.le_of_ble_eq_true rfl, Nat.le_of_ble_eq_true rfl⟩ ⟨Nat.le_refl _, Nat.le_refl _⟩ dX6_cost_31 (fun r13 g14 H locs h15 hH => ?_)
        rw [h15.2] at hH
        rw [h15.1]
        refine lv_goto (tgt := 39) hx hb dX6_cost_34 (by decide) ?_
        exact hret _ _ _ _ _ _ rfl ⟨by simp only [kCost, ← z_4, ← z_3, ← z_5, z_if2, z_if3, c4, hz1, c8, c12, okS, okT, okW, okN, hasP, zAct, if_true, if_false, not_true_eq_false, not_false_eq_true, and_self, or_true, true_or, or_false, false_or, and_true, true_and, and_false, false_and, or_self, Bool.false_eq_true, z10], rfl⟩ hH dX6_cost_39
  · refine lv_iconst (v := (-1)) hx hb dX6_cost_7 (by decide) ?_
    exact hret _ _ _ _ _ _ rfl ⟨by simp only [kCost, ← z_4, ← z_3, ← z_5, z_if2, z_if3, c4, okS, okT, okW, okN, hasP, zAct, if_true, if_false, not_true_eq_false, not_false_eq_true, and_self, or_true, true_or, or_false, false_or, and_true, true_and, and_false, false_and, or_self, Bool.false_eq_true, z10], rfl⟩ hH dX6_cost_8
set_option maxRecDepth 100000 in
set_option maxHeartbeats 4000000 in
theorem c_X6_cheapest (l : Launch) (D : va_G) (k : Nat → ClassId) (a : Nat → Nat → Nat) (g : Mem) (v u : V) (hk : zKy v) (sh nu : Int32) : zI l yX6_cheapest cX6_cheapest 3 .int 3 76 D k a [.ref (a 6 8), .int (sh), .int (nu)] (zM g 0 v u) (fun r g' => r = (kCheap v sh nu) ∧ g' = (zM g 0 v u)) := by
  refine zI_of (own := RX6) (by decide +kernel) rfl (Nat.le_of_ble_eq_true rfl) ?_
  intro p e s m args below meth c X Q hret hH ls hl
  obtain ⟨hx, hb, hml, hown, hts⟩ := X.1
  have hl : lv_has ls 3 [(0, .ref (a 6 8)), (1, .int (sh)), (2, .int (nu))] := hl
  have hH : zH D k a s (zM g 0 v u) s.heap [] := hH
  refine lv_iload_n hx hb dX6_cheapest_0 rfl (lv_at hl 1 rfl) ?_
  refine z_callSi X hH (c_X6_isShape l D k a (zM g 0 v u) sh) k_X6_89 [] rfl rfl hl.1 (Nat.le_of_ble_eq_true rfl) ⟨Nat.le_of_ble_eq_true rfl, Nat.le_of_ble_eq_true rfl⟩ ⟨Nat.le_refl _, Nat.le_refl _⟩ dX6_cheapest_1 (fun r1 g2 H locs h3 hH => ?_)
  rw [h3.2] at hH
  rw [h3.1]
  refine b_ifne (P := okS sh) (tgt := 9) hx hb dX6_cheapest_4 (by decide) (fun c4 => ?_) (fun c4 => ?_)
  · obtain ⟨z, hz, rfl⟩ := zIx (B := 12) (b := 12) rfl (by decide) c4
    have hz1 : iN (nI z) = z := iNn (by omega)
    refine lv_iload_n hx hb dX6_cheapest_9 rfl (lv_at hl 1 rfl) ?_
    refine lv_iload_n hx hb dX6_cheapest_10 rfl (lv_at hl 2 rfl) ?_
    refine z_callSi X hH (c_X6_isNumber l D k a (zM g 0 v u) (z) (by omega) nu) k_X6_93 [] rfl rfl hl.1 (Nat.le_of_ble_eq_true rfl) ⟨Nat.le_of_ble_eq_true rfl, Nat.le_of_ble_eq_true rfl⟩ ⟨Nat.le_refl _, Nat.le_refl _⟩ dX6_cheapest_11 (fun r5 g6 H locs h7 hH => ?_)
    rw [h7.2] at hH
    rw [h7.1]
    refine b_ifeq (P := okN z nu) (tgt := 27) hx hb dX6_cheapest_14 (by decide) (fun c8 => ?_) (fun c8 => ?_)
    · refine lv_bipush (v := (-2)) hx hb dX6_cheapest_27 (by decide) ?_
      exact hret _ _ _ _ _ _ rfl ⟨by simp only [kCheap, ← z_4, ← z_3, ← z_5, z_if2, z_if3, c4, hz1, c8, okS, okT, okW, okN, hasP, zAct, if_true, if_false, not_true_eq_false, not_false_eq_true, and_self, or_true, true_or, or_false, false_or, and_true, true_and, and_false, false_and, or_self, Bool.false_eq_true, z10], rfl⟩ hH dX6_cheapest_29
    · refine lv_aload_n hx hb dX6_cheapest_17 rfl (lv_at hl 0 rfl) ?_
      refine lv_iconst (v := 0) hx hb dX6_cheapest_18 (by decide) ?_
      refine lv_iload_n hx hb dX6_cheapest_19 rfl (lv_at hl 1 rfl) ?_
      refine lv_iload_n hx hb dX6_cheapest_20 rfl (lv_at hl 2 rfl) ?_
      refine z_callVi X hH (c_X6_cheapestOf l D k a g 0 (by omega) v u hk (z) (by omega) nu) k_X6_69 (rv_X6 X hH) [] rfl rfl hl.1 (Nat.le_of_ble_eq_true rfl) ⟨Nat.le_of_ble_eq_true rfl, Nat.le_of_ble_eq_true rfl⟩ ⟨Nat.le_refl _, Nat.le_refl _⟩ dX6_cheapest_21 (fun r9 g10 H locs h11 hH => ?_)
      rw [h11.2] at hH
      rw [h11.1]
      refine lv_goto (tgt := 29) hx hb dX6_cheapest_24 (by decide) ?_
      exact hret _ _ _ _ _ _ rfl ⟨by simp only [kCheap, ← z_4, ← z_3, ← z_5, z_if2, z_if3, c4, hz1, c8, okS, okT, okW, okN, hasP, zAct, if_true, if_false, not_true_eq_false, not_false_eq_true, and_self, or_true, true_or, or_false, false_or, and_true, true_and, and_false, false_and, or_self, Bool.false_eq_true, z10], rfl⟩ hH dX6_cheapest_29
  · refine lv_iconst (v := (-1)) hx hb dX6_cheapest_7 (by decide) ?_
    exact hret _ _ _ _ _ _ rfl ⟨by simp only [kCheap, ← z_4, ← z_3, ← z_5, z_if2, z_if3, c4, okS, okT, okW, okN, hasP, zAct, if_true, if_false, not_true_eq_false, not_false_eq_true, and_self, or_true, true_or, or_false, false_or, and_true, true_and, and_false, false_and, or_self, Bool.false_eq_true, z10], rfl⟩ hH dX6_cheapest_8
set_option maxRecDepth 100000 in
set_option maxHeartbeats 4000000 in
theorem c_X6_reason (l : Launch) (D : va_G) (k : Nat → ClassId) (a : Nat → Nat → Nat) (g : Mem) (v u : V) (sh nu : Int32) : zI l yX6_reason cX6_reason 3 .int 4 89 D k a [.ref (a 6 8), .int (sh), .int (nu)] (zM g 0 v u) (fun r g' => r = (kReason v sh nu) ∧ g' = (zM g 0 v u)) := by
  refine zI_of (own := RX6) (by decide +kernel) rfl (Nat.le_of_ble_eq_true rfl) ?_
  intro p e s m args below meth c X Q hret hH ls hl
  obtain ⟨hx, hb, hml, hown, hts⟩ := X.1
  have hl : lv_has ls 3 [(0, .ref (a 6 8)), (1, .int (sh)), (2, .int (nu))] := hl
  have hH : zH D k a s (zM g 0 v u) s.heap [] := hH
  refine lv_iload_n hx hb dX6_reason_0 rfl (lv_at hl 1 rfl) ?_
  refine z_callSi X hH (c_X6_isShape l D k a (zM g 0 v u) sh) k_X6_89 [] rfl rfl hl.1 (Nat.le_of_ble_eq_true rfl) ⟨Nat.le_of_ble_eq_true rfl, Nat.le_of_ble_eq_true rfl⟩ ⟨Nat.le_refl _, Nat.le_refl _⟩ dX6_reason_1 (fun r1 g2 H locs h3 hH => ?_)
  rw [h3.2] at hH
  rw [h3.1]
  refine b_ifne (P := okS sh) (tgt := 9) hx hb dX6_reason_4 (by decide) (fun c4 => ?_) (fun c4 => ?_)
  · obtain ⟨z, hz, rfl⟩ := zIx (B := 12) (b := 12) rfl (by decide) c4
    have hz1 : iN (nI z) = z := iNn (by omega)
    refine lv_iload_n hx hb dX6_reason_9 rfl (lv_at hl 1 rfl) ?_
    refine lv_iload_n hx hb dX6_reason_10 rfl (lv_at hl 2 rfl) ?_
    refine z_callSi X hH (c_X6_isNumber l D k a (zM g 0 v u) (z) (by omega) nu) k_X6_93 [] rfl rfl hl.1 (Nat.le_of_ble_eq_true rfl) ⟨Nat.le_of_ble_eq_true rfl, Nat.le_of_ble_eq_true rfl⟩ ⟨Nat.le_refl _, Nat.le_refl _⟩ dX6_reason_11 (fun r5 g6 H locs h7 hH => ?_)
    rw [h7.2] at hH
    rw [h7.1]
    refine b_ifeq (P := okN z nu) (tgt := 27) hx hb dX6_reason_14 (by decide) (fun c8 => ?_) (fun c8 => ?_)
    · refine lv_bipush (v := (-2)) hx hb dX6_reason_27 (by decide) ?_
      exact hret _ _ _ _ _ _ rfl ⟨by simp only [kReason, ← z_4, ← z_3, ← z_5, z_if2, z_if3, c4, hz1, c8, okS, okT, okW, okN, hasP, zAct, if_true, if_false, not_true_eq_false, not_false_eq_true, and_self, or_true, true_or, or_false, false_or, and_true, true_and, and_false, false_and, or_self, Bool.false_eq_true, z10], rfl⟩ hH dX6_reason_29
    · refine lv_aload_n hx hb dX6_reason_17 rfl (lv_at hl 0 rfl) ?_
      refine lv_iconst (v := 0) hx hb dX6_reason_18 (by decide) ?_
      refine lv_iload_n hx hb dX6_reason_19 rfl (lv_at hl 1 rfl) ?_
      refine lv_iload_n hx hb dX6_reason_20 rfl (lv_at hl 2 rfl) ?_
      refine z_callVi X hH (c_X6_why l D k a g 0 (by omega) v u (z) (by omega) nu) k_X6_65 (rv_X6 X hH) [] rfl rfl hl.1 (Nat.le_of_ble_eq_true rfl) ⟨Nat.le_of_ble_eq_true rfl, Nat.le_of_ble_eq_true rfl⟩ ⟨Nat.le_refl _, Nat.le_refl _⟩ dX6_reason_21 (fun r9 g10 H locs h11 hH => ?_)
      rw [h11.2] at hH
      rw [h11.1]
      refine lv_goto (tgt := 29) hx hb dX6_reason_24 (by decide) ?_
      exact hret _ _ _ _ _ _ rfl ⟨by simp only [kReason, ← z_4, ← z_3, ← z_5, z_if2, z_if3, c4, hz1, c8, okS, okT, okW, okN, hasP, zAct, if_true, if_false, not_true_eq_false, not_false_eq_true, and_self, or_true, true_or, or_false, false_or, and_true, true_and, and_false, false_and, or_self, Bool.false_eq_true, z10], rfl⟩ hH dX6_reason_29
  · refine lv_iconst (v := (-1)) hx hb dX6_reason_7 (by decide) ?_
    exact hret _ _ _ _ _ _ rfl ⟨by simp only [kReason, ← z_4, ← z_3, ← z_5, z_if2, z_if3, c4, okS, okT, okW, okN, hasP, zAct, if_true, if_false, not_true_eq_false, not_false_eq_true, and_self, or_true, true_or, or_false, false_or, and_true, true_and, and_false, false_and, or_self, Bool.false_eq_true, z10], rfl⟩ hH dX6_reason_8
set_option maxRecDepth 100000 in
set_option maxHeartbeats 4000000 in
theorem c_X6_oldest (l : Launch) (D : va_G) (k : Nat → ClassId) (a : Nat → Nat → Nat) (g : Mem) (v u : V) (hf : zFl v) : zI l yX6_oldest cX6_oldest 1 .int 2 46 D k a [.ref (a 6 8)] (zM g 0 v u) (fun r g' => r = (fOldest v) ∧ g' = (zM g 0 v u)) := by
  refine zI_of (own := RX6) (by decide +kernel) rfl (Nat.le_of_ble_eq_true rfl) ?_
  intro p e s m args below meth c X Q hret hH ls hl
  obtain ⟨hx, hb, hml, hown, hts⟩ := X.1
  have hl : lv_has ls 1 [(0, .ref (a 6 8))] := hl
  have hH : zH D k a s (zM g 0 v u) s.heap [] := hH
  refine lv_aload_n hx hb dX6_oldest_0 rfl (lv_at hl 0 rfl) ?_
  refine lv_iconst (v := 0) hx hb dX6_oldest_1 (by decide) ?_
  refine z_callVi X hH (c_X6_oldestOf l D k a g 0 (by omega) v u hf) k_X6_52 (rv_X6 X hH) [] rfl rfl hl.1 (Nat.le_of_ble_eq_true rfl) ⟨Nat.le_of_ble_eq_true rfl, Nat.le_of_ble_eq_true rfl⟩ ⟨Nat.le_refl _, Nat.le_refl _⟩ dX6_oldest_2 (fun r1 g2 H locs h3 hH => ?_)
  rw [h3.2] at hH
  rw [h3.1]
  exact hret _ _ _ _ _ _ rfl ⟨rfl, rfl⟩ hH dX6_oldest_5
set_option maxRecDepth 100000 in
set_option maxHeartbeats 4000000 in
theorem c_X6_reach (l : Launch) (D : va_G) (k : Nat → ClassId) (a : Nat → Nat → Nat) (g : Mem) (v u : V) (hk : zKy v) (sh wa : Int32) : zI l yX6_reach cX6_reach 5 .int 3 76 D k a [.ref (a 6 8), .int (sh), .int (wa)] (zM g 0 v u) (fun r g' => r = (kReach v sh wa) ∧ g' = (zM g 0 v u)) := by
  refine zI_of (own := RX6) (by decide +kernel) rfl (Nat.le_of_ble_eq_true rfl) ?_
  intro p e s m args below meth c X Q hret hH ls hl
  obtain ⟨hx, hb, hml, hown, hts⟩ := X.1
  have hl : lv_has ls 5 [(0, .ref (a 6 8)), (1, .int (sh)), (2, .int (wa))] := hl
  have hH : zH D k a s (zM g 0 v u) s.heap [] := hH
  refine lv_iload_n hx hb dX6_reach_0 rfl (lv_at hl 1 rfl) ?_
  refine z_callSi X hH (c_X6_isShape l D k a (zM g 0 v u) sh) k_X6_89 [] rfl rfl hl.1 (Nat.le_of_ble_eq_true rfl) ⟨Nat.le_of_ble_eq_true rfl, Nat.le_of_ble_eq_true rfl⟩ ⟨Nat.le_refl _, Nat.le_refl _⟩ dX6_reach_1 (fun r1 g2 H locs h3 hH => ?_)
  rw [h3.2] at hH
  rw [h3.1]
  refine b_ifne (P := okS sh) (tgt := 9) hx hb dX6_reach_4 (by decide) (fun c4 => ?_) (fun c4 => ?_)
  · obtain ⟨z, hz, rfl⟩ := zIx (B := 12) (b := 12) rfl (by decide) c4
    have hz1 : iN (nI z) = z := iNn (by omega)
    refine lv_iload_n hx hb dX6_reach_9 rfl (lv_at hl 2 rfl) ?_
    refine lv_iconst (v := 0) hx hb dX6_reach_10 (by decide) ?_
    refine lv_iconst (v := 2) hx hb dX6_reach_11 (by decide) ?_
    refine z_callSi X hH (c_X6_in l D k a (zM g 0 v u) wa 0 2) k_X6_17 [] rfl rfl hl.1 (Nat.le_of_ble_eq_true rfl) ⟨Nat.le_of_ble_eq_true rfl, Nat.le_of_ble_eq_true rfl⟩ ⟨Nat.le_refl _, Nat.le_refl _⟩ dX6_reach_12 (fun r5 g6 H locs h7 hH => ?_)
    rw [h7.2] at hH
    rw [h7.1]
    refine b_ifne (P := ¬ wa < 0 ∧ ¬ 2 < wa) (tgt := 21) hx hb dX6_reach_15 (by decide) (fun c8 => ?_) (fun c8 => ?_)
    · refine lv_iconst (v := 0) hx hb dX6_reach_21 (by decide) ?_
      refine lv_istore_n (lv' := [(3, .int 0), (0, .ref (a 6 8)), (1, .int (nI z)), (2, .int (wa))]) hx hb dX6_reach_22 rfl hl (by decide) rfl (fun ls hl => ?_)
      refine lv_iload_n hx hb dX6_reach_23 rfl (lv_at hl 2 rfl) ?_
      refine lv_iconst (v := 3) hx hb dX6_reach_24 (by decide) ?_
      refine n_irem (A := z) (B := 3) hx hb (z % 3) rfl (by omega) (by omega) (by omega) dX6_reach_25 ?_
      refine n_if_ne (A := z % 3) (tgt := 33) hx hb (by omega) dX6_reach_26 (by decide) (fun c9 => ?_) (fun c9 => ?_)
      · refine lv_iconst (v := 1) hx hb dX6_reach_33 (by decide) ?_
        refine lv_istore (lv' := [(4, .int 1), (3, .int 0), (0, .ref (a 6 8)), (1, .int (nI z)), (2, .int (wa))]) hx hb dX6_reach_34 hl (by decide) rfl (fun ls hl => ?_)
        have Lp36 : ∀ (jx q : Nat), q + jx = 200 → ∀ (H : Heap) (locs : List Loc) (ls : Array Slot), zH D k a s (zM g 0 v u) H locs → lv_has ls 5 [(4, .int (nI (1 + q))), (3, .int (fReach v z wa 1 q)), (0, .ref (a 6 8)), (1, .int (nI z)), (2, .int (wa))] → W p l e (zRoom 3 76) s m args below meth c H locs 0 0 Q (F0 m 36 ls []) := by
          intro jx
          induction jx with
          | zero =>
            intro q hix H locs ls hH hl
            obtain rfl : q = 200 := by omega
            refine lv_iload hx hb dX6_reach_36 (lv_at hl 0 rfl) ?_
            refine lv_sipush (v := 200) hx hb dX6_reach_38 (by decide) ?_
            refine n_icmp_gt (A := 1 + 200) (B := 200) (tgt := 70) hx hb (by omega) (by omega) dX6_reach_41 (by decide) (fun c10 => ?_) (fun q => absurd q (by omega))
            refine lv_iload_n hx hb dX6_reach_70 rfl (lv_at hl 1 rfl) ?_
            exact hret _ _ _ _ _ _ rfl ⟨by simp only [kReach, ← z_4, ← z_3, ← z_5, z_if2, z_if3, c4, hz1, c8, c9, c10, okS, okT, okW, okN, hasP, zAct, if_true, if_false, not_true_eq_false, not_false_eq_true, and_self, or_true, true_or, or_false, false_or, and_true, true_and, and_false, false_and, or_self, Bool.false_eq_true, z10], rfl⟩ hH dX6_reach_71
          | succ jx ih =>
            intro q hix H locs ls hH hl
            have hi36 : q < 200 := by omega
            refine lv_iload hx hb dX6_reach_36 (lv_at hl 0 rfl) ?_
            refine lv_sipush (v := 200) hx hb dX6_reach_38 (by decide) ?_
            refine n_icmp_gt (A := 1 + q) (B := 200) (tgt := 70) hx hb (by omega) (by omega) dX6_reach_41 (by decide) (fun q => absurd q (by omega)) (fun c11 => ?_)
            refine lv_iload_n hx hb dX6_reach_44 rfl (lv_at hl 1 rfl) ?_
            refine lv_aload_n hx hb dX6_reach_45 rfl (lv_at hl 2 rfl) ?_
            refine lv_iconst (v := 0) hx hb dX6_reach_46 (by decide) ?_
            refine lv_iload_n hx hb dX6_reach_47 rfl (lv_at hl 3 rfl) ?_
            refine lv_iload hx hb dX6_reach_48 (lv_at hl 0 rfl) ?_
            refine z_callVi X hH (c_X6_cheapestOf l D k a g 0 (by omega) v u hk (z) (by omega) (nI (1 + q))) k_X6_69 (rv_X6 X hH) [.int (fReach v z wa 1 q)] rfl rfl hl.1 (Nat.le_of_ble_eq_true rfl) ⟨Nat.le_of_ble_eq_true rfl, Nat.le_of_ble_eq_true rfl⟩ ⟨Nat.le_refl _, Nat.le_refl _⟩ dX6_reach_50 (fun r12 g13 H locs h14 hH => ?_)
            rw [h14.2] at hH
            rw [h14.1]
            refine lv_iload_n hx hb dX6_reach_53 rfl (lv_at hl 4 rfl) ?_
            refine lv_icmp_ne (tgt := 61) hx hb dX6_reach_54 (by decide) (fun c15 => ?_) (fun c15 => ?_)
            · refine lv_iconst (v := 0) hx hb dX6_reach_61 (by decide) ?_
              refine lv_iadd hx hb dX6_reach_62 ?_
              refine lv_istore_n (lv' := [(3, .int ((fReach v z wa 1 q) + 0)), (4, .int (nI (1 + q))), (0, .ref (a 6 8)), (1, .int (nI z)), (2, .int (wa))]) hx hb dX6_reach_63 rfl hl (by decide) rfl (fun ls hl => ?_)
              refine lv_iinc (v := nI (1 + q + 1)) (lv' := [(4, .int (nI (1 + q + 1))), (3, .int ((fReach v z wa 1 q) + 0)), (0, .ref (a 6 8)), (1, .int (nI z)), (2, .int (wa))]) hx hb dX6_reach_64 hl (k := 1) rfl (z_inc1 _) (by decide) rfl (fun ls hl => ?_)
              refine lv_goto (tgt := 36) hx hb dX6_reach_67 (by decide) ?_
              refine ih (q + 1) (by omega) _ _ _ ?_ ?_
              · exact hH
              · rw [show (nI (1 + (q + 1)) : Int32) = nI (1 + q + 1) from by rfl, show (fReach v z wa 1 (q + 1) : Int32) = (fReach v z wa 1 q) + 0 from by simp only [fReach, c15, if_true, if_false, Int32.add_zero]]; exact lv_sub hl [0, 1, 2, 3, 4] rfl
            · refine lv_iconst (v := 1) hx hb dX6_reach_57 (by decide) ?_
              refine lv_goto (tgt := 62) hx hb dX6_reach_58 (by decide) ?_
              refine lv_iadd hx hb dX6_reach_62 ?_
              refine lv_istore_n (lv' := [(3, .int ((fReach v z wa 1 q) + 1)), (4, .int (nI (1 + q))), (0, .ref (a 6 8)), (1, .int (nI z)), (2, .int (wa))]) hx hb dX6_reach_63 rfl hl (by decide) rfl (fun ls hl => ?_)
              refine lv_iinc (v := nI (1 + q + 1)) (lv' := [(4, .int (nI (1 + q + 1))), (3, .int ((fReach v z wa 1 q) + 1)), (0, .ref (a 6 8)), (1, .int (nI z)), (2, .int (wa))]) hx hb dX6_reach_64 hl (k := 1) rfl (z_inc1 _) (by decide) rfl (fun ls hl => ?_)
              refine lv_goto (tgt := 36) hx hb dX6_reach_67 (by decide) ?_
              refine ih (q + 1) (by omega) _ _ _ ?_ ?_
              · exact hH
              · rw [show (nI (1 + (q + 1)) : Int32) = nI (1 + q + 1) from by rfl, show (fReach v z wa 1 (q + 1) : Int32) = (fReach v z wa 1 q) + 1 from by simp only [fReach, c15, if_true, if_false, Int32.add_zero]]; exact lv_sub hl [0, 1, 2, 3, 4] rfl
        refine Lp36 (200) 0 (by omega) _ _ _ ?_ ?_
        · exact hH
        · rw [show (nI (1 + 0) : Int32) = 1 from by rfl, show (fReach v z wa 1 0 : Int32) = 0 from by rfl]; exact lv_sub hl [0, 1, 2, 3, 4] rfl
      · refine lv_iconst (v := 0) hx hb dX6_reach_29 (by decide) ?_
        refine lv_goto (tgt := 34) hx hb dX6_reach_30 (by decide) ?_
        refine lv_istore (lv' := [(4, .int 0), (3, .int 0), (0, .ref (a 6 8)), (1, .int (nI z)), (2, .int (wa))]) hx hb dX6_reach_34 hl (by decide) rfl (fun ls hl => ?_)
        have Lp36 : ∀ (jx q : Nat), q + jx = 201 → ∀ (H : Heap) (locs : List Loc) (ls : Array Slot), zH D k a s (zM g 0 v u) H locs → lv_has ls 5 [(4, .int (nI (0 + q))), (3, .int (fReach v z wa 0 q)), (0, .ref (a 6 8)), (1, .int (nI z)), (2, .int (wa))] → W p l e (zRoom 3 76) s m args below meth c H locs 0 0 Q (F0 m 36 ls []) := by
          intro jx
          induction jx with
          | zero =>
            intro q hix H locs ls hH hl
            obtain rfl : q = 201 := by omega
            refine lv_iload hx hb dX6_reach_36 (lv_at hl 0 rfl) ?_
            refine lv_sipush (v := 200) hx hb dX6_reach_38 (by decide) ?_
            refine n_icmp_gt (A := 0 + 201) (B := 200) (tgt := 70) hx hb (by omega) (by omega) dX6_reach_41 (by decide) (fun c16 => ?_) (fun q => absurd q (by omega))
            refine lv_iload_n hx hb dX6_reach_70 rfl (lv_at hl 1 rfl) ?_
            exact hret _ _ _ _ _ _ rfl ⟨by simp only [kReach, ← z_4, ← z_3, ← z_5, z_if2, z_if3, c4, hz1, c8, c9, c16, okS, okT, okW, okN, hasP, zAct, if_true, if_false, not_true_eq_false, not_false_eq_true, and_self, or_true, true_or, or_false, false_or, and_true, true_and, and_false, false_and, or_self, Bool.false_eq_true, z10], rfl⟩ hH dX6_reach_71
          | succ jx ih =>
            intro q hix H locs ls hH hl
            have hi36 : q < 201 := by omega
            refine lv_iload hx hb dX6_reach_36 (lv_at hl 0 rfl) ?_
            refine lv_sipush (v := 200) hx hb dX6_reach_38 (by decide) ?_
            refine n_icmp_gt (A := 0 + q) (B := 200) (tgt := 70) hx hb (by omega) (by omega) dX6_reach_41 (by decide) (fun q => absurd q (by omega)) (fun c17 => ?_)
            refine lv_iload_n hx hb dX6_reach_44 rfl (lv_at hl 1 rfl) ?_
            refine lv_aload_n hx hb dX6_reach_45 rfl (lv_at hl 2 rfl) ?_
            refine lv_iconst (v := 0) hx hb dX6_reach_46 (by decide) ?_
            refine lv_iload_n hx hb dX6_reach_47 rfl (lv_at hl 3 rfl) ?_
            refine lv_iload hx hb dX6_reach_48 (lv_at hl 0 rfl) ?_
            refine z_callVi X hH (c_X6_cheapestOf l D k a g 0 (by omega) v u hk (z) (by omega) (nI (0 + q))) k_X6_69 (rv_X6 X hH) [.int (fReach v z wa 0 q)] rfl rfl hl.1 (Nat.le_of_ble_eq_true rfl) ⟨Nat.le_of_ble_eq_true rfl, Nat.le_of_ble_eq_true rfl⟩ ⟨Nat.le_refl _, Nat.le_refl _⟩ dX6_reach_50 (fun r18 g19 H locs h20 hH => ?_)
            rw [h20.2] at hH
            rw [h20.1]
            refine lv_iload_n hx hb dX6_reach_53 rfl (lv_at hl 4 rfl) ?_
            refine lv_icmp_ne (tgt := 61) hx hb dX6_reach_54 (by decide) (fun c21 => ?_) (fun c21 => ?_)
            · refine lv_iconst (v := 0) hx hb dX6_reach_61 (by decide) ?_
              refine lv_iadd hx hb dX6_reach_62 ?_
              refine lv_istore_n (lv' := [(3, .int ((fReach v z wa 0 q) + 0)), (4, .int (nI (0 + q))), (0, .ref (a 6 8)), (1, .int (nI z)), (2, .int (wa))]) hx hb dX6_reach_63 rfl hl (by decide) rfl (fun ls hl => ?_)
              refine lv_iinc (v := nI (0 + q + 1)) (lv' := [(4, .int (nI (0 + q + 1))), (3, .int ((fReach v z wa 0 q) + 0)), (0, .ref (a 6 8)), (1, .int (nI z)), (2, .int (wa))]) hx hb dX6_reach_64 hl (k := 1) rfl (z_inc1 _) (by decide) rfl (fun ls hl => ?_)
              refine lv_goto (tgt := 36) hx hb dX6_reach_67 (by decide) ?_
              refine ih (q + 1) (by omega) _ _ _ ?_ ?_
              · exact hH
              · rw [show (nI (0 + (q + 1)) : Int32) = nI (0 + q + 1) from by rfl, show (fReach v z wa 0 (q + 1) : Int32) = (fReach v z wa 0 q) + 0 from by simp only [fReach, c21, if_true, if_false, Int32.add_zero]]; exact lv_sub hl [0, 1, 2, 3, 4] rfl
            · refine lv_iconst (v := 1) hx hb dX6_reach_57 (by decide) ?_
              refine lv_goto (tgt := 62) hx hb dX6_reach_58 (by decide) ?_
              refine lv_iadd hx hb dX6_reach_62 ?_
              refine lv_istore_n (lv' := [(3, .int ((fReach v z wa 0 q) + 1)), (4, .int (nI (0 + q))), (0, .ref (a 6 8)), (1, .int (nI z)), (2, .int (wa))]) hx hb dX6_reach_63 rfl hl (by decide) rfl (fun ls hl => ?_)
              refine lv_iinc (v := nI (0 + q + 1)) (lv' := [(4, .int (nI (0 + q + 1))), (3, .int ((fReach v z wa 0 q) + 1)), (0, .ref (a 6 8)), (1, .int (nI z)), (2, .int (wa))]) hx hb dX6_reach_64 hl (k := 1) rfl (z_inc1 _) (by decide) rfl (fun ls hl => ?_)
              refine lv_goto (tgt := 36) hx hb dX6_reach_67 (by decide) ?_
              refine ih (q + 1) (by omega) _ _ _ ?_ ?_
              · exact hH
              · rw [show (nI (0 + (q + 1)) : Int32) = nI (0 + q + 1) from by rfl, show (fReach v z wa 0 (q + 1) : Int32) = (fReach v z wa 0 q) + 1 from by simp only [fReach, c21, if_true, if_false, Int32.add_zero]]; exact lv_sub hl [0, 1, 2, 3, 4] rfl
        refine Lp36 (201) 0 (by omega) _ _ _ ?_ ?_
        · exact hH
        · rw [show (nI (0 + 0) : Int32) = 0 from by rfl, show (fReach v z wa 0 0 : Int32) = 0 from by rfl]; exact lv_sub hl [0, 1, 2, 3, 4] rfl
    · refine lv_bipush (v := (-2)) hx hb dX6_reach_18 (by decide) ?_
      exact hret _ _ _ _ _ _ rfl ⟨by simp only [kReach, ← z_4, ← z_3, ← z_5, z_if2, z_if3, c4, hz1, c8, okS, okT, okW, okN, hasP, zAct, if_true, if_false, not_true_eq_false, not_false_eq_true, and_self, or_true, true_or, or_false, false_or, and_true, true_and, and_false, false_and, or_self, Bool.false_eq_true, z10], rfl⟩ hH dX6_reach_20
  · refine lv_iconst (v := (-1)) hx hb dX6_reach_7 (by decide) ?_
    exact hret _ _ _ _ _ _ rfl ⟨by simp only [kReach, ← z_4, ← z_3, ← z_5, z_if2, z_if3, c4, okS, okT, okW, okN, hasP, zAct, if_true, if_false, not_true_eq_false, not_false_eq_true, and_self, or_true, true_or, or_false, false_or, and_true, true_and, and_false, false_and, or_self, Bool.false_eq_true, z10], rfl⟩ hH dX6_reach_8
set_option maxRecDepth 100000 in
set_option maxHeartbeats 4000000 in
theorem c_X6_tableOf (l : Launch) (D : va_G) (k : Nat → ClassId) (a : Nat → Nat → Nat) (g : Mem) (v u : V) (hf : zFl v) (ta wt : Int32) : zI l yX6_tableOf cX6_tableOf 3 .int 2 42 D k a [.ref (a 6 8), .int (ta), .int (wt)] (zM g 0 v u) (fun r g' => r = (kTableOf v ta wt) ∧ g' = (zM g 0 v u)) := by
  refine zI_of (own := RX6) (by decide +kernel) rfl (Nat.le_of_ble_eq_true rfl) ?_
  intro p e s m args below meth c X Q hret hH ls hl
  obtain ⟨hx, hb, hml, hown, hts⟩ := X.1
  have hl : lv_has ls 3 [(0, .ref (a 6 8)), (1, .int (ta)), (2, .int (wt))] := hl
  have hH : zH D k a s (zM g 0 v u) s.heap [] := hH
  refine lv_iload_n hx hb dX6_tableOf_0 rfl (lv_at hl 1 rfl) ?_
  refine lv_iconst (v := 0) hx hb dX6_tableOf_1 (by decide) ?_
  refine lv_iconst (v := 3) hx hb dX6_tableOf_2 (by decide) ?_
  refine z_callSi X hH (c_X6_in l D k a (zM g 0 v u) ta 0 3) k_X6_17 [] rfl rfl hl.1 (Nat.le_of_ble_eq_true rfl) ⟨Nat.le_of_ble_eq_true rfl, Nat.le_of_ble_eq_true rfl⟩ ⟨Nat.le_refl _, Nat.le_refl _⟩ dX6_tableOf_3 (fun r1 g2 H locs h3 hH => ?_)
  rw [h3.2] at hH
  rw [h3.1]
  refine b_ifne (P := ¬ ta < 0 ∧ ¬ 3 < ta) (tgt := 11) hx hb dX6_tableOf_6 (by decide) (fun c4 => ?_) (fun c4 => ?_)
  · obtain ⟨q, hq, rfl⟩ := zIx (B := 4) (b := 4) rfl (by decide) ⟨c4.1, (z_4 _).mp c4.2⟩
    have hq1 : iN (nI q) = q := iNn (by omega)
    refine lv_iload_n hx hb dX6_tableOf_11 rfl (lv_at hl 2 rfl) ?_
    by_cases c5 : wt = 0
    · refine lv_tableIn (off := 36) (tgt := 48) hx hb dX6_tableOf_12 (by rw [c5]; decide) (by rw [c5]; decide) (by rw [c5]; rfl) (by decide) ?_
      refine lv_aload_n hx hb dX6_tableOf_48 rfl (lv_at hl 0 rfl) ?_
      refine gf_X6_s X hH q_576 dX6_tableOf_49 ?_
      refine lv_iload_n hx hb dX6_tableOf_52 rfl (lv_at hl 1 rfl) ?_
      refine am_s X (by omega) hH (q) (by omega) (by omega) dX6_tableOf_53 ?_
      exact hret _ _ _ _ _ _ rfl ⟨by simp only [kTableOf, ← z_4, ← z_3, ← z_5, z_if2, z_if3, c4, hq1, if_pos c5, okS, okT, okW, okN, hasP, zAct, if_true, if_false, not_true_eq_false, not_false_eq_true, and_self, or_true, true_or, or_false, false_or, and_true, true_and, and_false, false_and, or_self, Bool.false_eq_true, z10], rfl⟩ hH dX6_tableOf_54
    by_cases c6 : wt = 1
    · refine lv_tableIn (off := 43) (tgt := 55) hx hb dX6_tableOf_12 (by rw [c6]; decide) (by rw [c6]; decide) (by rw [c6]; rfl) (by decide) ?_
      refine lv_aload_n hx hb dX6_tableOf_55 rfl (lv_at hl 0 rfl) ?_
      refine gf_X6_s X hH q_576 dX6_tableOf_56 ?_
      refine lv_iconst (v := 4) hx hb dX6_tableOf_59 (by decide) ?_
      refine lv_iload_n hx hb dX6_tableOf_60 rfl (lv_at hl 1 rfl) ?_
      refine n_iadd (A := 4) (B := q) hx hb (4 + q) (by omega) dX6_tableOf_61 ?_
      refine am_s X (by omega) hH (4 + q) (by omega) (by omega) dX6_tableOf_62 ?_
      exact hret _ _ _ _ _ _ rfl ⟨by simp only [kTableOf, ← z_4, ← z_3, ← z_5, z_if2, z_if3, c4, hq1, c5, if_pos c6, okS, okT, okW, okN, hasP, zAct, if_true, if_false, not_true_eq_false, not_false_eq_true, and_self, or_true, true_or, or_false, false_or, and_true, true_and, and_false, false_and, or_self, Bool.false_eq_true, z10], rfl⟩ hH dX6_tableOf_63
    by_cases c7 : wt = 2
    · refine lv_tableIn (off := 52) (tgt := 64) hx hb dX6_tableOf_12 (by rw [c7]; decide) (by rw [c7]; decide) (by rw [c7]; rfl) (by decide) ?_
      refine lv_aload_n hx hb dX6_tableOf_64 rfl (lv_at hl 0 rfl) ?_
      refine lv_iload_n hx hb dX6_tableOf_65 rfl (lv_at hl 1 rfl) ?_
      refine z_callVi X hH (c_X6_keptFor l D k a g v u hf (q) (by omega)) k_X6_159 (rv_X6 X hH) [] rfl rfl hl.1 (Nat.le_of_ble_eq_true rfl) ⟨Nat.le_of_ble_eq_true rfl, Nat.le_of_ble_eq_true rfl⟩ ⟨Nat.le_refl _, Nat.le_refl _⟩ dX6_tableOf_66 (fun r8 g9 H locs h10 hH => ?_)
      rw [h10.2] at hH
      rw [h10.1]
      exact hret _ _ _ _ _ _ rfl ⟨by simp only [kTableOf, ← z_4, ← z_3, ← z_5, z_if2, z_if3, c4, hq1, c5, c6, if_pos c7, okS, okT, okW, okN, hasP, zAct, if_true, if_false, not_true_eq_false, not_false_eq_true, and_self, or_true, true_or, or_false, false_or, and_true, true_and, and_false, false_and, or_self, Bool.false_eq_true, z10], rfl⟩ hH dX6_tableOf_69
    by_cases c11 : wt = 3
    · refine lv_tableIn (off := 58) (tgt := 70) hx hb dX6_tableOf_12 (by rw [c11]; decide) (by rw [c11]; decide) (by rw [c11]; rfl) (by decide) ?_
      refine lv_aload_n hx hb dX6_tableOf_70 rfl (lv_at hl 0 rfl) ?_
      refine gf_X6_s X hH q_576 dX6_tableOf_71 ?_
      refine lv_sipush (v := 152) hx hb dX6_tableOf_74 (by decide) ?_
      refine lv_iload_n hx hb dX6_tableOf_77 rfl (lv_at hl 1 rfl) ?_
      refine n_iadd (A := 152) (B := q) hx hb (152 + q) (by omega) dX6_tableOf_78 ?_
      refine am_s X (by omega) hH (152 + q) (by omega) (by omega) dX6_tableOf_79 ?_
      exact hret _ _ _ _ _ _ rfl ⟨by simp only [kTableOf, ← z_4, ← z_3, ← z_5, z_if2, z_if3, c4, hq1, c5, c6, c7, if_pos c11, okS, okT, okW, okN, hasP, zAct, if_true, if_false, not_true_eq_false, not_false_eq_true, and_self, or_true, true_or, or_false, false_or, and_true, true_and, and_false, false_and, or_self, Bool.false_eq_true, z10], rfl⟩ hH dX6_tableOf_80
    by_cases c12 : wt = 4
    · refine lv_tableIn (off := 69) (tgt := 81) hx hb dX6_tableOf_12 (by rw [c12]; decide) (by rw [c12]; decide) (by rw [c12]; rfl) (by decide) ?_
      refine lv_aload_n hx hb dX6_tableOf_81 rfl (lv_at hl 0 rfl) ?_
      refine gf_X6_s X hH q_576 dX6_tableOf_82 ?_
      refine lv_sipush (v := 156) hx hb dX6_tableOf_85 (by decide) ?_
      refine lv_iload_n hx hb dX6_tableOf_88 rfl (lv_at hl 1 rfl) ?_
      refine n_iadd (A := 156) (B := q) hx hb (156 + q) (by omega) dX6_tableOf_89 ?_
      refine am_s X (by omega) hH (156 + q) (by omega) (by omega) dX6_tableOf_90 ?_
      exact hret _ _ _ _ _ _ rfl ⟨by simp only [kTableOf, ← z_4, ← z_3, ← z_5, z_if2, z_if3, c4, hq1, c5, c6, c7, c11, if_pos c12, okS, okT, okW, okN, hasP, zAct, if_true, if_false, not_true_eq_false, not_false_eq_true, and_self, or_true, true_or, or_false, false_or, and_true, true_and, and_false, false_and, or_self, Bool.false_eq_true, z10], rfl⟩ hH dX6_tableOf_91
    refine lv_tableOut (tgt := 92) hx hb dX6_tableOf_12 (by have q0 := lv_neT (a := 0) c5 (by decide); have q1 := lv_neT (a := 1) c6 (by decide); have q2 := lv_neT (a := 2) c7 (by decide); have q3 := lv_neT (a := 3) c11 (by decide); have q4 := lv_neT (a := 4) c12 (by decide); omega) (by decide) ?_
    refine lv_bipush (v := (-2)) hx hb dX6_tableOf_92 (by decide) ?_
    exact hret _ _ _ _ _ _ rfl ⟨by simp only [kTableOf, ← z_4, ← z_3, ← z_5, z_if2, z_if3, c4, hq1, c5, c6, c7, c11, c12, okS, okT, okW, okN, hasP, zAct, if_true, if_false, not_true_eq_false, not_false_eq_true, and_self, or_true, true_or, or_false, false_or, and_true, true_and, and_false, false_and, or_self, Bool.false_eq_true, z10], rfl⟩ hH dX6_tableOf_94
  · refine lv_iconst (v := (-1)) hx hb dX6_tableOf_9 (by decide) ?_
    exact hret _ _ _ _ _ _ rfl ⟨by simp only [kTableOf, ← z_4, ← z_3, ← z_5, z_if2, z_if3, c4, okS, okT, okW, okN, hasP, zAct, if_true, if_false, not_true_eq_false, not_false_eq_true, and_self, or_true, true_or, or_false, false_or, and_true, true_and, and_false, false_and, or_self, Bool.false_eq_true, z10], rfl⟩ hH dX6_tableOf_10
