set_option maxRecDepth 100000 in
set_option maxHeartbeats 4000000 in
theorem c_X6_records (l : Launch) (D : va_G) (k : Nat → ClassId) (a : Nat → Nat → Nat) (g : Mem) (v u : V) (n : Nat) (hn : n ≤ 4) (eu : u 0 = nI n) (hJ : zJk g) (hv : ∀ j, 160 ≤ j → v j = 0) : zV l yX6_records cX6_records 2 1 23 D k a [.ref (a 6 8)] (zM g 0 v u) (fun g' => g' = (zM (mRecG g v n) 0 v (mRecU u n))) := by
  refine zV_of (own := RX6) (by decide +kernel) rfl (Nat.le_of_ble_eq_true rfl) ?_
  intro p e s m args below meth c X Q hret hH ls hl
  obtain ⟨hx, hb, hml, hown, hts⟩ := X.1
  have hl : lv_has ls 2 [(0, .ref (a 6 8))] := hl
  have hH : zH D k a s (zM g 0 v u) s.heap [] := hH
  by_cases h4 : n = 4
  · subst h4
    have eu4 : u 0 = 4 := eu.trans (by decide)
    refine lv_aload_n hx hb dX6_records_0 rfl (lv_at hl 0 rfl) ?_
    refine gm_X6_states X hH q_577 dX6_records_1 ?_
    rw [eu4]
    refine lv_iconst (v := 4) hx hb dX6_records_4 (by decide) ?_
    refine lv_icmp_ne (tgt := 39) hx hb dX6_records_5 (by decide) (fun q => absurd rfl q) (fun _ => ?_)
    refine lv_iconst (v := 1) hx hb dX6_records_8 (by decide) ?_
    refine lv_istore_n (lv' := [(1, .int 1), (0, .ref (a 6 8))]) hx hb dX6_records_9 rfl hl (by decide) rfl (fun ls hl => ?_)
    refine lv_iload_n hx hb dX6_records_10 rfl (lv_at hl 0 rfl) ?_
    refine lv_iconst (v := 4) hx hb dX6_records_11 (by decide) ?_
    refine lv_icmp_ge (tgt := 29) hx hb dX6_records_12 (by decide) (fun q => absurd q (by decide)) (fun _ => ?_)
    refine lv_aload_n hx hb dX6_records_15 rfl (lv_at hl 1 rfl) ?_
    refine lv_iload_n hx hb dX6_records_16 rfl (lv_at hl 0 rfl) ?_
    refine lv_iconst (v := 1) hx hb dX6_records_17 (by decide) ?_
    refine lv_iadd hx hb dX6_records_18 ?_
    rw [show (1 : Int32) + 1 = 2 from by decide]
    refine lv_iload_n hx hb dX6_records_19 rfl (lv_at hl 0 rfl) ?_
    refine z_callVv X (by rw [zM_in _ _ _ (by omega) (by omega)]; exact hH) (c_X6_copies l D k a (zUp g (10 + 0) v) (2) (1) (by omega) (by omega) (by omega) (g (10 + 1)) u (fun j hj => (hJ (1) (by omega) j hj).trans (((congrFun (zUp_n _ _ (by omega)) j).trans ((hJ (2) (by omega)) j hj)).symm))) k_X6_25 (rv_X6 X hH) [] rfl rfl hl.1 (Nat.le_of_ble_eq_true rfl) ⟨Nat.le_of_ble_eq_true rfl, Nat.le_of_ble_eq_true rfl⟩ ⟨Nat.le_refl _, Nat.le_refl _⟩ dX6_records_20 (fun g1 H locs h2 hH => ?_)
    rw [h2, show (zUp g (10 + 0) v) (10 + 2) = g (10 + 2) from (zUp_n _ _ (by omega)), zM_out _ _ _ _ (by omega) (by omega)] at hH
    refine lv_iinc (v := 2) (lv' := [(1, .int 2), (0, .ref (a 6 8))]) hx hb dX6_records_23 hl (k := 0) rfl (by decide) (by decide) rfl (fun ls hl => ?_)
    refine lv_goto (tgt := 10) hx hb dX6_records_26 (by decide) ?_
    refine lv_iload_n hx hb dX6_records_10 rfl (lv_at hl 0 rfl) ?_
    refine lv_iconst (v := 4) hx hb dX6_records_11 (by decide) ?_
    refine lv_icmp_ge (tgt := 29) hx hb dX6_records_12 (by decide) (fun q => absurd q (by decide)) (fun _ => ?_)
    refine lv_aload_n hx hb dX6_records_15 rfl (lv_at hl 1 rfl) ?_
    refine lv_iload_n hx hb dX6_records_16 rfl (lv_at hl 0 rfl) ?_
    refine lv_iconst (v := 1) hx hb dX6_records_17 (by decide) ?_
    refine lv_iadd hx hb dX6_records_18 ?_
    rw [show (2 : Int32) + 1 = 3 from by decide]
    refine lv_iload_n hx hb dX6_records_19 rfl (lv_at hl 0 rfl) ?_
    refine z_callVv X (by rw [zM_in _ _ _ (by omega) (by omega)]; exact hH) (c_X6_copies l D k a (zUp (zUp g (10 + 1) (g (10 + 2))) (10 + 0) v) (3) (2) (by omega) (by omega) (by omega) ((zUp g (10 + 1) (g (10 + 2))) (10 + 2)) u (fun j hj => ((zJk_up hJ (hJ (2) (by omega))) (2) (by omega) j hj).trans (((congrFun (zUp_n _ _ (by omega)) j).trans (((zJk_up hJ (hJ (2) (by omega))) (3) (by omega)) j hj)).symm))) k_X6_25 (rv_X6 X hH) [] rfl rfl hl.1 (Nat.le_of_ble_eq_true rfl) ⟨Nat.le_of_ble_eq_true rfl, Nat.le_of_ble_eq_true rfl⟩ ⟨Nat.le_refl _, Nat.le_refl _⟩ dX6_records_20 (fun g3 H locs h4 hH => ?_)
    rw [h4, show (zUp (zUp g (10 + 1) (g (10 + 2))) (10 + 0) v) (10 + 3) = (zUp g (10 + 1) (g (10 + 2))) (10 + 3) from (zUp_n _ _ (by omega)), zM_out _ _ _ _ (by omega) (by omega)] at hH
    refine lv_iinc (v := 3) (lv' := [(1, .int 3), (0, .ref (a 6 8))]) hx hb dX6_records_23 hl (k := 0) rfl (by decide) (by decide) rfl (fun ls hl => ?_)
    refine lv_goto (tgt := 10) hx hb dX6_records_26 (by decide) ?_
    refine lv_iload_n hx hb dX6_records_10 rfl (lv_at hl 0 rfl) ?_
    refine lv_iconst (v := 4) hx hb dX6_records_11 (by decide) ?_
    refine lv_icmp_ge (tgt := 29) hx hb dX6_records_12 (by decide) (fun q => absurd q (by decide)) (fun _ => ?_)
    refine lv_aload_n hx hb dX6_records_15 rfl (lv_at hl 1 rfl) ?_
    refine lv_iload_n hx hb dX6_records_16 rfl (lv_at hl 0 rfl) ?_
    refine lv_iconst (v := 1) hx hb dX6_records_17 (by decide) ?_
    refine lv_iadd hx hb dX6_records_18 ?_
    rw [show (3 : Int32) + 1 = 4 from by decide]
    refine lv_iload_n hx hb dX6_records_19 rfl (lv_at hl 0 rfl) ?_
    refine z_callVv X (by rw [zM_in _ _ _ (by omega) (by omega)]; exact hH) (c_X6_copies l D k a (zUp (zUp (zUp g (10 + 1) (g (10 + 2))) (10 + 2) ((zUp g (10 + 1) (g (10 + 2))) (10 + 3))) (10 + 0) v) (4) (3) (by omega) (by omega) (by omega) ((zUp (zUp g (10 + 1) (g (10 + 2))) (10 + 2) ((zUp g (10 + 1) (g (10 + 2))) (10 + 3))) (10 + 3)) u (fun j hj => ((zJk_up (zJk_up hJ (hJ (2) (by omega))) ((zJk_up hJ (hJ (2) (by omega))) (3) (by omega))) (3) (by omega) j hj).trans (((congrFun (zUp_n _ _ (by omega)) j).trans (((zJk_up (zJk_up hJ (hJ (2) (by omega))) ((zJk_up hJ (hJ (2) (by omega))) (3) (by omega))) (4) (by omega)) j hj)).symm))) k_X6_25 (rv_X6 X hH) [] rfl rfl hl.1 (Nat.le_of_ble_eq_true rfl) ⟨Nat.le_of_ble_eq_true rfl, Nat.le_of_ble_eq_true rfl⟩ ⟨Nat.le_refl _, Nat.le_refl _⟩ dX6_records_20 (fun g5 H locs h6 hH => ?_)
    rw [h6, show (zUp (zUp (zUp g (10 + 1) (g (10 + 2))) (10 + 2) ((zUp g (10 + 1) (g (10 + 2))) (10 + 3))) (10 + 0) v) (10 + 4) = (zUp (zUp g (10 + 1) (g (10 + 2))) (10 + 2) ((zUp g (10 + 1) (g (10 + 2))) (10 + 3))) (10 + 4) from (zUp_n _ _ (by omega)), zM_out _ _ _ _ (by omega) (by omega)] at hH
    refine lv_iinc (v := 4) (lv' := [(1, .int 4), (0, .ref (a 6 8))]) hx hb dX6_records_23 hl (k := 0) rfl (by decide) (by decide) rfl (fun ls hl => ?_)
    refine lv_goto (tgt := 10) hx hb dX6_records_26 (by decide) ?_
    refine lv_iload_n hx hb dX6_records_10 rfl (lv_at hl 0 rfl) ?_
    refine lv_iconst (v := 4) hx hb dX6_records_11 (by decide) ?_
    refine lv_icmp_ge (tgt := 29) hx hb dX6_records_12 (by decide) (fun _ => ?_) (fun q => absurd (by decide) q)
    refine lv_aload_n hx hb dX6_records_29 rfl (lv_at hl 1 rfl) ?_
    refine lv_dup hx hb dX6_records_30 rfl ?_
    refine gm_X6_states X hH q_577 dX6_records_31 ?_
    rw [eu4]
    refine lv_iconst (v := 1) hx hb dX6_records_34 (by decide) ?_
    refine lv_isub hx hb dX6_records_35 ?_
    rw [show (4 : Int32) - 1 = 3 from by decide]
    refine pm_X6_states X hH q_577 dX6_records_36 (fun H locs hH => ?_)
    refine lv_aload_n hx hb dX6_records_39 rfl (lv_at hl 1 rfl) ?_
    refine lv_dup hx hb dX6_records_40 rfl ?_
    refine gm_X6_states X hH q_577 dX6_records_41 ?_
    rw [show (upd u 0 3) 0 = 3 from (zu_s _ _ _)]
    refine lv_iconst (v := 1) hx hb dX6_records_44 (by decide) ?_
    refine lv_iadd hx hb dX6_records_45 ?_
    rw [show (3 : Int32) + 1 = 4 from by decide]
    refine pm_X6_states X hH q_577 dX6_records_46 (fun H locs hH => ?_)
    refine lv_aload_n hx hb dX6_records_49 rfl (lv_at hl 1 rfl) ?_
    refine lv_iconst (v := 0) hx hb dX6_records_50 (by decide) ?_
    refine lv_aload_n hx hb dX6_records_51 rfl (lv_at hl 1 rfl) ?_
    refine gm_X6_states X hH q_577 dX6_records_52 ?_
    rw [show (upd (upd u 0 3) 0 4) 0 = 4 from (zu_s _ _ _)]
    refine z_callVv X (by rw [zM_in _ _ _ (by omega) (by omega)]; exact hH) (c_X6_copies l D k a (zUp (zUp (zUp (zUp g (10 + 1) (g (10 + 2))) (10 + 2) ((zUp g (10 + 1) (g (10 + 2))) (10 + 3))) (10 + 3) ((zUp (zUp g (10 + 1) (g (10 + 2))) (10 + 2) ((zUp g (10 + 1) (g (10 + 2))) (10 + 3))) (10 + 4))) (10 + 0) v) (0) (4) (by omega) (by omega) (by omega) ((zUp (zUp (zUp g (10 + 1) (g (10 + 2))) (10 + 2) ((zUp g (10 + 1) (g (10 + 2))) (10 + 3))) (10 + 3) ((zUp (zUp g (10 + 1) (g (10 + 2))) (10 + 2) ((zUp g (10 + 1) (g (10 + 2))) (10 + 3))) (10 + 4))) (10 + 4)) (upd (upd u 0 3) 0 4) (fun j hj => ((zJk_up (zJk_up (zJk_up hJ (hJ (2) (by omega))) ((zJk_up hJ (hJ (2) (by omega))) (3) (by omega))) ((zJk_up (zJk_up hJ (hJ (2) (by omega))) ((zJk_up hJ (hJ (2) (by omega))) (3) (by omega))) (4) (by omega))) (4) (by omega) j hj).trans (((congrFun (zUp_s _ _ _) j).trans (hv j hj)).symm))) k_X6_25 (rv_X6 X hH) [] rfl rfl hl.1 (Nat.le_of_ble_eq_true rfl) ⟨Nat.le_of_ble_eq_true rfl, Nat.le_of_ble_eq_true rfl⟩ ⟨Nat.le_refl _, Nat.le_refl _⟩ dX6_records_55 (fun g7 H locs h8 hH => ?_)
    rw [h8, show (zUp (zUp (zUp (zUp g (10 + 1) (g (10 + 2))) (10 + 2) ((zUp g (10 + 1) (g (10 + 2))) (10 + 3))) (10 + 3) ((zUp (zUp g (10 + 1) (g (10 + 2))) (10 + 2) ((zUp g (10 + 1) (g (10 + 2))) (10 + 3))) (10 + 4))) (10 + 0) v) (10 + 0) = v from (zUp_s _ _ _), zM_out _ _ _ _ (by omega) (by omega)] at hH
    exact hret _ _ _ _ _ (by rw [mRecG, mRecU, if_pos rfl, if_pos rfl, zu_u]; simp only [zUp_n _ _ (show 10 + 2 ≠ 10 + 1 by omega), zUp_n _ _ (show 10 + 3 ≠ 10 + 1 by omega), zUp_n _ _ (show 10 + 3 ≠ 10 + 2 by omega), zUp_n _ _ (show 10 + 4 ≠ 10 + 1 by omega), zUp_n _ _ (show 10 + 4 ≠ 10 + 2 by omega), zUp_n _ _ (show 10 + 4 ≠ 10 + 3 by omega)]) hH dX6_records_58
  · have h4l : n < 4 := by omega
    refine lv_aload_n hx hb dX6_records_0 rfl (lv_at hl 0 rfl) ?_
    refine gm_X6_states X hH q_577 dX6_records_1 ?_
    rw [eu]
    refine lv_iconst (v := 4) hx hb dX6_records_4 (by decide) ?_
    refine n_icmp_ne (A := n) (B := 4) (tgt := 39) hx hb (by omega) (by omega) dX6_records_5 (by decide) (fun c9 => ?_) (fun q => absurd q (by omega))
    refine lv_aload_n hx hb dX6_records_39 rfl (lv_at hl 0 rfl) ?_
    refine lv_dup hx hb dX6_records_40 rfl ?_
    refine gm_X6_states X hH q_577 dX6_records_41 ?_
    rw [eu]
    refine lv_iconst (v := 1) hx hb dX6_records_44 (by decide) ?_
    refine n_iadd (A := n) (B := 1) hx hb (n + 1) (by omega) dX6_records_45 ?_
    refine pm_X6_states X hH q_577 dX6_records_46 (fun H locs hH => ?_)
    refine lv_aload_n hx hb dX6_records_49 rfl (lv_at hl 0 rfl) ?_
    refine lv_iconst (v := 0) hx hb dX6_records_50 (by decide) ?_
    refine lv_aload_n hx hb dX6_records_51 rfl (lv_at hl 0 rfl) ?_
    refine gm_X6_states X hH q_577 dX6_records_52 ?_
    rw [show (upd u 0 (nI (n + 1))) 0 = nI (n + 1) from (zu_s _ _ _)]
    refine z_callVv X (by rw [zM_in _ _ _ (by omega) (by omega)]; exact hH) (c_X6_copies l D k a (zUp g (10 + 0) v) (0) (n + 1) (by omega) (by omega) (by omega) (g (10 + (n + 1))) (upd u 0 (nI (n + 1))) (fun j hj => (hJ (n + 1) (by omega) j hj).trans (((congrFun (zUp_s _ _ _) j).trans (hv j hj)).symm))) k_X6_25 (rv_X6 X hH) [] rfl rfl hl.1 (Nat.le_of_ble_eq_true rfl) ⟨Nat.le_of_ble_eq_true rfl, Nat.le_of_ble_eq_true rfl⟩ ⟨Nat.le_refl _, Nat.le_refl _⟩ dX6_records_55 (fun g10 H locs h11 hH => ?_)
    rw [h11, show (zUp g (10 + 0) v) (10 + 0) = v from (zUp_s _ _ _), zM_out _ _ _ _ (by omega) (by omega)] at hH
    exact hret _ _ _ _ _ (by rw [mRecG, mRecU, if_neg h4, if_neg h4]) hH dX6_records_58
