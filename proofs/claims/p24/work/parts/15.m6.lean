set_option maxRecDepth 100000 in
set_option maxHeartbeats 4000000 in
theorem c_X0_record (l : Launch) (D : va_G) (k : Nat → ClassId) (a : Nat → Nat → Nat) (g : Mem) (x : Nat) (hx4 : x < 4) (e6 : g 6 0 = nI x) (hf : zFl (g 0)) (hjk : ∀ j, 160 ≤ j → g (2 + x) j = g 0 j) : zV l yX0_record cX0_record 2 2 43 D k a [.ref (a 6 1), .ref (a 0 0)] (g) (fun g' => g' = (zRecX g x)) := by
  refine zV_of (own := RX0) (by decide +kernel) rfl (Nat.le_of_ble_eq_true rfl) ?_
  intro p e s m args below meth c X Q hret hH ls hl
  obtain ⟨hx, hb, hml, hown, hts⟩ := X.1
  have hl : lv_has ls 2 [(0, .ref (a 6 1)), (1, .ref (a 0 0))] := hl
  have hH : zH D k a s (g) s.heap [] := hH
  refine lv_aload_n hx hb dX0_record_0 rfl (lv_at hl 0 rfl) ?_
  refine gf_X0_states X hH q_168 dX0_record_1 ?_
  refine lv_aload_n hx hb dX0_record_4 rfl (lv_at hl 0 rfl) ?_
  refine gf_X0_next X hH q_169 dX0_record_5 ?_
  rw [e6]
  refine ar_states X hH (x) (by omega) dX0_record_8 ?_
  refine lv_aload_n hx hb dX0_record_9 rfl (lv_at hl 1 rfl) ?_
  refine z_callVv X (by rw [zUp_id]; exact hH) (c_X3_copyFrom l D k a g (g (2 + x)) (2 + x) (0) (by omega) (by omega) (by omega) hf) k_X0_22 (rv_X3 X hH (by omega)) [] rfl rfl hl.1 (Nat.le_of_ble_eq_true rfl) ⟨Nat.le_of_ble_eq_true rfl, Nat.le_of_ble_eq_true rfl⟩ ⟨Nat.le_refl _, Nat.le_refl _⟩ dX0_record_10 (fun g1 H locs h2 hH => ?_)
  rw [h2] at hH
  rw [show cpAll ((g) (2 + x)) ((g) 0) = g 0 from by rw [show (g) (2 + x) = g (2 + x) from rfl, show (g) 0 = g 0 from rfl]; exact cpAll_eq hjk] at hH
  refine lv_aload_n hx hb dX0_record_13 rfl (lv_at hl 0 rfl) ?_
  refine lv_aload_n hx hb dX0_record_14 rfl (lv_at hl 0 rfl) ?_
  refine gf_X0_next X hH q_169 dX0_record_15 ?_
  rw [show (zUp g (2 + x) (g 0)) 6 0 = (g 6) 0 from (congrFun (zUp_n _ _ (by omega)) 0)]
  rw [e6]
  refine lv_iconst (v := 1) hx hb dX0_record_18 (by decide) ?_
  refine n_iadd (A := x) (B := 1) hx hb (x + 1) (by omega) dX0_record_19 ?_
  refine lv_iconst (v := 4) hx hb dX0_record_20 (by decide) ?_
  refine n_irem (A := x + 1) (B := 4) hx hb ((x + 1) % 4) rfl (by omega) (by omega) (by omega) dX0_record_21 ?_
  refine pf_X0_next X hH q_169 dX0_record_22 (fun H locs hH => ?_)
  rw [show zUp (zUp g (2 + x) (g 0)) 6 (upd ((zUp g (2 + x) (g 0)) 6) 0 (nI ((x + 1) % 4))) = zUp (zUp g (2 + x) (g 0)) 6 (upd (g 6) 0 (nI ((x + 1) % 4))) from by rw [show (zUp g (2 + x) (g 0)) 6 = g 6 from (zUp_n _ _ (by omega))]] at hH
  refine lv_aload_n hx hb dX0_record_25 rfl (lv_at hl 0 rfl) ?_
  refine lv_aload_n hx hb dX0_record_26 rfl (lv_at hl 0 rfl) ?_
  refine gf_X0_size X hH q_170 dX0_record_27 ?_
  rw [show (zUp (zUp g (2 + x) (g 0)) 6 (upd (g 6) 0 (nI ((x + 1) % 4)))) 6 1 = (g 6) 1 from ((congrFun (zUp_s _ _ _) 1).trans (zu_n _ _ (by omega)))]
  refine lv_iconst (v := 1) hx hb dX0_record_30 (by decide) ?_
  refine lv_iadd hx hb dX0_record_31 ?_
  refine lv_iconst (v := 4) hx hb dX0_record_32 (by decide) ?_
  refine z_min X q_252 hl.1 (Nat.le_of_ble_eq_true rfl) (Nat.le_of_ble_eq_true rfl) ⟨Nat.le_refl _, Nat.le_refl _⟩ dX0_record_33 ?_
  refine pf_X0_size X hH q_170 dX0_record_36 (fun H locs hH => ?_)
  rw [show zUp (zUp (zUp g (2 + x) (g 0)) 6 (upd (g 6) 0 (nI ((x + 1) % 4)))) 6 (upd ((zUp (zUp g (2 + x) (g 0)) 6 (upd (g 6) 0 (nI ((x + 1) % 4)))) 6) 1 (if 4 < ((g 6) 1) + 1 then 4 else ((g 6) 1) + 1)) = zUp (zUp g (2 + x) (g 0)) 6 (upd (upd (g 6) 0 (nI ((x + 1) % 4))) 1 (if 4 < ((g 6) 1) + 1 then 4 else ((g 6) 1) + 1)) from by rw [zUp_s, zUp_u]] at hH
  exact hret _ _ _ _ _ (rfl) hH dX0_record_39
set_option maxRecDepth 100000 in
set_option maxHeartbeats 4000000 in
theorem c_X0_takeBack (l : Launch) (D : va_G) (k : Nat → ClassId) (a : Nat → Nat → Nat) (g : Mem) (x : Nat) (hx4 : x < 4) (e6 : g 6 0 = nI x) (hf : zFl (g (2 + (x + 3) % 4))) (hjk : ∀ j, 160 ≤ j → g 0 j = g (2 + (x + 3) % 4) j) : zV l yX0_takeBack cX0_takeBack 2 2 43 D k a [.ref (a 6 1), .ref (a 0 0)] (g) (fun g' => g' = (zBackX g x)) := by
  refine zV_of (own := RX0) (by decide +kernel) rfl (Nat.le_of_ble_eq_true rfl) ?_
  intro p e s m args below meth c X Q hret hH ls hl
  obtain ⟨hx, hb, hml, hown, hts⟩ := X.1
  have hl : lv_has ls 2 [(0, .ref (a 6 1)), (1, .ref (a 0 0))] := hl
  have hH : zH D k a s (g) s.heap [] := hH
  refine lv_aload_n hx hb dX0_takeBack_0 rfl (lv_at hl 0 rfl) ?_
  refine lv_aload_n hx hb dX0_takeBack_1 rfl (lv_at hl 0 rfl) ?_
  refine gf_X0_next X hH q_169 dX0_takeBack_2 ?_
  rw [e6]
  refine lv_iconst (v := 4) hx hb dX0_takeBack_5 (by decide) ?_
  refine n_iadd (A := x) (B := 4) hx hb (x + 4) (by omega) dX0_takeBack_6 ?_
  refine lv_iconst (v := 1) hx hb dX0_takeBack_7 (by decide) ?_
  refine n_isub (A := x + 4) (B := 1) hx hb (x + 3) (by omega) dX0_takeBack_8 ?_
  refine lv_iconst (v := 4) hx hb dX0_takeBack_9 (by decide) ?_
  refine n_irem (A := x + 3) (B := 4) hx hb ((x + 3) % 4) rfl (by omega) (by omega) (by omega) dX0_takeBack_10 ?_
  refine pf_X0_next X hH q_169 dX0_takeBack_11 (fun H locs hH => ?_)
  refine lv_aload_n hx hb dX0_takeBack_14 rfl (lv_at hl 0 rfl) ?_
  refine lv_dup hx hb dX0_takeBack_15 rfl ?_
  refine gf_X0_size X hH q_170 dX0_takeBack_16 ?_
  rw [show (zUp g 6 (upd (g 6) 0 (nI ((x + 3) % 4)))) 6 1 = (g 6) 1 from ((congrFun (zUp_s _ _ _) 1).trans (zu_n _ _ (by omega)))]
  refine lv_iconst (v := 1) hx hb dX0_takeBack_19 (by decide) ?_
  refine lv_isub hx hb dX0_takeBack_20 ?_
  refine pf_X0_size X hH q_170 dX0_takeBack_21 (fun H locs hH => ?_)
  rw [show zUp (zUp g 6 (upd (g 6) 0 (nI ((x + 3) % 4)))) 6 (upd ((zUp g 6 (upd (g 6) 0 (nI ((x + 3) % 4)))) 6) 1 (((g 6) 1) - 1)) = zUp g 6 (upd (upd (g 6) 0 (nI ((x + 3) % 4))) 1 (((g 6) 1) - 1)) from by rw [zUp_s, zUp_u]] at hH
  refine lv_aload_n hx hb dX0_takeBack_24 rfl (lv_at hl 1 rfl) ?_
  refine lv_aload_n hx hb dX0_takeBack_25 rfl (lv_at hl 0 rfl) ?_
  refine gf_X0_states X hH q_168 dX0_takeBack_26 ?_
  refine lv_aload_n hx hb dX0_takeBack_29 rfl (lv_at hl 0 rfl) ?_
  refine gf_X0_next X hH q_169 dX0_takeBack_30 ?_
  rw [show (zUp g 6 (upd (upd (g 6) 0 (nI ((x + 3) % 4))) 1 (((g 6) 1) - 1))) 6 0 = nI ((x + 3) % 4) from ((congrFun (zUp_s _ _ _) 0).trans ((zu_n _ _ (by omega)).trans (zu_s _ _ _)))]
  refine ar_states X hH ((x + 3) % 4) (by omega) dX0_takeBack_33 ?_
  refine z_callVv X (by rw [zUp_id]; exact hH) (c_X3_copyFrom l D k a (zUp g 6 (upd (upd (g 6) 0 (nI ((x + 3) % 4))) 1 (((g 6) 1) - 1))) ((zUp g 6 (upd (upd (g 6) 0 (nI ((x + 3) % 4))) 1 (((g 6) 1) - 1))) 0) (0) (2 + (x + 3) % 4) (by omega) (by omega) (by omega) (by rw [show (zUp g 6 (upd (upd (g 6) 0 (nI ((x + 3) % 4))) 1 (((g 6) 1) - 1))) (2 + (x + 3) % 4) = g (2 + (x + 3) % 4) from zUp_n _ _ (by omega)]; exact hf)) k_X0_22 (rv_X3 X hH (by omega)) [] rfl rfl hl.1 (Nat.le_of_ble_eq_true rfl) ⟨Nat.le_of_ble_eq_true rfl, Nat.le_of_ble_eq_true rfl⟩ ⟨Nat.le_refl _, Nat.le_refl _⟩ dX0_takeBack_34 (fun g1 H locs h2 hH => ?_)
  rw [h2] at hH
  rw [show cpAll ((zUp g 6 (upd (upd (g 6) 0 (nI ((x + 3) % 4))) 1 (((g 6) 1) - 1))) 0) ((zUp g 6 (upd (upd (g 6) 0 (nI ((x + 3) % 4))) 1 (((g 6) 1) - 1))) (2 + (x + 3) % 4)) = g (2 + (x + 3) % 4) from by rw [show (zUp g 6 (upd (upd (g 6) 0 (nI ((x + 3) % 4))) 1 (((g 6) 1) - 1))) 0 = g 0 from (zUp_n _ _ (by omega)), show (zUp g 6 (upd (upd (g 6) 0 (nI ((x + 3) % 4))) 1 (((g 6) 1) - 1))) (2 + (x + 3) % 4) = g (2 + (x + 3) % 4) from (zUp_n _ _ (by omega))]; exact cpAll_eq hjk] at hH
  exact hret _ _ _ _ _ (rfl) hH dX0_takeBack_37
