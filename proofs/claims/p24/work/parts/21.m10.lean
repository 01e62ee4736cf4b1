def zLn (i : Nat) : Nat := zLen.getD i 0
def zCh (i j : Nat) : Int32 := (zByt.getD i []).getD j 0
theorem zLn_4 : ∀ i, i < 7 → zLn i ≤ 4 := by decide +kernel
theorem zCh_c : ∀ i, i < 7 → ∀ j, j < zLn i → ((zCh i j &&& 255).toUInt32 % 65536).toInt32 = zCh i j := by decide +kernel
theorem zCh_n : ∀ i, i < 7 → ∀ j, j < zLn i → narrow .char (.int (zCh i j)) = .int (zCh i j) := by decide +kernel
set_option maxRecDepth 100000 in
set_option maxHeartbeats 4000000 in
theorem c_J0_coder_7d493 (l : Launch) (D : va_G) (k : Nat → ClassId) (a : Nat → Nat → Nat) (g : Mem) (si : Nat) (hsi : si < 7) : zI l yJ0_coder_7d493 cJ0_coder_7d493 1 .byte 0 0 D k a [.ref (a 9 si)] (g) (fun r g' => r = (0) ∧ g' = (g)) := by
  refine zI_of (own := RJ0) (by decide +kernel) rfl (Nat.le_of_ble_eq_true rfl) ?_
  intro p e s m args below meth c X Q hret hH ls hl
  obtain ⟨hx, hb, hml, hown, hts⟩ := X.1
  have hl : lv_has ls 1 [(0, .ref (a 9 si))] := hl
  have hH : zH D k a s (g) s.heap [] := hH
  refine va_gets hx hb X.2.2.2.2.2.2.2.2.1 hH.2 hown (hts _ q_396) (fun _ h9 => h9) dJ0_coder_7d493_0 ?_
  refine lv_if_eq (tgt := 13) hx hb dJ0_coder_7d493_3 (by decide) (fun q => absurd q (by decide)) (fun _ => ?_)
  refine lv_aload_n hx hb dJ0_coder_7d493_6 rfl (lv_at hl 0 rfl) ?_
  refine vk_getf hx hb (X.2.2.2.2.2.2.2.1.1 (si) hsi).2.1 hH.2 hown (hts _ q_571) (fun _ h9 => h9) dJ0_coder_7d493_7 ?_
  refine lv_goto (tgt := 14) hx hb dJ0_coder_7d493_10 (by decide) ?_
  exact hret _ _ _ _ _ _ rfl ⟨rfl, rfl⟩ hH dJ0_coder_7d493_14
set_option maxRecDepth 100000 in
set_option maxHeartbeats 4000000 in
theorem c_J0_length_8abf5 (l : Launch) (D : va_G) (k : Nat → ClassId) (a : Nat → Nat → Nat) (g : Mem) (si : Nat) (hsi : si < 7) : zI l yJ0_length_8abf5 cJ0_length_8abf5 1 .int 1 20 D k a [.ref (a 9 si)] (g) (fun r g' => r = (nI (zLn si)) ∧ g' = (g)) := by
  refine zI_of (own := RJ0) (by decide +kernel) rfl (Nat.le_of_ble_eq_true rfl) ?_
  intro p e s m args below meth c X Q hret hH ls hl
  obtain ⟨hx, hb, hml, hown, hts⟩ := X.1
  have hl : lv_has ls 1 [(0, .ref (a 9 si))] := hl
  have hH : zH D k a s (g) s.heap [] := hH
  have hln := zLn_4 si hsi
  refine lv_aload_n hx hb dJ0_length_8abf5_0 rfl (lv_at hl 0 rfl) ?_
  refine vk_getf hx hb (X.2.2.2.2.2.2.2.1.1 (si) hsi).2.2.1 hH.2 hown (hts _ q_570) (fun _ h9 => h9) dJ0_length_8abf5_1 ?_
  refine va_tlen hx hb (X.2.2.2.2.2.2.2.1.1 (si) hsi).2.2.2 hH.2 (v := nI (zLn si)) rfl dJ0_length_8abf5_4 ?_
  refine lv_aload_n hx hb dJ0_length_8abf5_5 rfl (lv_at hl 0 rfl) ?_
  refine z_callVi X hH (c_J0_coder_7d493 l D k a g (si) hsi) k_J0_335 (vk_recv X.2.2.2.2.2.2.2.1 hsi hH.2) [.int (nI (zLn si))] rfl rfl hl.1 (Nat.le_of_ble_eq_true rfl) ⟨Nat.le_of_ble_eq_true rfl, Nat.le_of_ble_eq_true rfl⟩ ⟨Nat.le_refl _, Nat.le_refl _⟩ dJ0_length_8abf5_6 (fun r1 g2 H locs h3 hH => ?_)
  rw [h3.2] at hH
  rw [h3.1]
  refine n_ishr (A := zLn si) (B := 0) hx hb (by omega) (by omega) dJ0_length_8abf5_9 ?_
  exact hret _ _ _ _ _ _ rfl ⟨by rw [Nat.pow_zero, Nat.div_one], rfl⟩ hH dJ0_length_8abf5_10
set_option maxRecDepth 100000 in
set_option maxHeartbeats 4000000 in
theorem c_J0_isLatin1_aae02 (l : Launch) (D : va_G) (k : Nat → ClassId) (a : Nat → Nat → Nat) (g : Mem) (si : Nat) (hsi : si < 7) : zI l yJ0_isLatin1_aae02 cJ0_isLatin1_aae02 1 .boolean 0 0 D k a [.ref (a 9 si)] (g) (fun r g' => r = (1) ∧ g' = (g)) := by
  refine zI_of (own := RJ0) (by decide +kernel) rfl (Nat.le_of_ble_eq_true rfl) ?_
  intro p e s m args below meth c X Q hret hH ls hl
  obtain ⟨hx, hb, hml, hown, hts⟩ := X.1
  have hl : lv_has ls 1 [(0, .ref (a 9 si))] := hl
  have hH : zH D k a s (g) s.heap [] := hH
  refine va_gets hx hb X.2.2.2.2.2.2.2.2.1 hH.2 hown (hts _ q_396) (fun _ h9 => h9) dJ0_isLatin1_aae02_0 ?_
  refine lv_if_eq (tgt := 17) hx hb dJ0_isLatin1_aae02_3 (by decide) (fun q => absurd q (by decide)) (fun _ => ?_)
  refine lv_aload_n hx hb dJ0_isLatin1_aae02_6 rfl (lv_at hl 0 rfl) ?_
  refine vk_getf hx hb (X.2.2.2.2.2.2.2.1.1 (si) hsi).2.1 hH.2 hown (hts _ q_571) (fun _ h9 => h9) dJ0_isLatin1_aae02_7 ?_
  refine lv_if_ne (tgt := 17) hx hb dJ0_isLatin1_aae02_10 (by decide) (fun q => absurd rfl q) (fun _ => ?_)
  refine lv_iconst (v := 1) hx hb dJ0_isLatin1_aae02_13 (by decide) ?_
  refine lv_goto (tgt := 18) hx hb dJ0_isLatin1_aae02_14 (by decide) ?_
  exact hret _ _ _ _ _ _ rfl ⟨rfl, rfl⟩ hH dJ0_isLatin1_aae02_18
set_option maxRecDepth 100000 in
set_option maxHeartbeats 4000000 in
theorem c_J3_checkIndex_8e157n (l : Launch) (D : va_G) (k : Nat → ClassId) (a : Nat → Nat → Nat) (g : Mem) (j n : Nat) (hj : j < n) (hn : n < 2 ^ 31) : zI l yJ3_checkIndex_8e157 cJ3_checkIndex_8e157 3 .int 0 0 D k a [.int (nI j), .int (nI n), .null] (g) (fun r g' => r = (nI j) ∧ g' = (g)) := by
  refine zI_of (own := RJ3) (by decide +kernel) rfl (Nat.le_of_ble_eq_true rfl) ?_
  intro p e s m args below meth c X Q hret hH ls hl
  obtain ⟨hx, hb, hml, hown, hts⟩ := X.1
  have hl : lv_has ls 3 [(0, .int (nI j)), (1, .int (nI n)), (2, .null)] := hl
  have hH : zH D k a s (g) s.heap [] := hH
  refine lv_iload_n hx hb dJ3_checkIndex_8e157_0 rfl (lv_at hl 0 rfl) ?_
  refine i_if_lt (tgt := 9) hx hb dJ3_checkIndex_8e157_1 (by decide) (fun q => absurd q (nI_pos (by omega))) (fun _ => ?_)
  refine lv_iload_n hx hb dJ3_checkIndex_8e157_4 rfl (lv_at hl 0 rfl) ?_
  refine lv_iload_n hx hb dJ3_checkIndex_8e157_5 rfl (lv_at hl 1 rfl) ?_
  refine n_icmp_lt (A := j) (B := n) (tgt := 16) hx hb (by omega) (by omega) dJ3_checkIndex_8e157_6 (by decide) (fun c1 => ?_) (fun q => absurd q (by omega))
  refine lv_iload_n hx hb dJ3_checkIndex_8e157_16 rfl (lv_at hl 0 rfl) ?_
  exact hret _ _ _ _ _ _ rfl ⟨rfl, rfl⟩ hH dJ3_checkIndex_8e157_17
set_option maxRecDepth 100000 in
set_option maxHeartbeats 4000000 in
theorem c_J3_checkIndex_8e157r (l : Launch) (D : va_G) (k : Nat → ClassId) (a : Nat → Nat → Nat) (g : Mem) (j n : Nat) (hj : j < n) (hn : n < 2 ^ 31) (tz : Nat) : zI l yJ3_checkIndex_8e157 cJ3_checkIndex_8e157 3 .int 0 0 D k a [.int (nI j), .int (nI n), .ref tz] (g) (fun r g' => r = (nI j) ∧ g' = (g)) := by
  refine zI_of (own := RJ3) (by decide +kernel) rfl (Nat.le_of_ble_eq_true rfl) ?_
  intro p e s m args below meth c X Q hret hH ls hl
  obtain ⟨hx, hb, hml, hown, hts⟩ := X.1
  have hl : lv_has ls 3 [(0, .int (nI j)), (1, .int (nI n)), (2, .ref tz)] := hl
  have hH : zH D k a s (g) s.heap [] := hH
  refine lv_iload_n hx hb dJ3_checkIndex_8e157_0 rfl (lv_at hl 0 rfl) ?_
  refine i_if_lt (tgt := 9) hx hb dJ3_checkIndex_8e157_1 (by decide) (fun q => absurd q (nI_pos (by omega))) (fun _ => ?_)
  refine lv_iload_n hx hb dJ3_checkIndex_8e157_4 rfl (lv_at hl 0 rfl) ?_
  refine lv_iload_n hx hb dJ3_checkIndex_8e157_5 rfl (lv_at hl 1 rfl) ?_
  refine n_icmp_lt (A := j) (B := n) (tgt := 16) hx hb (by omega) (by omega) dJ3_checkIndex_8e157_6 (by decide) (fun c1 => ?_) (fun q => absurd q (by omega))
  refine lv_iload_n hx hb dJ3_checkIndex_8e157_16 rfl (lv_at hl 0 rfl) ?_
  exact hret _ _ _ _ _ _ rfl ⟨rfl, rfl⟩ hH dJ3_checkIndex_8e157_17
set_option maxRecDepth 100000 in
set_option maxHeartbeats 4000000 in
theorem c_J0_checkIndex_df160 (l : Launch) (D : va_G) (k : Nat → ClassId) (a : Nat → Nat → Nat) (g : Mem) (j n : Nat) (hj : j < n) (hn : n < 2 ^ 31) : zV l yJ0_checkIndex_df160 cJ0_checkIndex_df160 2 1 22 D k a [.int (nI j), .int (nI n)] (g) (fun g' => g' = (g)) := by
  refine zV_of (own := RJ0) (by decide +kernel) rfl (Nat.le_of_ble_eq_true rfl) ?_
  intro p e s m args below meth c X Q hret hH ls hl
  obtain ⟨hx, hb, hml, hown, hts⟩ := X.1
  have hl : lv_has ls 2 [(0, .int (nI j)), (1, .int (nI n))] := hl
  have hH : zH D k a s (g) s.heap [] := hH
  refine lv_iload_n hx hb dJ0_checkIndex_df160_0 rfl (lv_at hl 0 rfl) ?_
  refine lv_iload_n hx hb dJ0_checkIndex_df160_1 rfl (lv_at hl 1 rfl) ?_
  rcases X.2.2.2.2.2.2.2.2.2.1 with hz | ⟨tz, hz⟩
  · refine va_gets hx hb hz hH.2 hown (hts _ q_412) (fun _ h9 => h9) dJ0_checkIndex_df160_2 ?_
    refine z_callSi X hH (c_J3_checkIndex_8e157n l D k a g (j) (n) (by omega) (by omega)) k_J0_1059 [] rfl rfl hl.1 (Nat.le_of_ble_eq_true rfl) ⟨Nat.le_of_ble_eq_true rfl, Nat.le_of_ble_eq_true rfl⟩ ⟨Nat.le_refl _, Nat.le_refl _⟩ dJ0_checkIndex_df160_5 (fun r1 g2 H locs h3 hH => ?_)
    rw [h3.2] at hH
    rw [h3.1]
    refine lv_pop hx hb dJ0_checkIndex_df160_8 rfl ?_
    exact hret _ _ _ _ _ (rfl) hH dJ0_checkIndex_df160_9
  · refine va_gets hx hb hz hH.2 hown (hts _ q_412) (fun _ h9 => h9) dJ0_checkIndex_df160_2 ?_
    refine z_callSi X hH (c_J3_checkIndex_8e157r l D k a g (j) (n) (by omega) (by omega) tz) k_J0_1059 [] rfl rfl hl.1 (Nat.le_of_ble_eq_true rfl) ⟨Nat.le_of_ble_eq_true rfl, Nat.le_of_ble_eq_true rfl⟩ ⟨Nat.le_refl _, Nat.le_refl _⟩ dJ0_checkIndex_df160_5 (fun r4 g5 H locs h6 hH => ?_)
    rw [h6.2] at hH
    rw [h6.1]
    refine lv_pop hx hb dJ0_checkIndex_df160_8 rfl ?_
    exact hret _ _ _ _ _ (rfl) hH dJ0_checkIndex_df160_9
set_option maxRecDepth 100000 in
set_option maxHeartbeats 4000000 in
theorem c_J1_charAt_3b067 (l : Launch) (D : va_G) (k : Nat → ClassId) (a : Nat → Nat → Nat) (g : Mem) (si : Nat) (hsi : si < 7) (j : Nat) (hj : j < zLn si) : zI l yJ1_charAt_3b067 cJ1_charAt_3b067 2 .char 2 43 D k a [.ref (a 10 si), .int (nI j)] (g) (fun r g' => r = (zCh si j) ∧ g' = (g)) := by
  refine zI_of (own := RJ1) (by decide +kernel) rfl (Nat.le_of_ble_eq_true rfl) ?_
  intro p e s m args below meth c X Q hret hH ls hl
  obtain ⟨hx, hb, hml, hown, hts⟩ := X.1
  have hl : lv_has ls 2 [(0, .ref (a 10 si)), (1, .int (nI j))] := hl
  have hH : zH D k a s (g) s.heap [] := hH
  have hln := zLn_4 si hsi
  refine lv_iload_n hx hb dJ1_charAt_3b067_0 rfl (lv_at hl 1 rfl) ?_
  refine lv_aload_n hx hb dJ1_charAt_3b067_1 rfl (lv_at hl 0 rfl) ?_
  refine va_tlen hx hb (X.2.2.2.2.2.2.2.1.1 (si) hsi).2.2.2 hH.2 (v := nI (zLn si)) rfl dJ1_charAt_3b067_2 ?_
  refine z_callSv X hH (c_J0_checkIndex_df160 l D k a g (j) (zLn si) (by omega) (by omega)) k_J1_9 [] rfl rfl hl.1 (Nat.le_of_ble_eq_true rfl) ⟨Nat.le_of_ble_eq_true rfl, Nat.le_of_ble_eq_true rfl⟩ ⟨Nat.le_refl _, Nat.le_refl _⟩ dJ1_charAt_3b067_3 (fun g1 H locs h2 hH => ?_)
  rw [h2] at hH
  refine lv_aload_n hx hb dJ1_charAt_3b067_6 rfl (lv_at hl 0 rfl) ?_
  refine lv_iload_n hx hb dJ1_charAt_3b067_7 rfl (lv_at hl 1 rfl) ?_
  refine va_tb hx hb (X.2.2.2.2.2.2.2.1.1 (si) hsi).2.2.2 hH.2 (z_vpin (j := j) (n := zLn si) hj (by omega)) (v := .int (zCh si j)) (by rw [z_cl (j := j) (n := zLn si) hj (by omega)]; rfl) dJ1_charAt_3b067_8 ?_
  refine lv_sipush (v := 255) hx hb dJ1_charAt_3b067_9 (by decide) ?_
  refine lv_iand hx hb dJ1_charAt_3b067_12 ?_
  refine lv_i2c hx hb dJ1_charAt_3b067_13 (v := zCh si j) (zCh_c si hsi j hj) ?_
  exact hret _ _ _ _ _ _ (zCh_n si hsi j hj) ⟨rfl, rfl⟩ hH dJ1_charAt_3b067_14
set_option maxRecDepth 100000 in
set_option maxHeartbeats 4000000 in
theorem c_J0_charAt_5068e (l : Launch) (D : va_G) (k : Nat → ClassId) (a : Nat → Nat → Nat) (g : Mem) (si : Nat) (hsi : si < 7) (j : Nat) (hj : j < zLn si) : zI l yJ0_charAt_5068e cJ0_charAt_5068e 2 .char 3 64 D k a [.ref (a 9 si), .int (nI j)] (g) (fun r g' => r = (zCh si j) ∧ g' = (g)) := by
  refine zI_of (own := RJ0) (by decide +kernel) rfl (Nat.le_of_ble_eq_true rfl) ?_
  intro p e s m args below meth c X Q hret hH ls hl
  obtain ⟨hx, hb, hml, hown, hts⟩ := X.1
  have hl : lv_has ls 2 [(0, .ref (a 9 si)), (1, .int (nI j))] := hl
  have hH : zH D k a s (g) s.heap [] := hH
  have hln := zLn_4 si hsi
  refine lv_aload_n hx hb dJ0_charAt_5068e_0 rfl (lv_at hl 0 rfl) ?_
  refine z_callVi X hH (c_J0_isLatin1_aae02 l D k a g (si) hsi) k_J0_492 (vk_recv X.2.2.2.2.2.2.2.1 hsi hH.2) [] rfl rfl hl.1 (Nat.le_of_ble_eq_true rfl) ⟨Nat.le_of_ble_eq_true rfl, Nat.le_of_ble_eq_true rfl⟩ ⟨Nat.le_refl _, Nat.le_refl _⟩ dJ0_charAt_5068e_1 (fun r1 g2 H locs h3 hH => ?_)
  rw [h3.2] at hH
  rw [h3.1]
  refine lv_if_eq (tgt := 16) hx hb dJ0_charAt_5068e_4 (by decide) (fun q => absurd q (by decide)) (fun _ => ?_)
  refine lv_aload_n hx hb dJ0_charAt_5068e_7 rfl (lv_at hl 0 rfl) ?_
  refine vk_getf hx hb (X.2.2.2.2.2.2.2.1.1 (si) hsi).2.2.1 hH.2 hown (hts _ q_570) (fun _ h9 => h9) dJ0_charAt_5068e_8 ?_
  refine lv_iload_n hx hb dJ0_charAt_5068e_11 rfl (lv_at hl 1 rfl) ?_
  refine z_callSi X hH (c_J1_charAt_3b067 l D k a g (si) hsi (j) hj) k_J0_495 [] rfl rfl hl.1 (Nat.le_of_ble_eq_true rfl) ⟨Nat.le_of_ble_eq_true rfl, Nat.le_of_ble_eq_true rfl⟩ ⟨Nat.le_refl _, Nat.le_refl _⟩ dJ0_charAt_5068e_12 (fun r4 g5 H locs h6 hH => ?_)
  rw [h6.2] at hH
  rw [h6.1]
  exact hret _ _ _ _ _ _ (zCh_n si hsi j hj) ⟨rfl, rfl⟩ hH dJ0_charAt_5068e_15
