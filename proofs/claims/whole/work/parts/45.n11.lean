set_option maxRecDepth 100000 in
set_option maxHeartbeats 4000000 in
theorem c_X6_isAt (l : Launch) (D : va_G) (k : Nat → ClassId) (a : Nat → Nat → Nat) (g : Mem) (v u : V) (L A : Nat) (hL : L ≤ 80) (hA : A ≤ L) (e2 : u 2 = nI L) (e3 : u 3 = nI A) (ct : Int32) (hc : ¬ ct = -1) : zI l yX6_isAt cX6_isAt 2 .boolean 0 0 D k a [.ref (a 6 8), .int (ct)] (zM g 0 v u) (fun r g' => r = (if fSign (g 19) L A = ct then 1 else 0) ∧ g' = (zM g 0 v u)) := by
  refine zI_of (own := RX6) (by decide +kernel) rfl (Nat.le_of_ble_eq_true rfl) ?_
  intro p e s m args below meth c X Q hret hH ls hl
  obtain ⟨hx, hb, hml, hown, hts⟩ := X.1
  have hl : lv_has ls 2 [(0, .ref (a 6 8)), (1, .int (ct))] := hl
  have hH : zH D k a s (zM g 0 v u) s.heap [] := hH
  refine lv_aload_n hx hb dX6_isAt_0 rfl (lv_at hl 0 rfl) ?_
  refine gm_X6_at X hH q_581 dX6_isAt_1 ?_
  rw [e3]
  refine lv_aload_n hx hb dX6_isAt_4 rfl (lv_at hl 0 rfl) ?_
  refine gm_X6_typed X hH q_580 dX6_isAt_5 ?_
  rw [e2]
  refine n_icmp_ge (A := A) (B := L) (tgt := 28) hx hb (by omega) (by omega) dX6_isAt_8 (by decide) (fun c1 => ?_) (fun c1 => ?_)
  · refine lv_iconst (v := 0) hx hb dX6_isAt_28 (by decide) ?_
    exact hret _ _ _ _ _ _ rfl ⟨by rw [fSign_e (by omega), if_neg (fun q => hc q.symm)], rfl⟩ hH dX6_isAt_29
  · refine lv_aload_n hx hb dX6_isAt_11 rfl (lv_at hl 0 rfl) ?_
    refine gf_X6_text X hH q_579 dX6_isAt_12 ?_
    refine lv_aload_n hx hb dX6_isAt_15 rfl (lv_at hl 0 rfl) ?_
    refine gm_X6_at X hH q_581 dX6_isAt_16 ?_
    rw [e3]
    refine ar_text X hH (A) (by omega) dX6_isAt_19 ?_
    rw [show (zM g 0 v u) 19 A = (g) 19 A from congrFun (zM_o _ _ _ (by decide) (by decide)) _]
    refine lv_iload_n hx hb dX6_isAt_20 rfl (lv_at hl 1 rfl) ?_
    refine lv_icmp_ne (tgt := 28) hx hb dX6_isAt_21 (by decide) (fun c2 => ?_) (fun c2 => ?_)
    · refine lv_iconst (v := 0) hx hb dX6_isAt_28 (by decide) ?_
      exact hret _ _ _ _ _ _ rfl ⟨by rw [fSign_x (by omega), if_neg c2], rfl⟩ hH dX6_isAt_29
    · refine lv_iconst (v := 1) hx hb dX6_isAt_24 (by decide) ?_
      refine lv_goto (tgt := 29) hx hb dX6_isAt_25 (by decide) ?_
      exact hret _ _ _ _ _ _ rfl ⟨by rw [fSign_x (by omega), if_pos c2], rfl⟩ hH dX6_isAt_29
set_option maxRecDepth 100000 in
set_option maxHeartbeats 4000000 in
theorem c_X6_takes (l : Launch) (D : va_G) (k : Nat → ClassId) (a : Nat → Nat → Nat) (g : Mem) (v u : V) (L A : Nat) (hL : L ≤ 80) (hA : A ≤ L) (e2 : u 2 = nI L) (e3 : u 3 = nI A) (ct : Int32) (hc : ¬ ct = -1) : zI l yX6_takes cX6_takes 3 .boolean 1 21 D k a [.ref (a 6 8), .int (ct)] (zM g 0 v u) (fun r g' => r = (if fSign (g 19) L A = ct then 1 else 0) ∧ g' = (zM g 0 v (upd u 3 (nI (if fSign (g 19) L A = ct then A + 1 else A))))) := by
  refine zI_of (own := RX6) (by decide +kernel) rfl (Nat.le_of_ble_eq_true rfl) ?_
  intro p e s m args below meth c X Q hret hH ls hl
  obtain ⟨hx, hb, hml, hown, hts⟩ := X.1
  have hl : lv_has ls 3 [(0, .ref (a 6 8)), (1, .int (ct))] := hl
  have hH : zH D k a s (zM g 0 v u) s.heap [] := hH
  refine lv_aload_n hx hb dX6_takes_0 rfl (lv_at hl 0 rfl) ?_
  refine lv_iload_n hx hb dX6_takes_1 rfl (lv_at hl 1 rfl) ?_
  refine z_callVi X hH (c_X6_isAt l D k a g v u L A hL hA e2 e3 ct hc) k_X6_105 (rv_X6 X hH) [] rfl rfl hl.1 (Nat.le_of_ble_eq_true rfl) ⟨Nat.le_of_ble_eq_true rfl, Nat.le_of_ble_eq_true rfl⟩ ⟨Nat.le_refl _, Nat.le_refl _⟩ dX6_takes_2 (fun r1 g2 H locs h3 hH => ?_)
  rw [h3.2] at hH
  rw [h3.1]
  refine lv_istore_n (lv' := [(2, .int ((if fSign (g 19) L A = ct then 1 else 0))), (0, .ref (a 6 8)), (1, .int (ct))]) hx hb dX6_takes_5 rfl hl (by decide) rfl (fun ls hl => ?_)
  refine lv_aload_n hx hb dX6_takes_6 rfl (lv_at hl 1 rfl) ?_
  refine lv_dup hx hb dX6_takes_7 rfl ?_
  refine gm_X6_at X hH q_581 dX6_takes_8 ?_
  rw [e3]
  refine lv_iload_n hx hb dX6_takes_11 rfl (lv_at hl 0 rfl) ?_
  refine b_ifeq (P := fSign (g 19) L A = ct) (tgt := 19) hx hb dX6_takes_12 (by decide) (fun c4 => ?_) (fun c4 => ?_)
  · refine lv_iconst (v := 0) hx hb dX6_takes_19 (by decide) ?_
    refine n_iadd (A := A) (B := 0) hx hb (A + 0) (by omega) dX6_takes_20 ?_
    refine pm_X6_at X hH q_581 dX6_takes_21 (fun H locs hH => ?_)
    refine lv_iload_n hx hb dX6_takes_24 rfl (lv_at hl 0 rfl) ?_
    exact hret _ _ _ _ _ _ (z_nb _) ⟨rfl, by rw [if_neg c4]; rfl⟩ hH dX6_takes_25
  · refine lv_iconst (v := 1) hx hb dX6_takes_15 (by decide) ?_
    refine lv_goto (tgt := 20) hx hb dX6_takes_16 (by decide) ?_
    refine n_iadd (A := A) (B := 1) hx hb (A + 1) (by omega) dX6_takes_20 ?_
    refine pm_X6_at X hH q_581 dX6_takes_21 (fun H locs hH => ?_)
    refine lv_iload_n hx hb dX6_takes_24 rfl (lv_at hl 0 rfl) ?_
    exact hret _ _ _ _ _ _ (z_nb _) ⟨rfl, by rw [if_pos c4]⟩ hH dX6_takes_25
set_option maxRecDepth 100000 in
set_option maxHeartbeats 4000000 in
theorem c_X6_isDigit (l : Launch) (D : va_G) (k : Nat → ClassId) (a : Nat → Nat → Nat) (g : Mem) (v u : V) (L A : Nat) (hL : L ≤ 80) (hA : A ≤ L) (e2 : u 2 = nI L) (e3 : u 3 = nI A) (lo hi : Int32) : zI l yX6_isDigit cX6_isDigit 3 .boolean 1 22 D k a [.ref (a 6 8), .int (lo), .int (hi)] (zM g 0 v u) (fun r g' => r = (if A < L ∧ ¬ g 19 A < lo ∧ ¬ hi < g 19 A then 1 else 0) ∧ g' = (zM g 0 v u)) := by
  refine zI_of (own := RX6) (by decide +kernel) rfl (Nat.le_of_ble_eq_true rfl) ?_
  intro p e s m args below meth c X Q hret hH ls hl
  obtain ⟨hx, hb, hml, hown, hts⟩ := X.1
  have hl : lv_has ls 3 [(0, .ref (a 6 8)), (1, .int (lo)), (2, .int (hi))] := hl
  have hH : zH D k a s (zM g 0 v u) s.heap [] := hH
  refine lv_aload_n hx hb dX6_isDigit_0 rfl (lv_at hl 0 rfl) ?_
  refine gm_X6_at X hH q_581 dX6_isDigit_1 ?_
  rw [e3]
  refine lv_aload_n hx hb dX6_isDigit_4 rfl (lv_at hl 0 rfl) ?_
  refine gm_X6_typed X hH q_580 dX6_isDigit_5 ?_
  rw [e2]
  refine n_icmp_ge (A := A) (B := L) (tgt := 32) hx hb (by omega) (by omega) dX6_isDigit_8 (by decide) (fun c1 => ?_) (fun c1 => ?_)
  · refine lv_iconst (v := 0) hx hb dX6_isDigit_32 (by decide) ?_
    exact hret _ _ _ _ _ _ rfl ⟨by rw [if_neg (fun q => absurd q.1 (by omega))], rfl⟩ hH dX6_isDigit_33
  · refine lv_aload_n hx hb dX6_isDigit_11 rfl (lv_at hl 0 rfl) ?_
    refine gf_X6_text X hH q_579 dX6_isDigit_12 ?_
    refine lv_aload_n hx hb dX6_isDigit_15 rfl (lv_at hl 0 rfl) ?_
    refine gm_X6_at X hH q_581 dX6_isDigit_16 ?_
    rw [e3]
    refine ar_text X hH (A) (by omega) dX6_isDigit_19 ?_
    rw [show (zM g 0 v u) 19 A = (g) 19 A from congrFun (zM_o _ _ _ (by decide) (by decide)) _]
    refine lv_iload_n hx hb dX6_isDigit_20 rfl (lv_at hl 1 rfl) ?_
    refine lv_iload_n hx hb dX6_isDigit_21 rfl (lv_at hl 2 rfl) ?_
    refine z_callSi X hH (c_X6_in l D k a (zM g 0 v u) (g 19 A) lo hi) k_X6_17 [] rfl rfl hl.1 (Nat.le_of_ble_eq_true rfl) ⟨Nat.le_of_ble_eq_true rfl, Nat.le_of_ble_eq_true rfl⟩ ⟨Nat.le_refl _, Nat.le_refl _⟩ dX6_isDigit_22 (fun r2 g3 H locs h4 hH => ?_)
    rw [h4.2] at hH
    rw [h4.1]
    refine b_ifeq (P := ¬ (g 19 A) < lo ∧ ¬ hi < (g 19 A)) (tgt := 32) hx hb dX6_isDigit_25 (by decide) (fun c5 => ?_) (fun c5 => ?_)
    · refine lv_iconst (v := 0) hx hb dX6_isDigit_32 (by decide) ?_
      exact hret _ _ _ _ _ _ rfl ⟨by rw [if_neg (fun q => c5 q.2)], rfl⟩ hH dX6_isDigit_33
    · refine lv_iconst (v := 1) hx hb dX6_isDigit_28 (by decide) ?_
      refine lv_goto (tgt := 33) hx hb dX6_isDigit_29 (by decide) ?_
      exact hret _ _ _ _ _ _ rfl ⟨by rw [if_pos ⟨by omega, c5⟩], rfl⟩ hH dX6_isDigit_33
set_option maxRecDepth 100000 in
set_option maxHeartbeats 4000000 in
theorem c_X6_word (l : Launch) (D : va_G) (k : Nat → ClassId) (a : Nat → Nat → Nat) (g : Mem) (v u : V) (L A : Nat) (hL : L ≤ 80) (hA : A ≤ L) (e2 : u 2 = nI L) (e3 : u 3 = nI A) : zI l yX6_word cX6_word 2 .boolean 2 43 D k a [.ref (a 6 8)] (zM g 0 v u) (zWordP g v u L A) := by
  refine zI_of (own := RX6) (by decide +kernel) rfl (Nat.le_of_ble_eq_true rfl) ?_
  intro p e s m args below meth c X Q hret hH ls hl
  obtain ⟨hx, hb, hml, hown, hts⟩ := X.1
  have hl : lv_has ls 2 [(0, .ref (a 6 8))] := hl
  have hH : zH D k a s (zM g 0 v u) s.heap [] := hH
  refine lv_aload_n hx hb dX6_word_0 rfl (lv_at hl 0 rfl) ?_
  refine lv_bipush (v := 107) hx hb dX6_word_1 (by decide) ?_
  refine z_callVi X hH (c_X6_takes l D k a g v u L (A) hL (by omega) e2 e3 107 (by decide)) k_X6_109 (rv_X6 X hH) [] rfl rfl hl.1 (Nat.le_of_ble_eq_true rfl) ⟨Nat.le_of_ble_eq_true rfl, Nat.le_of_ble_eq_true rfl⟩ ⟨Nat.le_refl _, Nat.le_refl _⟩ dX6_word_3 (fun r1 g2 H locs h3 hH => ?_)
  by_cases c4 : fSign (g 19) L A = 107
  · rw [h3.2, if_pos c4] at hH
    rw [h3.1, if_pos c4]
    have c4l : A < L := fSign_lt (by rw [c4]; decide)
    refine lv_if_eq (tgt := 57) hx hb dX6_word_6 (by decide) (fun q => absurd q (by decide)) (fun _ => ?_)
    refine lv_aload_n hx hb dX6_word_9 rfl (lv_at hl 0 rfl) ?_
    refine lv_bipush (v := 101) hx hb dX6_word_10 (by decide) ?_
    refine z_callVi X hH (c_X6_takes l D k a g v (upd u 3 (nI (A + 1))) L (A + 1) hL (by omega) ((zu_n _ _ (by omega)).trans e2) (zu_s _ _ _) 101 (by decide)) k_X6_109 (rv_X6 X hH) [] rfl rfl hl.1 (Nat.le_of_ble_eq_true rfl) ⟨Nat.le_of_ble_eq_true rfl, Nat.le_of_ble_eq_true rfl⟩ ⟨Nat.le_refl _, Nat.le_refl _⟩ dX6_word_12 (fun r5 g6 H locs h7 hH => ?_)
    by_cases c8 : fSign (g 19) L (A + 1) = 101
    · rw [h7.2, if_pos c8] at hH
      rw [h7.1, if_pos c8]
      have c8l : A + 1 < L := fSign_lt (by rw [c8]; decide)
      refine lv_if_eq (tgt := 31) hx hb dX6_word_15 (by decide) (fun q => absurd q (by decide)) (fun _ => ?_)
      refine lv_aload_n hx hb dX6_word_18 rfl (lv_at hl 0 rfl) ?_
      refine lv_bipush (v := 121) hx hb dX6_word_19 (by decide) ?_
      refine z_callVi X hH (c_X6_takes l D k a g v (upd (upd u 3 (nI (A + 1))) 3 (nI (A + 1 + 1))) L (A + 1 + 1) hL (by omega) (((zu_n _ _ (by omega)).trans (zu_n _ _ (by omega))).trans e2) (zu_s _ _ _) 121 (by decide)) k_X6_109 (rv_X6 X hH) [] rfl rfl hl.1 (Nat.le_of_ble_eq_true rfl) ⟨Nat.le_of_ble_eq_true rfl, Nat.le_of_ble_eq_true rfl⟩ ⟨Nat.le_refl _, Nat.le_refl _⟩ dX6_word_21 (fun r9 g10 H locs h11 hH => ?_)
      by_cases c12 : fSign (g 19) L (A + 1 + 1) = 121
      · rw [h11.2, if_pos c12] at hH
        rw [h11.1, if_pos c12]
        have c12l : A + 1 + 1 < L := fSign_lt (by rw [c12]; decide)
        refine lv_if_eq (tgt := 31) hx hb dX6_word_24 (by decide) (fun q => absurd q (by decide)) (fun _ => ?_)
        refine lv_iconst (v := 1) hx hb dX6_word_27 (by decide) ?_
        refine lv_goto (tgt := 32) hx hb dX6_word_28 (by decide) ?_
        refine lv_istore_n (lv' := [(1, .int 1), (0, .ref (a 6 8))]) hx hb dX6_word_32 rfl hl (by decide) rfl (fun ls hl => ?_)
        refine lv_aload_n hx hb dX6_word_33 rfl (lv_at hl 1 rfl) ?_
        refine lv_iload_n hx hb dX6_word_34 rfl (lv_at hl 0 rfl) ?_
        refine lv_if_eq (tgt := 51) hx hb dX6_word_35 (by decide) (fun q => absurd q (by decide)) (fun _ => ?_)
        refine lv_aload_n hx hb dX6_word_38 rfl (lv_at hl 1 rfl) ?_
        refine lv_bipush (v := 115) hx hb dX6_word_39 (by decide) ?_
        refine z_callVi X hH (c_X6_takes l D k a g v (upd (upd (upd u 3 (nI (A + 1))) 3 (nI (A + 1 + 1))) 3 (nI (A + 1 + 1 + 1))) L (A + 1 + 1 + 1) hL (by omega) (((zu_n _ _ (by omega)).trans ((zu_n _ _ (by omega)).trans (zu_n _ _ (by omega)))).trans e2) (zu_s _ _ _) 115 (by decide)) k_X6_109 (rv_X6 X hH) [.ref (a 6 8)] rfl rfl hl.1 (Nat.le_of_ble_eq_true rfl) ⟨Nat.le_of_ble_eq_true rfl, Nat.le_of_ble_eq_true rfl⟩ ⟨Nat.le_refl _, Nat.le_refl _⟩ dX6_word_41 (fun r13 g14 H locs h15 hH => ?_)
        by_cases c16 : fSign (g 19) L (A + 1 + 1 + 1) = 115
        · rw [h15.2, if_pos c16] at hH
          rw [h15.1, if_pos c16]
          have c16l : A + 1 + 1 + 1 < L := fSign_lt (by rw [c16]; decide)
          refine lv_if_eq (tgt := 51) hx hb dX6_word_44 (by decide) (fun q => absurd q (by decide)) (fun _ => ?_)
          refine lv_iconst (v := 4) hx hb dX6_word_47 (by decide) ?_
          refine lv_goto (tgt := 52) hx hb dX6_word_48 (by decide) ?_
          refine pm_X6_order X hH q_582 dX6_word_52 (fun H locs hH => ?_)
          refine lv_iload_n hx hb dX6_word_55 rfl (lv_at hl 0 rfl) ?_
          exact hret _ _ _ _ _ _ rfl ⟨by rw [(show fWord (g 19) L A = (4, A + 1 + 1 + 1 + 1) from by rw [fWord_m, if_pos c4, fKey, zCs_0, fPass_t c4, fPass_t c8, fPass_t c12, fPass_e, if_pos fPt, zCs_1, fPass_t c16, fPass_e, if_pos fPt])]; rfl, _, rfl, (fun j h3 h4 => ((zu_n _ _ (by omega)).trans ((zu_n _ _ (by omega)).trans ((zu_n _ _ (by omega)).trans ((zu_n _ _ (by omega)).trans (zu_n _ _ (by omega))))))), by rw [(show fWord (g 19) L A = (4, A + 1 + 1 + 1 + 1) from by rw [fWord_m, if_pos c4, fKey, zCs_0, fPass_t c4, fPass_t c8, fPass_t c12, fPass_e, if_pos fPt, zCs_1, fPass_t c16, fPass_e, if_pos fPt])]; exact ((zu_n _ _ (by omega)).trans (zu_s _ _ _)), by rw [(show fWord (g 19) L A = (4, A + 1 + 1 + 1 + 1) from by rw [fWord_m, if_pos c4, fKey, zCs_0, fPass_t c4, fPass_t c8, fPass_t c12, fPass_e, if_pos fPt, zCs_1, fPass_t c16, fPass_e, if_pos fPt])]; exact fun _ => (zu_s _ _ _)⟩ hH dX6_word_56
        · rw [h15.2, if_neg c16] at hH
          rw [h15.1, if_neg c16]
          refine lv_if_eq (tgt := 51) hx hb dX6_word_44 (by decide) (fun _ => ?_) (fun q => absurd (by decide) q)
          refine lv_iconst (v := 0) hx hb dX6_word_51 (by decide) ?_
          refine pm_X6_order X hH q_582 dX6_word_52 (fun H locs hH => ?_)
          refine lv_iload_n hx hb dX6_word_55 rfl (lv_at hl 0 rfl) ?_
          exact hret _ _ _ _ _ _ rfl ⟨by rw [(show fWord (g 19) L A = (0, A + 1 + 1 + 1) from by rw [fWord_m, if_pos c4, fKey, zCs_0, fPass_t c4, fPass_t c8, fPass_t c12, fPass_e, if_pos fPt, zCs_1, fPass_f c16, if_neg fPf])]; rfl, _, rfl, (fun j h3 h4 => ((zu_n _ _ (by omega)).trans ((zu_n _ _ (by omega)).trans ((zu_n _ _ (by omega)).trans ((zu_n _ _ (by omega)).trans (zu_n _ _ (by omega))))))), by rw [(show fWord (g 19) L A = (0, A + 1 + 1 + 1) from by rw [fWord_m, if_pos c4, fKey, zCs_0, fPass_t c4, fPass_t c8, fPass_t c12, fPass_e, if_pos fPt, zCs_1, fPass_f c16, if_neg fPf])]; exact ((zu_n _ _ (by omega)).trans (zu_s _ _ _)), by rw [(show fWord (g 19) L A = (0, A + 1 + 1 + 1) from by rw [fWord_m, if_pos c4, fKey, zCs_0, fPass_t c4, fPass_t c8, fPass_t c12, fPass_e, if_pos fPt, zCs_1, fPass_f c16, if_neg fPf])]; exact fun _ => (zu_s _ _ _)⟩ hH dX6_word_56
      · rw [h11.2, if_neg c12] at hH
        rw [h11.1, if_neg c12]
        refine lv_if_eq (tgt := 31) hx hb dX6_word_24 (by decide) (fun _ => ?_) (fun q => absurd (by decide) q)
        refine lv_iconst (v := 0) hx hb dX6_word_31 (by decide) ?_
        refine lv_istore_n (lv' := [(1, .int 0), (0, .ref (a 6 8))]) hx hb dX6_word_32 rfl hl (by decide) rfl (fun ls hl => ?_)
        refine lv_aload_n hx hb dX6_word_33 rfl (lv_at hl 1 rfl) ?_
        refine lv_iload_n hx hb dX6_word_34 rfl (lv_at hl 0 rfl) ?_
        refine lv_if_eq (tgt := 51) hx hb dX6_word_35 (by decide) (fun _ => ?_) (fun q => absurd (by decide) q)
        refine lv_iconst (v := 0) hx hb dX6_word_51 (by decide) ?_
        refine pm_X6_order X hH q_582 dX6_word_52 (fun H locs hH => ?_)
        refine lv_iload_n hx hb dX6_word_55 rfl (lv_at hl 0 rfl) ?_
        exact hret _ _ _ _ _ _ rfl ⟨by rw [(show fWord (g 19) L A = (-1, A + 1 + 1) from by rw [fWord_m, if_pos c4, fKey, zCs_0, fPass_t c4, fPass_t c8, fPass_f c12, if_neg fPf])]; rfl, _, rfl, (fun j h3 h4 => ((zu_n _ _ (by omega)).trans ((zu_n _ _ (by omega)).trans ((zu_n _ _ (by omega)).trans (zu_n _ _ (by omega)))))), by rw [(show fWord (g 19) L A = (-1, A + 1 + 1) from by rw [fWord_m, if_pos c4, fKey, zCs_0, fPass_t c4, fPass_t c8, fPass_f c12, if_neg fPf])]; exact ((zu_n _ _ (by omega)).trans (zu_s _ _ _)), by rw [(show fWord (g 19) L A = (-1, A + 1 + 1) from by rw [fWord_m, if_pos c4, fKey, zCs_0, fPass_t c4, fPass_t c8, fPass_f c12, if_neg fPf])]; exact fun q => absurd rfl q⟩ hH dX6_word_56
    · rw [h7.2, if_neg c8] at hH
      rw [h7.1, if_neg c8]
      refine lv_if_eq (tgt := 31) hx hb dX6_word_15 (by decide) (fun _ => ?_) (fun q => absurd (by decide) q)
      refine lv_iconst (v := 0) hx hb dX6_word_31 (by decide) ?_
      refine lv_istore_n (lv' := [(1, .int 0), (0, .ref (a 6 8))]) hx hb dX6_word_32 rfl hl (by decide) rfl (fun ls hl => ?_)
      refine lv_aload_n hx hb dX6_word_33 rfl (lv_at hl 1 rfl) ?_
      refine lv_iload_n hx hb dX6_word_34 rfl (lv_at hl 0 rfl) ?_
      refine lv_if_eq (tgt := 51) hx hb dX6_word_35 (by decide) (fun _ => ?_) (fun q => absurd (by decide) q)
      refine lv_iconst (v := 0) hx hb dX6_word_51 (by decide) ?_
      refine pm_X6_order X hH q_582 dX6_word_52 (fun H locs hH => ?_)
      refine lv_iload_n hx hb dX6_word_55 rfl (lv_at hl 0 rfl) ?_
      exact hret _ _ _ _ _ _ rfl ⟨by rw [(show fWord (g 19) L A = (-1, A + 1) from by rw [fWord_m, if_pos c4, fKey, zCs_0, fPass_t c4, fPass_f c8, if_neg fPf])]; rfl, _, rfl, (fun j h3 h4 => ((zu_n _ _ (by omega)).trans ((zu_n _ _ (by omega)).trans (zu_n _ _ (by omega))))), by rw [(show fWord (g 19) L A = (-1, A + 1) from by rw [fWord_m, if_pos c4, fKey, zCs_0, fPass_t c4, fPass_f c8, if_neg fPf])]; exact ((zu_n _ _ (by omega)).trans (zu_s _ _ _)), by rw [(show fWord (g 19) L A = (-1, A + 1) from by rw [fWord_m, if_pos c4, fKey, zCs_0, fPass_t c4, fPass_f c8, if_neg fPf])]; exact fun q => absurd rfl q⟩ hH dX6_word_56
  · rw [h3.2, if_neg c4] at hH
    rw [h3.1, if_neg c4]
    refine lv_if_eq (tgt := 57) hx hb dX6_word_6 (by decide) (fun _ => ?_) (fun q => absurd (by decide) q)
    refine lv_aload_n hx hb dX6_word_57 rfl (lv_at hl 0 rfl) ?_
    refine lv_bipush (v := 115) hx hb dX6_word_58 (by decide) ?_
    refine z_callVi X hH (c_X6_takes l D k a g v (upd u 3 (nI A)) L (A) hL (by omega) ((zu_n _ _ (by omega)).trans e2) (zu_s _ _ _) 115 (by decide)) k_X6_109 (rv_X6 X hH) [] rfl rfl hl.1 (Nat.le_of_ble_eq_true rfl) ⟨Nat.le_of_ble_eq_true rfl, Nat.le_of_ble_eq_true rfl⟩ ⟨Nat.le_refl _, Nat.le_refl _⟩ dX6_word_60 (fun r17 g18 H locs h19 hH => ?_)
    by_cases c20 : fSign (g 19) L A = 115
    · rw [h19.2, if_pos c20] at hH
      rw [h19.1, if_pos c20]
      have c20l : A < L := fSign_lt (by rw [c20]; decide)
      refine lv_if_eq (tgt := 104) hx hb dX6_word_63 (by decide) (fun q => absurd q (by decide)) (fun _ => ?_)
      refine lv_aload_n hx hb dX6_word_66 rfl (lv_at hl 0 rfl) ?_
      refine lv_iconst (v := 1) hx hb dX6_word_67 (by decide) ?_
      refine pm_X6_order X hH q_582 dX6_word_68 (fun H locs hH => ?_)
      refine lv_aload_n hx hb dX6_word_71 rfl (lv_at hl 0 rfl) ?_
      refine lv_bipush (v := 112) hx hb dX6_word_72 (by decide) ?_
      refine z_callVi X hH (c_X6_takes l D k a g v (upd (upd (upd u 3 (nI A)) 3 (nI (A + 1))) 4 1) L (A + 1) hL (by omega) (((zu_n _ _ (by omega)).trans ((zu_n _ _ (by omega)).trans (zu_n _ _ (by omega)))).trans e2) ((zu_n _ _ (by omega)).trans (zu_s _ _ _)) 112 (by decide)) k_X6_109 (rv_X6 X hH) [] rfl rfl hl.1 (Nat.le_of_ble_eq_true rfl) ⟨Nat.le_of_ble_eq_true rfl, Nat.le_of_ble_eq_true rfl⟩ ⟨Nat.le_refl _, Nat.le_refl _⟩ dX6_word_74 (fun r21 g22 H locs h23 hH => ?_)
      by_cases c24 : fSign (g 19) L (A + 1) = 112
      · rw [h23.2, if_pos c24] at hH
        rw [h23.1, if_pos c24]
        have c24l : A + 1 < L := fSign_lt (by rw [c24]; decide)
        refine lv_if_eq (tgt := 102) hx hb dX6_word_77 (by decide) (fun q => absurd q (by decide)) (fun _ => ?_)
        refine lv_aload_n hx hb dX6_word_80 rfl (lv_at hl 0 rfl) ?_
        refine lv_bipush (v := 97) hx hb dX6_word_81 (by decide) ?_
        refine z_callVi X hH (c_X6_takes l D k a g v (upd (upd (upd (upd u 3 (nI A)) 3 (nI (A + 1))) 4 1) 3 (nI (A + 1 + 1))) L (A + 1 + 1) hL (by omega) (((zu_n _ _ (by omega)).trans ((zu_n _ _ (by omega)).trans ((zu_n _ _ (by omega)).trans (zu_n _ _ (by omega))))).trans e2) (zu_s _ _ _) 97 (by decide)) k_X6_109 (rv_X6 X hH) [] rfl rfl hl.1 (Nat.le_of_ble_eq_true rfl) ⟨Nat.le_of_ble_eq_true rfl, Nat.le_of_ble_eq_true rfl⟩ ⟨Nat.le_refl _, Nat.le_refl _⟩ dX6_word_83 (fun r25 g26 H locs h27 hH => ?_)
        by_cases c28 : fSign (g 19) L (A + 1 + 1) = 97
        · rw [h27.2, if_pos c28] at hH
          rw [h27.1, if_pos c28]
          have c28l : A + 1 + 1 < L := fSign_lt (by rw [c28]; decide)
          refine lv_if_eq (tgt := 102) hx hb dX6_word_86 (by decide) (fun q => absurd q (by decide)) (fun _ => ?_)
          refine lv_aload_n hx hb dX6_word_89 rfl (lv_at hl 0 rfl) ?_
          refine lv_bipush (v := 110) hx hb dX6_word_90 (by decide) ?_
          refine z_callVi X hH (c_X6_takes l D k a g v (upd (upd (upd (upd (upd u 3 (nI A)) 3 (nI (A + 1))) 4 1) 3 (nI (A + 1 + 1))) 3 (nI (A + 1 + 1 + 1))) L (A + 1 + 1 + 1) hL (by omega) (((zu_n _ _ (by omega)).trans ((zu_n _ _ (by omega)).trans ((zu_n _ _ (by omega)).trans ((zu_n _ _ (by omega)).trans (zu_n _ _ (by omega)))))).trans e2) (zu_s _ _ _) 110 (by decide)) k_X6_109 (rv_X6 X hH) [] rfl rfl hl.1 (Nat.le_of_ble_eq_true rfl) ⟨Nat.le_of_ble_eq_true rfl, Nat.le_of_ble_eq_true rfl⟩ ⟨Nat.le_refl _, Nat.le_refl _⟩ dX6_word_92 (fun r29 g30 H locs h31 hH => ?_)
          by_cases c32 : fSign (g 19) L (A + 1 + 1 + 1) = 110
          · rw [h31.2, if_pos c32] at hH
            rw [h31.1, if_pos c32]
            have c32l : A + 1 + 1 + 1 < L := fSign_lt (by rw [c32]; decide)
            refine lv_if_eq (tgt := 102) hx hb dX6_word_95 (by decide) (fun q => absurd q (by decide)) (fun _ => ?_)
            refine lv_iconst (v := 1) hx hb dX6_word_98 (by decide) ?_
            refine lv_goto (tgt := 103) hx hb dX6_word_99 (by decide) ?_
            exact hret _ _ _ _ _ _ rfl ⟨by rw [(show fWord (g 19) L A = (1, A + 1 + 1 + 1 + 1) from by rw [fWord_m, if_neg c4, if_pos c20, fWd, zCs_2, fPass_t c20, fPass_t c24, fPass_t c28, fPass_t c32, fPass_e, if_pos fPt])]; rfl, _, rfl, (fun j h3 h4 => ((zu_n _ _ (by omega)).trans ((zu_n _ _ (by omega)).trans ((zu_n _ _ (by omega)).trans ((zu_n _ _ (by omega)).trans ((zu_n _ _ (by omega)).trans (zu_n _ _ (by omega)))))))), by rw [(show fWord (g 19) L A = (1, A + 1 + 1 + 1 + 1) from by rw [fWord_m, if_neg c4, if_pos c20, fWd, zCs_2, fPass_t c20, fPass_t c24, fPass_t c28, fPass_t c32, fPass_e, if_pos fPt])]; exact (zu_s _ _ _), by rw [(show fWord (g 19) L A = (1, A + 1 + 1 + 1 + 1) from by rw [fWord_m, if_neg c4, if_pos c20, fWd, zCs_2, fPass_t c20, fPass_t c24, fPass_t c28, fPass_t c32, fPass_e, if_pos fPt])]; exact fun _ => ((zu_n _ _ (by omega)).trans ((zu_n _ _ (by omega)).trans ((zu_n _ _ (by omega)).trans (zu_s _ _ _))))⟩ hH dX6_word_103
          · rw [h31.2, if_neg c32] at hH
            rw [h31.1, if_neg c32]
            refine lv_if_eq (tgt := 102) hx hb dX6_word_95 (by decide) (fun _ => ?_) (fun q => absurd (by decide) q)
            refine lv_iconst (v := 0) hx hb dX6_word_102 (by decide) ?_
            exact hret _ _ _ _ _ _ rfl ⟨by rw [(show fWord (g 19) L A = (-1, A + 1 + 1 + 1) from by rw [fWord_m, if_neg c4, if_pos c20, fWd, zCs_2, fPass_t c20, fPass_t c24, fPass_t c28, fPass_f c32, if_neg fPf])]; rfl, _, rfl, (fun j h3 h4 => ((zu_n _ _ (by omega)).trans ((zu_n _ _ (by omega)).trans ((zu_n _ _ (by omega)).trans ((zu_n _ _ (by omega)).trans ((zu_n _ _ (by omega)).trans (zu_n _ _ (by omega)))))))), by rw [(show fWord (g 19) L A = (-1, A + 1 + 1 + 1) from by rw [fWord_m, if_neg c4, if_pos c20, fWd, zCs_2, fPass_t c20, fPass_t c24, fPass_t c28, fPass_f c32, if_neg fPf])]; exact (zu_s _ _ _), by rw [(show fWord (g 19) L A = (-1, A + 1 + 1 + 1) from by rw [fWord_m, if_neg c4, if_pos c20, fWd, zCs_2, fPass_t c20, fPass_t c24, fPass_t c28, fPass_f c32, if_neg fPf])]; exact fun q => absurd rfl q⟩ hH dX6_word_103
        · rw [h27.2, if_neg c28] at hH
          rw [h27.1, if_neg c28]
          refine lv_if_eq (tgt := 102) hx hb dX6_word_86 (by decide) (fun _ => ?_) (fun q => absurd (by decide) q)
          refine lv_iconst (v := 0) hx hb dX6_word_102 (by decide) ?_
          exact hret _ _ _ _ _ _ rfl ⟨by rw [(show fWord (g 19) L A = (-1, A + 1 + 1) from by rw [fWord_m, if_neg c4, if_pos c20, fWd, zCs_2, fPass_t c20, fPass_t c24, fPass_f c28, if_neg fPf])]; rfl, _, rfl, (fun j h3 h4 => ((zu_n _ _ (by omega)).trans ((zu_n _ _ (by omega)).trans ((zu_n _ _ (by omega)).trans ((zu_n _ _ (by omega)).trans (zu_n _ _ (by omega))))))), by rw [(show fWord (g 19) L A = (-1, A + 1 + 1) from by rw [fWord_m, if_neg c4, if_pos c20, fWd, zCs_2, fPass_t c20, fPass_t c24, fPass_f c28, if_neg fPf])]; exact (zu_s _ _ _), by rw [(show fWord (g 19) L A = (-1, A + 1 + 1) from by rw [fWord_m, if_neg c4, if_pos c20, fWd, zCs_2, fPass_t c20, fPass_t c24, fPass_f c28, if_neg fPf])]; exact fun q => absurd rfl q⟩ hH dX6_word_103
      · rw [h23.2, if_neg c24] at hH
        rw [h23.1, if_neg c24]
        refine lv_if_eq (tgt := 102) hx hb dX6_word_77 (by decide) (fun _ => ?_) (fun q => absurd (by decide) q)
        refine lv_iconst (v := 0) hx hb dX6_word_102 (by decide) ?_
        exact hret _ _ _ _ _ _ rfl ⟨by rw [(show fWord (g 19) L A = (-1, A + 1) from by rw [fWord_m, if_neg c4, if_pos c20, fWd, zCs_2, fPass_t c20, fPass_f c24, if_neg fPf])]; rfl, _, rfl, (fun j h3 h4 => ((zu_n _ _ (by omega)).trans ((zu_n _ _ (by omega)).trans ((zu_n _ _ (by omega)).trans (zu_n _ _ (by omega)))))), by rw [(show fWord (g 19) L A = (-1, A + 1) from by rw [fWord_m, if_neg c4, if_pos c20, fWd, zCs_2, fPass_t c20, fPass_f c24, if_neg fPf])]; exact (zu_s _ _ _), by rw [(show fWord (g 19) L A = (-1, A + 1) from by rw [fWord_m, if_neg c4, if_pos c20, fWd, zCs_2, fPass_t c20, fPass_f c24, if_neg fPf])]; exact fun q => absurd rfl q⟩ hH dX6_word_103
    · rw [h19.2, if_neg c20] at hH
      rw [h19.1, if_neg c20]
      refine lv_if_eq (tgt := 104) hx hb dX6_word_63 (by decide) (fun _ => ?_) (fun q => absurd (by decide) q)
      refine lv_aload_n hx hb dX6_word_104 rfl (lv_at hl 0 rfl) ?_
      refine lv_bipush (v := 116) hx hb dX6_word_105 (by decide) ?_
      refine z_callVi X hH (c_X6_takes l D k a g v (upd (upd u 3 (nI A)) 3 (nI A)) L (A) hL (by omega) (((zu_n _ _ (by omega)).trans (zu_n _ _ (by omega))).trans e2) (zu_s _ _ _) 116 (by decide)) k_X6_109 (rv_X6 X hH) [] rfl rfl hl.1 (Nat.le_of_ble_eq_true rfl) ⟨Nat.le_of_ble_eq_true rfl, Nat.le_of_ble_eq_true rfl⟩ ⟨Nat.le_refl _, Nat.le_refl _⟩ dX6_word_107 (fun r33 g34 H locs h35 hH => ?_)
      by_cases c36 : fSign (g 19) L A = 116
      · rw [h35.2, if_pos c36] at hH
        rw [h35.1, if_pos c36]
        have c36l : A < L := fSign_lt (by rw [c36]; decide)
        refine lv_if_eq (tgt := 142) hx hb dX6_word_110 (by decide) (fun q => absurd q (by decide)) (fun _ => ?_)
        refine lv_aload_n hx hb dX6_word_113 rfl (lv_at hl 0 rfl) ?_
        refine lv_iconst (v := 2) hx hb dX6_word_114 (by decide) ?_
        refine pm_X6_order X hH q_582 dX6_word_115 (fun H locs hH => ?_)
        refine lv_aload_n hx hb dX6_word_118 rfl (lv_at hl 0 rfl) ?_
        refine lv_bipush (v := 111) hx hb dX6_word_119 (by decide) ?_
        refine z_callVi X hH (c_X6_takes l D k a g v (upd (upd (upd (upd u 3 (nI A)) 3 (nI A)) 3 (nI (A + 1))) 4 2) L (A + 1) hL (by omega) (((zu_n _ _ (by omega)).trans ((zu_n _ _ (by omega)).trans ((zu_n _ _ (by omega)).trans (zu_n _ _ (by omega))))).trans e2) ((zu_n _ _ (by omega)).trans (zu_s _ _ _)) 111 (by decide)) k_X6_109 (rv_X6 X hH) [] rfl rfl hl.1 (Nat.le_of_ble_eq_true rfl) ⟨Nat.le_of_ble_eq_true rfl, Nat.le_of_ble_eq_true rfl⟩ ⟨Nat.le_refl _, Nat.le_refl _⟩ dX6_word_121 (fun r37 g38 H locs h39 hH => ?_)
        by_cases c40 : fSign (g 19) L (A + 1) = 111
        · rw [h39.2, if_pos c40] at hH
          rw [h39.1, if_pos c40]
          have c40l : A + 1 < L := fSign_lt (by rw [c40]; decide)
          refine lv_if_eq (tgt := 140) hx hb dX6_word_124 (by decide) (fun q => absurd q (by decide)) (fun _ => ?_)
          refine lv_aload_n hx hb dX6_word_127 rfl (lv_at hl 0 rfl) ?_
          refine lv_bipush (v := 112) hx hb dX6_word_128 (by decide) ?_
          refine z_callVi X hH (c_X6_takes l D k a g v (upd (upd (upd (upd (upd u 3 (nI A)) 3 (nI A)) 3 (nI (A + 1))) 4 2) 3 (nI (A + 1 + 1))) L (A + 1 + 1) hL (by omega) (((zu_n _ _ (by omega)).trans ((zu_n _ _ (by omega)).trans ((zu_n _ _ (by omega)).trans ((zu_n _ _ (by omega)).trans (zu_n _ _ (by omega)))))).trans e2) (zu_s _ _ _) 112 (by decide)) k_X6_109 (rv_X6 X hH) [] rfl rfl hl.1 (Nat.le_of_ble_eq_true rfl) ⟨Nat.le_of_ble_eq_true rfl, Nat.le_of_ble_eq_true rfl⟩ ⟨Nat.le_refl _, Nat.le_refl _⟩ dX6_word_130 (fun r41 g42 H locs h43 hH => ?_)
          by_cases c44 : fSign (g 19) L (A + 1 + 1) = 112
          · rw [h43.2, if_pos c44] at hH
            rw [h43.1, if_pos c44]
            have c44l : A + 1 + 1 < L := fSign_lt (by rw [c44]; decide)
            refine lv_if_eq (tgt := 140) hx hb dX6_word_133 (by decide) (fun q => absurd q (by decide)) (fun _ => ?_)
            refine lv_iconst (v := 1) hx hb dX6_word_136 (by decide) ?_
            refine lv_goto (tgt := 141) hx hb dX6_word_137 (by decide) ?_
            exact hret _ _ _ _ _ _ rfl ⟨by rw [(show fWord (g 19) L A = (2, A + 1 + 1 + 1) from by rw [fWord_m, if_neg c4, if_neg c20, if_pos c36, fWd, zCs_3, fPass_t c36, fPass_t c40, fPass_t c44, fPass_e, if_pos fPt])]; rfl, _, rfl, (fun j h3 h4 => ((zu_n _ _ (by omega)).trans ((zu_n _ _ (by omega)).trans ((zu_n _ _ (by omega)).trans ((zu_n _ _ (by omega)).trans ((zu_n _ _ (by omega)).trans (zu_n _ _ (by omega)))))))), by rw [(show fWord (g 19) L A = (2, A + 1 + 1 + 1) from by rw [fWord_m, if_neg c4, if_neg c20, if_pos c36, fWd, zCs_3, fPass_t c36, fPass_t c40, fPass_t c44, fPass_e, if_pos fPt])]; exact (zu_s _ _ _), by rw [(show fWord (g 19) L A = (2, A + 1 + 1 + 1) from by rw [fWord_m, if_neg c4, if_neg c20, if_pos c36, fWd, zCs_3, fPass_t c36, fPass_t c40, fPass_t c44, fPass_e, if_pos fPt])]; exact fun _ => ((zu_n _ _ (by omega)).trans ((zu_n _ _ (by omega)).trans (zu_s _ _ _)))⟩ hH dX6_word_141
          · rw [h43.2, if_neg c44] at hH
            rw [h43.1, if_neg c44]
            refine lv_if_eq (tgt := 140) hx hb dX6_word_133 (by decide) (fun _ => ?_) (fun q => absurd (by decide) q)
            refine lv_iconst (v := 0) hx hb dX6_word_140 (by decide) ?_
            exact hret _ _ _ _ _ _ rfl ⟨by rw [(show fWord (g 19) L A = (-1, A + 1 + 1) from by rw [fWord_m, if_neg c4, if_neg c20, if_pos c36, fWd, zCs_3, fPass_t c36, fPass_t c40, fPass_f c44, if_neg fPf])]; rfl, _, rfl, (fun j h3 h4 => ((zu_n _ _ (by omega)).trans ((zu_n _ _ (by omega)).trans ((zu_n _ _ (by omega)).trans ((zu_n _ _ (by omega)).trans ((zu_n _ _ (by omega)).trans (zu_n _ _ (by omega)))))))), by rw [(show fWord (g 19) L A = (-1, A + 1 + 1) from by rw [fWord_m, if_neg c4, if_neg c20, if_pos c36, fWd, zCs_3, fPass_t c36, fPass_t c40, fPass_f c44, if_neg fPf])]; exact (zu_s _ _ _), by rw [(show fWord (g 19) L A = (-1, A + 1 + 1) from by rw [fWord_m, if_neg c4, if_neg c20, if_pos c36, fWd, zCs_3, fPass_t c36, fPass_t c40, fPass_f c44, if_neg fPf])]; exact fun q => absurd rfl q⟩ hH dX6_word_141
        · rw [h39.2, if_neg c40] at hH
          rw [h39.1, if_neg c40]
          refine lv_if_eq (tgt := 140) hx hb dX6_word_124 (by decide) (fun _ => ?_) (fun q => absurd (by decide) q)
          refine lv_iconst (v := 0) hx hb dX6_word_140 (by decide) ?_
          exact hret _ _ _ _ _ _ rfl ⟨by rw [(show fWord (g 19) L A = (-1, A + 1) from by rw [fWord_m, if_neg c4, if_neg c20, if_pos c36, fWd, zCs_3, fPass_t c36, fPass_f c40, if_neg fPf])]; rfl, _, rfl, (fun j h3 h4 => ((zu_n _ _ (by omega)).trans ((zu_n _ _ (by omega)).trans ((zu_n _ _ (by omega)).trans ((zu_n _ _ (by omega)).trans (zu_n _ _ (by omega))))))), by rw [(show fWord (g 19) L A = (-1, A + 1) from by rw [fWord_m, if_neg c4, if_neg c20, if_pos c36, fWd, zCs_3, fPass_t c36, fPass_f c40, if_neg fPf])]; exact (zu_s _ _ _), by rw [(show fWord (g 19) L A = (-1, A + 1) from by rw [fWord_m, if_neg c4, if_neg c20, if_pos c36, fWd, zCs_3, fPass_t c36, fPass_f c40, if_neg fPf])]; exact fun q => absurd rfl q⟩ hH dX6_word_141
      · rw [h35.2, if_neg c36] at hH
        rw [h35.1, if_neg c36]
        refine lv_if_eq (tgt := 142) hx hb dX6_word_110 (by decide) (fun _ => ?_) (fun q => absurd (by decide) q)
        refine lv_aload_n hx hb dX6_word_142 rfl (lv_at hl 0 rfl) ?_
        refine lv_iconst (v := 3) hx hb dX6_word_143 (by decide) ?_
        refine pm_X6_order X hH q_582 dX6_word_144 (fun H locs hH => ?_)
        refine lv_aload_n hx hb dX6_word_147 rfl (lv_at hl 0 rfl) ?_
        refine lv_bipush (v := 114) hx hb dX6_word_148 (by decide) ?_
        refine z_callVi X hH (c_X6_takes l D k a g v (upd (upd (upd (upd u 3 (nI A)) 3 (nI A)) 3 (nI A)) 4 3) L (A) hL (by omega) (((zu_n _ _ (by omega)).trans ((zu_n _ _ (by omega)).trans ((zu_n _ _ (by omega)).trans (zu_n _ _ (by omega))))).trans e2) ((zu_n _ _ (by omega)).trans (zu_s _ _ _)) 114 (by decide)) k_X6_109 (rv_X6 X hH) [] rfl rfl hl.1 (Nat.le_of_ble_eq_true rfl) ⟨Nat.le_of_ble_eq_true rfl, Nat.le_of_ble_eq_true rfl⟩ ⟨Nat.le_refl _, Nat.le_refl _⟩ dX6_word_150 (fun r45 g46 H locs h47 hH => ?_)
        by_cases c48 : fSign (g 19) L A = 114
        · rw [h47.2, if_pos c48] at hH
          rw [h47.1, if_pos c48]
          have c48l : A < L := fSign_lt (by rw [c48]; decide)
          refine lv_if_eq (tgt := 187) hx hb dX6_word_153 (by decide) (fun q => absurd q (by decide)) (fun _ => ?_)
          refine lv_aload_n hx hb dX6_word_156 rfl (lv_at hl 0 rfl) ?_
          refine lv_bipush (v := 111) hx hb dX6_word_157 (by decide) ?_
          refine z_callVi X hH (c_X6_takes l D k a g v (upd (upd (upd (upd (upd u 3 (nI A)) 3 (nI A)) 3 (nI A)) 4 3) 3 (nI (A + 1))) L (A + 1) hL (by omega) (((zu_n _ _ (by omega)).trans ((zu_n _ _ (by omega)).trans ((zu_n _ _ (by omega)).trans ((zu_n _ _ (by omega)).trans (zu_n _ _ (by omega)))))).trans e2) (zu_s _ _ _) 111 (by decide)) k_X6_109 (rv_X6 X hH) [] rfl rfl hl.1 (Nat.le_of_ble_eq_true rfl) ⟨Nat.le_of_ble_eq_true rfl, Nat.le_of_ble_eq_true rfl⟩ ⟨Nat.le_refl _, Nat.le_refl _⟩ dX6_word_159 (fun r49 g50 H locs h51 hH => ?_)
          by_cases c52 : fSign (g 19) L (A + 1) = 111
          · rw [h51.2, if_pos c52] at hH
            rw [h51.1, if_pos c52]
            have c52l : A + 1 < L := fSign_lt (by rw [c52]; decide)
            refine lv_if_eq (tgt := 187) hx hb dX6_word_162 (by decide) (fun q => absurd q (by decide)) (fun _ => ?_)
            refine lv_aload_n hx hb dX6_word_165 rfl (lv_at hl 0 rfl) ?_
            refine lv_bipush (v := 119) hx hb dX6_word_166 (by decide) ?_
            refine z_callVi X hH (c_X6_takes l D k a g v (upd (upd (upd (upd (upd (upd u 3 (nI A)) 3 (nI A)) 3 (nI A)) 4 3) 3 (nI (A + 1))) 3 (nI (A + 1 + 1))) L (A + 1 + 1) hL (by omega) (((zu_n _ _ (by omega)).trans ((zu_n _ _ (by omega)).trans ((zu_n _ _ (by omega)).trans ((zu_n _ _ (by omega)).trans ((zu_n _ _ (by omega)).trans (zu_n _ _ (by omega))))))).trans e2) (zu_s _ _ _) 119 (by decide)) k_X6_109 (rv_X6 X hH) [] rfl rfl hl.1 (Nat.le_of_ble_eq_true rfl) ⟨Nat.le_of_ble_eq_true rfl, Nat.le_of_ble_eq_true rfl⟩ ⟨Nat.le_refl _, Nat.le_refl _⟩ dX6_word_168 (fun r53 g54 H locs h55 hH => ?_)
            by_cases c56 : fSign (g 19) L (A + 1 + 1) = 119
            · rw [h55.2, if_pos c56] at hH
              rw [h55.1, if_pos c56]
              have c56l : A + 1 + 1 < L := fSign_lt (by rw [c56]; decide)
              refine lv_if_eq (tgt := 187) hx hb dX6_word_171 (by decide) (fun q => absurd q (by decide)) (fun _ => ?_)
              refine lv_aload_n hx hb dX6_word_174 rfl (lv_at hl 0 rfl) ?_
              refine lv_bipush (v := 115) hx hb dX6_word_175 (by decide) ?_
              refine z_callVi X hH (c_X6_takes l D k a g v (upd (upd (upd (upd (upd (upd (upd u 3 (nI A)) 3 (nI A)) 3 (nI A)) 4 3) 3 (nI (A + 1))) 3 (nI (A + 1 + 1))) 3 (nI (A + 1 + 1 + 1))) L (A + 1 + 1 + 1) hL (by omega) (((zu_n _ _ (by omega)).trans ((zu_n _ _ (by omega)).trans ((zu_n _ _ (by omega)).trans ((zu_n _ _ (by omega)).trans ((zu_n _ _ (by omega)).trans ((zu_n _ _ (by omega)).trans (zu_n _ _ (by omega)))))))).trans e2) (zu_s _ _ _) 115 (by decide)) k_X6_109 (rv_X6 X hH) [] rfl rfl hl.1 (Nat.le_of_ble_eq_true rfl) ⟨Nat.le_of_ble_eq_true rfl, Nat.le_of_ble_eq_true rfl⟩ ⟨Nat.le_refl _, Nat.le_refl _⟩ dX6_word_177 (fun r57 g58 H locs h59 hH => ?_)
              by_cases c60 : fSign (g 19) L (A + 1 + 1 + 1) = 115
              · rw [h59.2, if_pos c60] at hH
                rw [h59.1, if_pos c60]
                have c60l : A + 1 + 1 + 1 < L := fSign_lt (by rw [c60]; decide)
                refine lv_if_eq (tgt := 187) hx hb dX6_word_180 (by decide) (fun q => absurd q (by decide)) (fun _ => ?_)
                refine lv_iconst (v := 1) hx hb dX6_word_183 (by decide) ?_
                refine lv_goto (tgt := 188) hx hb dX6_word_184 (by decide) ?_
                exact hret _ _ _ _ _ _ rfl ⟨by rw [(show fWord (g 19) L A = (3, A + 1 + 1 + 1 + 1) from by rw [fWord_m, if_neg c4, if_neg c20, if_neg c36, fWd, zCs_4, fPass_t c48, fPass_t c52, fPass_t c56, fPass_t c60, fPass_e, if_pos fPt])]; rfl, _, rfl, (fun j h3 h4 => ((zu_n _ _ (by omega)).trans ((zu_n _ _ (by omega)).trans ((zu_n _ _ (by omega)).trans ((zu_n _ _ (by omega)).trans ((zu_n _ _ (by omega)).trans ((zu_n _ _ (by omega)).trans ((zu_n _ _ (by omega)).trans (zu_n _ _ (by omega)))))))))), by rw [(show fWord (g 19) L A = (3, A + 1 + 1 + 1 + 1) from by rw [fWord_m, if_neg c4, if_neg c20, if_neg c36, fWd, zCs_4, fPass_t c48, fPass_t c52, fPass_t c56, fPass_t c60, fPass_e, if_pos fPt])]; exact (zu_s _ _ _), by rw [(show fWord (g 19) L A = (3, A + 1 + 1 + 1 + 1) from by rw [fWord_m, if_neg c4, if_neg c20, if_neg c36, fWd, zCs_4, fPass_t c48, fPass_t c52, fPass_t c56, fPass_t c60, fPass_e, if_pos fPt])]; exact fun _ => ((zu_n _ _ (by omega)).trans ((zu_n _ _ (by omega)).trans ((zu_n _ _ (by omega)).trans ((zu_n _ _ (by omega)).trans (zu_s _ _ _)))))⟩ hH dX6_word_188
              · rw [h59.2, if_neg c60] at hH
                rw [h59.1, if_neg c60]
                refine lv_if_eq (tgt := 187) hx hb dX6_word_180 (by decide) (fun _ => ?_) (fun q => absurd (by decide) q)
                refine lv_iconst (v := 0) hx hb dX6_word_187 (by decide) ?_
                exact hret _ _ _ _ _ _ rfl ⟨by rw [(show fWord (g 19) L A = (-1, A + 1 + 1 + 1) from by rw [fWord_m, if_neg c4, if_neg c20, if_neg c36, fWd, zCs_4, fPass_t c48, fPass_t c52, fPass_t c56, fPass_f c60, if_neg fPf])]; rfl, _, rfl, (fun j h3 h4 => ((zu_n _ _ (by omega)).trans ((zu_n _ _ (by omega)).trans ((zu_n _ _ (by omega)).trans ((zu_n _ _ (by omega)).trans ((zu_n _ _ (by omega)).trans ((zu_n _ _ (by omega)).trans ((zu_n _ _ (by omega)).trans (zu_n _ _ (by omega)))))))))), by rw [(show fWord (g 19) L A = (-1, A + 1 + 1 + 1) from by rw [fWord_m, if_neg c4, if_neg c20, if_neg c36, fWd, zCs_4, fPass_t c48, fPass_t c52, fPass_t c56, fPass_f c60, if_neg fPf])]; exact (zu_s _ _ _), by rw [(show fWord (g 19) L A = (-1, A + 1 + 1 + 1) from by rw [fWord_m, if_neg c4, if_neg c20, if_neg c36, fWd, zCs_4, fPass_t c48, fPass_t c52, fPass_t c56, fPass_f c60, if_neg fPf])]; exact fun q => absurd rfl q⟩ hH dX6_word_188
            · rw [h55.2, if_neg c56] at hH
              rw [h55.1, if_neg c56]
              refine lv_if_eq (tgt := 187) hx hb dX6_word_171 (by decide) (fun _ => ?_) (fun q => absurd (by decide) q)
              refine lv_iconst (v := 0) hx hb dX6_word_187 (by decide) ?_
              exact hret _ _ _ _ _ _ rfl ⟨by rw [(show fWord (g 19) L A = (-1, A + 1 + 1) from by rw [fWord_m, if_neg c4, if_neg c20, if_neg c36, fWd, zCs_4, fPass_t c48, fPass_t c52, fPass_f c56, if_neg fPf])]; rfl, _, rfl, (fun j h3 h4 => ((zu_n _ _ (by omega)).trans ((zu_n _ _ (by omega)).trans ((zu_n _ _ (by omega)).trans ((zu_n _ _ (by omega)).trans ((zu_n _ _ (by omega)).trans ((zu_n _ _ (by omega)).trans (zu_n _ _ (by omega))))))))), by rw [(show fWord (g 19) L A = (-1, A + 1 + 1) from by rw [fWord_m, if_neg c4, if_neg c20, if_neg c36, fWd, zCs_4, fPass_t c48, fPass_t c52, fPass_f c56, if_neg fPf])]; exact (zu_s _ _ _), by rw [(show fWord (g 19) L A = (-1, A + 1 + 1) from by rw [fWord_m, if_neg c4, if_neg c20, if_neg c36, fWd, zCs_4, fPass_t c48, fPass_t c52, fPass_f c56, if_neg fPf])]; exact fun q => absurd rfl q⟩ hH dX6_word_188
          · rw [h51.2, if_neg c52] at hH
            rw [h51.1, if_neg c52]
            refine lv_if_eq (tgt := 187) hx hb dX6_word_162 (by decide) (fun _ => ?_) (fun q => absurd (by decide) q)
            refine lv_iconst (v := 0) hx hb dX6_word_187 (by decide) ?_
            exact hret _ _ _ _ _ _ rfl ⟨by rw [(show fWord (g 19) L A = (-1, A + 1) from by rw [fWord_m, if_neg c4, if_neg c20, if_neg c36, fWd, zCs_4, fPass_t c48, fPass_f c52, if_neg fPf])]; rfl, _, rfl, (fun j h3 h4 => ((zu_n _ _ (by omega)).trans ((zu_n _ _ (by omega)).trans ((zu_n _ _ (by omega)).trans ((zu_n _ _ (by omega)).trans ((zu_n _ _ (by omega)).trans (zu_n _ _ (by omega)))))))), by rw [(show fWord (g 19) L A = (-1, A + 1) from by rw [fWord_m, if_neg c4, if_neg c20, if_neg c36, fWd, zCs_4, fPass_t c48, fPass_f c52, if_neg fPf])]; exact (zu_s _ _ _), by rw [(show fWord (g 19) L A = (-1, A + 1) from by rw [fWord_m, if_neg c4, if_neg c20, if_neg c36, fWd, zCs_4, fPass_t c48, fPass_f c52, if_neg fPf])]; exact fun q => absurd rfl q⟩ hH dX6_word_188
        · rw [h47.2, if_neg c48] at hH
          rw [h47.1, if_neg c48]
          refine lv_if_eq (tgt := 187) hx hb dX6_word_153 (by decide) (fun _ => ?_) (fun q => absurd (by decide) q)
          refine lv_iconst (v := 0) hx hb dX6_word_187 (by decide) ?_
          exact hret _ _ _ _ _ _ rfl ⟨by rw [(show fWord (g 19) L A = (-1, A) from by rw [fWord_m, if_neg c4, if_neg c20, if_neg c36, fWd, zCs_4, fPass_f c48, if_neg fPf])]; rfl, _, rfl, (fun j h3 h4 => ((zu_n _ _ (by omega)).trans ((zu_n _ _ (by omega)).trans ((zu_n _ _ (by omega)).trans ((zu_n _ _ (by omega)).trans (zu_n _ _ (by omega))))))), by rw [(show fWord (g 19) L A = (-1, A) from by rw [fWord_m, if_neg c4, if_neg c20, if_neg c36, fWd, zCs_4, fPass_f c48, if_neg fPf])]; exact (zu_s _ _ _), by rw [(show fWord (g 19) L A = (-1, A) from by rw [fWord_m, if_neg c4, if_neg c20, if_neg c36, fWd, zCs_4, fPass_f c48, if_neg fPf])]; exact fun q => absurd rfl q⟩ hH dX6_word_188
