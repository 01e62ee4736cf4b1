set_option maxRecDepth 100000 in
set_option maxHeartbeats 4000000 in
theorem c_X6_does (l : Launch) (D : va_G) (k : Nat → ClassId) (a : Nat → Nat → Nat) (g : Mem) (v u : V) (hf : zFl v) (hk : zKy v) (R : Nat) (eR : v 11 = nI R) (hR : 1 ≤ R) (hR2 : R ≤ 12) (h9 : ¬ v 9 < 1) (hg : zGu v) (T W : Nat) (hT : T < 4) (hW : W < 5) (e4 : u 4 = nI W) (e5 : u 5 = nI T) : zI l yX6_does cX6_does 1 .int 5 116 D k a [.ref (a 6 8)] (zM g 0 v u) (zDoP g v u (nI W, nI T, u 6)) := by
  refine zI_of (own := RX6) (by decide +kernel) rfl (Nat.le_of_ble_eq_true rfl) ?_
  intro p e s m args below meth c X Q hret hH ls hl
  obtain ⟨hx, hb, hml, hown, hts⟩ := X.1
  have hl : lv_has ls 1 [(0, .ref (a 6 8))] := hl
  have hH : zH D k a s (zM g 0 v u) s.heap [] := hH
  refine lv_aload_n hx hb dX6_does_0 rfl (lv_at hl 0 rfl) ?_
  refine gm_X6_order X hH q_582 dX6_does_1 ?_
  rw [e4]
  refine lv_iconst (v := 3) hx hb dX6_does_4 (by decide) ?_
  refine n_icmp_ge (A := W) (B := 3) (tgt := 29) hx hb (by omega) (by omega) dX6_does_5 (by decide) (fun c1 => ?_) (fun c1 => ?_)
  · refine lv_aload_n hx hb dX6_does_29 rfl (lv_at hl 0 rfl) ?_
    refine gf_X6_s X hH q_576 dX6_does_30 ?_
    refine lv_aload_n hx hb dX6_does_33 rfl (lv_at hl 0 rfl) ?_
    refine gm_X6_order X hH q_582 dX6_does_34 ?_
    rw [e4]
    refine lv_iconst (v := 3) hx hb dX6_does_37 (by decide) ?_
    refine n_icmp_ne (A := W) (B := 3) (tgt := 48) hx hb (by omega) (by omega) dX6_does_38 (by decide) (fun c2 => ?_) (fun c2 => ?_)
    · refine lv_iconst (v := 4) hx hb dX6_does_48 (by decide) ?_
      refine lv_aload_n hx hb dX6_does_49 rfl (lv_at hl 0 rfl) ?_
      refine gm_X6_table X hH q_583 dX6_does_50 ?_
      rw [e5]
      refine n_iadd (A := 4) (B := T) hx hb (4 + T) (by omega) dX6_does_53 ?_
      refine lv_aload_n hx hb dX6_does_54 rfl (lv_at hl 0 rfl) ?_
      refine gm_X6_number X hH q_584 dX6_does_55 ?_
      refine sm_s X (by omega) hH (4 + T) (by omega) (by omega) dX6_does_58 (fun H locs hH => ?_)
      refine lv_iconst (v := 0) hx hb dX6_does_59 (by decide) ?_
      exact hret _ _ _ _ _ _ rfl ⟨by rw [(show mStep v (nI W, nI T, u 6) = (0, upd v (4 + T) (u 6)) from by rw [mStep]; dsimp only; rw [if_neg (show ¬ nI W = 3 from fun q => absurd ((nI_eq (b := 3) (by omega) (by omega)).mp q) (by omega)), if_pos (show nI W = 4 by rw [show W = 4 by omega]; rfl), fResize, if_neg (by decide), iNn (show T < 2 ^ 31 by omega)])], u, by rw [(show mStep v (nI W, nI T, u 6) = (0, upd v (4 + T) (u 6)) from by rw [mStep]; dsimp only; rw [if_neg (show ¬ nI W = 3 from fun q => absurd ((nI_eq (b := 3) (by omega) (by omega)).mp q) (by omega)), if_pos (show nI W = 4 by rw [show W = 4 by omega]; rfl), fResize, if_neg (by decide), iNn (show T < 2 ^ 31 by omega)])], fun _ _ => rfl⟩ hH dX6_does_60
    · refine lv_aload_n hx hb dX6_does_41 rfl (lv_at hl 0 rfl) ?_
      refine gm_X6_table X hH q_583 dX6_does_42 ?_
      rw [e5]
      refine lv_goto (tgt := 54) hx hb dX6_does_45 (by decide) ?_
      refine lv_aload_n hx hb dX6_does_54 rfl (lv_at hl 0 rfl) ?_
      refine gm_X6_number X hH q_584 dX6_does_55 ?_
      refine sm_s X (by omega) hH (T) (by omega) (by omega) dX6_does_58 (fun H locs hH => ?_)
      refine lv_iconst (v := 0) hx hb dX6_does_59 (by decide) ?_
      exact hret _ _ _ _ _ _ rfl ⟨by rw [(show mStep v (nI W, nI T, u 6) = (0, upd v T (u 6)) from by rw [mStep]; dsimp only; rw [if_pos (show nI W = 3 by rw [c2]; rfl), fResize, if_pos rfl, iNn (show T < 2 ^ 31 by omega)])], u, by rw [(show mStep v (nI W, nI T, u 6) = (0, upd v T (u 6)) from by rw [mStep]; dsimp only; rw [if_pos (show nI W = 3 by rw [c2]; rfl), fResize, if_pos rfl, iNn (show T < 2 ^ 31 by omega)])], fun _ _ => rfl⟩ hH dX6_does_60
  · refine lv_aload_n hx hb dX6_does_8 rfl (lv_at hl 0 rfl) ?_
    refine lv_iconst (v := 0) hx hb dX6_does_9 (by decide) ?_
    refine lv_iconst (v := 3) hx hb dX6_does_10 (by decide) ?_
    refine lv_aload_n hx hb dX6_does_11 rfl (lv_at hl 0 rfl) ?_
    refine gm_X6_table X hH q_583 dX6_does_12 ?_
    rw [e5]
    refine n_imul (A := 3) (B := T) hx hb (3 * T) (by omega) dX6_does_15 ?_
    refine lv_aload_n hx hb dX6_does_16 rfl (lv_at hl 0 rfl) ?_
    refine gm_X6_order X hH q_582 dX6_does_17 ?_
    rw [e4]
    refine n_iadd (A := 3 * T) (B := W) hx hb (3 * T + W) (by omega) dX6_does_20 ?_
    refine lv_aload_n hx hb dX6_does_21 rfl (lv_at hl 0 rfl) ?_
    refine gm_X6_number X hH q_584 dX6_does_22 ?_
    refine z_callVi X hH (c_X6_asks l D k a g 0 (by omega) v u hf hk R eR hR hR2 h9 hg (3 * T + W) (by omega) (u 6)) k_X6_96 (rv_X6 X hH) [] rfl rfl hl.1 (Nat.le_of_ble_eq_true rfl) ⟨Nat.le_of_ble_eq_true rfl, Nat.le_of_ble_eq_true rfl⟩ ⟨Nat.le_refl _, Nat.le_refl _⟩ dX6_does_25 (fun r3 g4 H locs h5 hH => ?_)
    obtain ⟨hr9, u', hg9, hu9, h79, h89, h99⟩ := h5
    rw [hg9] at hH
    rw [hr9]
    exact hret _ _ _ _ _ _ rfl ⟨by rw [(show mStep v (nI W, nI T, u 6) = fAsk v (3 * T + W) (u 6) from by rw [mStep]; dsimp only; rw [if_neg (show ¬ nI W = 3 from fun q => absurd ((nI_eq (b := 3) (by omega) (by omega)).mp q) (by omega)), if_neg (show ¬ nI W = 4 from fun q => absurd ((nI_eq (b := 4) (by omega) (by omega)).mp q) (by omega)), iNn (show W < 2 ^ 31 by omega), iNn (show T < 2 ^ 31 by omega)])], u', by rw [(show mStep v (nI W, nI T, u 6) = fAsk v (3 * T + W) (u 6) from by rw [mStep]; dsimp only; rw [if_neg (show ¬ nI W = 3 from fun q => absurd ((nI_eq (b := 3) (by omega) (by omega)).mp q) (by omega)), if_neg (show ¬ nI W = 4 from fun q => absurd ((nI_eq (b := 4) (by omega) (by omega)).mp q) (by omega)), iNn (show W < 2 ^ 31 by omega), iNn (show T < 2 ^ 31 by omega)])], hu9⟩ hH dX6_does_28
set_option maxRecDepth 100000 in
set_option maxHeartbeats 4000000 in
theorem c_X6_goes0 (l : Launch) (D : va_G) (k : Nat → ClassId) (a : Nat → Nat → Nat) (g : Mem) (v u : V) (L : Nat) (hL : L ≤ 80) (e2 : u 2 = nI L) : zI l yX6_goes cX6_goes 3 .int 6 136 D k a [.ref (a 6 8), .int 0] (zM g 0 v u) (fun r g' => r = mTold (fRd (g 19) L 11 0).2 ∧ ∃ u' : V, g' = zM g 0 v u' ∧ ∀ j, j < 3 ∨ 6 < j → u' j = u j) := by
  refine zI_of (own := RX6) (by decide +kernel) rfl (Nat.le_of_ble_eq_true rfl) ?_
  intro p e s m args below meth c X Q hret hH ls hl
  obtain ⟨hx, hb, hml, hown, hts⟩ := X.1
  have hl : lv_has ls 3 [(0, .ref (a 6 8)), (1, .int 0)] := hl
  have hH : zH D k a s (zM g 0 v u) s.heap [] := hH
  refine lv_aload_n hx hb dX6_goes_0 rfl (lv_at hl 0 rfl) ?_
  refine lv_iconst (v := 0) hx hb dX6_goes_1 (by decide) ?_
  refine pm_X6_at X hH q_581 dX6_goes_2 (fun H locs hH => ?_)
  refine lv_iconst (v := 0) hx hb dX6_goes_5 (by decide) ?_
  refine lv_istore_n (lv' := [(2, .int 0), (0, .ref (a 6 8)), (1, .int 0)]) hx hb dX6_goes_6 rfl hl (by decide) rfl (fun ls hl => ?_)
  have Lp : ∀ (kk A : Nat) (u1 : V), A ≤ L → L < A + 8 * kk → (∀ j, j < 3 ∨ 6 < j → u1 j = u j) → u1 3 = nI A → (fRd (g 19) L kk A).2 = (fRd (g 19) L 11 0).2 → ∀ (H : Heap) (locs : List Loc) (ls : Array Slot), zH D k a s (zM g 0 v u1) H locs → lv_has ls 3 [(2, .int 0), (0, .ref (a 6 8)), (1, .int 0)] → W p l e (zRoom 6 136) s m args below meth c H locs 0 0 Q (F0 m 7 ls []) := by
    intro kk
    induction kk with
    | zero =>
      intro A u1 hA hkk
      omega
    | succ kk ih =>
      intro A u1 hA hkk hu1 k13 hF H locs ls hH hl
      have e21 : u1 2 = nI L := (hu1 2 (by omega)).trans e2
      refine lv_aload_n hx hb dX6_goes_7 rfl (lv_at hl 1 rfl) ?_
      refine z_callVi X hH (c_X6_reads l D k a g v u1 L A hL hA e21 k13) k_X6_129 (rv_X6 X hH) [] rfl rfl hl.1 (Nat.le_of_ble_eq_true rfl) ⟨Nat.le_of_ble_eq_true rfl, Nat.le_of_ble_eq_true rfl⟩ ⟨Nat.le_refl _, Nat.le_refl _⟩ dX6_goes_8 (fun r1 g2 H locs h3 hH => ?_)
      obtain ⟨hr, u2, hg2, hu2, k23, k2q⟩ := h3
      rw [hg2] at hH
      rw [hr]
      have hEL : (fLine (g 19) L A).2.1 ≤ L := (fLine_b hA).2
      by_cases hl1 : (fLine (g 19) L A).1 = true
      · rw [if_pos hl1]
        have hl7 := fLine_t hl1
        have k2q := k2q hl1
        obtain ⟨E, eE⟩ : ∃ E, E = (fLine (g 19) L A).2.1 := ⟨_, rfl⟩
        rw [← eE] at k23 hEL hl7
        refine lv_if_eq (tgt := 58) hx hb dX6_goes_11 (by decide) (fun q => absurd q (by decide)) (fun _ => ?_)
        refine lv_iload_n hx hb dX6_goes_14 rfl (lv_at hl 0 rfl) ?_
        refine lv_iload_n hx hb dX6_goes_15 rfl (lv_at hl 2 rfl) ?_
        refine lv_if_eq (tgt := 26) hx hb dX6_goes_16 (by decide) (fun _ => ?_) (fun q => absurd (by decide) q)
        refine lv_iconst (v := 0) hx hb dX6_goes_26 (by decide) ?_
        refine lv_iadd hx hb dX6_goes_27 ?_
        rw [show (0 : Int32) + 0 = 0 from by decide]
        refine lv_istore_n (lv' := [(2, .int 0), (0, .ref (a 6 8)), (1, .int 0)]) hx hb dX6_goes_28 rfl hl (by decide) rfl (fun ls hl => ?_)
        refine lv_aload_n hx hb dX6_goes_29 rfl (lv_at hl 1 rfl) ?_
        refine gm_X6_at X hH q_581 dX6_goes_30 ?_
        rw [k23]
        refine lv_aload_n hx hb dX6_goes_33 rfl (lv_at hl 1 rfl) ?_
        refine gm_X6_typed X hH q_580 dX6_goes_34 ?_
        rw [((hu2 2 (by omega)).trans e21)]
        refine n_icmp_ne (A := E) (B := L) (tgt := 42) hx hb (by omega) (by omega) dX6_goes_37 (by decide) (fun c4 => ?_) (fun c4 => ?_)
        · refine lv_aload_n hx hb dX6_goes_42 rfl (lv_at hl 1 rfl) ?_
          refine lv_bipush (v := 59) hx hb dX6_goes_43 (by decide) ?_
          refine z_callVi X hH (c_X6_takes l D k a g v u2 L (E) hL (by omega) ((hu2 2 (by omega)).trans e21) k23 59 (by decide)) k_X6_109 (rv_X6 X hH) [] rfl rfl hl.1 (Nat.le_of_ble_eq_true rfl) ⟨Nat.le_of_ble_eq_true rfl, Nat.le_of_ble_eq_true rfl⟩ ⟨Nat.le_refl _, Nat.le_refl _⟩ dX6_goes_45 (fun r5 g6 H locs h7 hH => ?_)
          by_cases c8 : fSign (g 19) L E = 59
          · rw [h7.2, if_pos c8] at hH
            rw [h7.1, if_pos c8]
            have c8l : E < L := fSign_lt (by rw [c8]; decide)
            refine lv_if_ne (tgt := 7) hx hb dX6_goes_48 (by decide) (fun _ => ?_) (fun q => absurd q (by decide))
            exact ih (E + 1) _ (by omega) (by omega) (fun j hj => (zu_n _ _ (by omega)).trans ((hu2 j (by omega)).trans (hu1 j hj))) (zu_s _ _ _) (by rw [← hF, fRd_y hl1 (by omega) (by rw [← eE]; exact c8), ← eE]) _ _ _ hH (lv_sub hl [0, 1, 2] rfl)
          · rw [h7.2, if_neg c8] at hH
            rw [h7.1, if_neg c8]
            refine lv_if_ne (tgt := 7) hx hb dX6_goes_48 (by decide) (fun q => absurd rfl q) (fun _ => ?_)
            refine lv_iconst (v := (-1)) hx hb dX6_goes_51 (by decide) ?_
            refine lv_aload_n hx hb dX6_goes_52 rfl (lv_at hl 1 rfl) ?_
            refine gm_X6_at X hH q_581 dX6_goes_53 ?_
            rw [show (upd u2 3 (nI E)) 3 = nI E from (zu_s _ _ _)]
            refine lv_isub hx hb dX6_goes_56 ?_
            exact hret _ _ _ _ _ _ rfl ⟨by rw [← hF, fRd_f hl1 (by omega) (by rw [← eE]; exact c8), ← eE]; rfl, _, rfl, fun j hj => (zu_n _ _ (by omega)).trans ((hu2 j (by omega)).trans (hu1 j hj))⟩ hH dX6_goes_57
        · refine lv_iload_n hx hb dX6_goes_40 rfl (lv_at hl 0 rfl) ?_
          exact hret _ _ _ _ _ _ rfl ⟨by rw [← hF, fRd_e hl1 (by omega)]; rfl, _, rfl, fun j hj => ((hu2 j (by omega)).trans (hu1 j hj))⟩ hH dX6_goes_41
      · rw [if_neg hl1]
        obtain ⟨E, eE⟩ : ∃ E, E = (fLine (g 19) L A).2.1 := ⟨_, rfl⟩
        rw [← eE] at k23 hEL
        refine lv_if_eq (tgt := 58) hx hb dX6_goes_11 (by decide) (fun _ => ?_) (fun q => absurd (by decide) q)
        refine lv_iconst (v := (-1)) hx hb dX6_goes_58 (by decide) ?_
        refine lv_aload_n hx hb dX6_goes_59 rfl (lv_at hl 1 rfl) ?_
        refine gm_X6_at X hH q_581 dX6_goes_60 ?_
        rw [k23]
        refine lv_isub hx hb dX6_goes_63 ?_
        exact hret _ _ _ _ _ _ rfl ⟨by rw [← hF, fRd_n hl1, ← eE]; rfl, _, rfl, fun j hj => ((hu2 j (by omega)).trans (hu1 j hj))⟩ hH dX6_goes_64
  exact Lp 11 0 _ (by omega) (by omega) (fun j hj => (zu_n _ _ (by omega))) (zu_s _ _ _) rfl _ _ _ hH (lv_sub hl [0, 1, 2] rfl)
