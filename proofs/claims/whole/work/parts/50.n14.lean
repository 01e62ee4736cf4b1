set_option maxRecDepth 100000 in
set_option maxHeartbeats 4000000 in
theorem c_X6_goes1 (l : Launch) (D : va_G) (k : Nat → ClassId) (a : Nat → Nat → Nat) (g : Mem) (v u : V) (L : Nat) (hL : L ≤ 80) (e2 : u 2 = nI L) (hG : zOkV v) (hNo : (fRd (g 19) L 11 0).2 = none) : zI l yX6_goes cX6_goes 3 .int 6 136 D k a [.ref (a 6 8), .int 1] (zM g 0 v u) (fun r g' => r = (fRun (fRd (g 19) L 11 0).1 0 v).1 ∧ ∃ u' : V, g' = zM g 0 (fRun (fRd (g 19) L 11 0).1 0 v).2 u' ∧ ∀ j, j < 3 → u' j = u j) := by
  refine zI_of (own := RX6) (by decide +kernel) rfl (Nat.le_of_ble_eq_true rfl) ?_
  intro p e s m args below meth c X Q hret hH ls hl
  obtain ⟨hx, hb, hml, hown, hts⟩ := X.1
  have hl : lv_has ls 3 [(0, .ref (a 6 8)), (1, .int 1)] := hl
  have hH : zH D k a s (zM g 0 v u) s.heap [] := hH
  refine lv_aload_n hx hb dX6_goes_0 rfl (lv_at hl 0 rfl) ?_
  refine lv_iconst (v := 0) hx hb dX6_goes_1 (by decide) ?_
  refine pm_X6_at X hH q_581 dX6_goes_2 (fun H locs hH => ?_)
  refine lv_iconst (v := 0) hx hb dX6_goes_5 (by decide) ?_
  refine lv_istore_n (lv' := [(2, .int 0), (0, .ref (a 6 8)), (1, .int 1)]) hx hb dX6_goes_6 rfl hl (by decide) rfl (fun ls hl => ?_)
  have Lp : ∀ (kk A : Nat) (v1 u1 : V) (sm : Int32), A ≤ L → L < A + 8 * kk → zOkV v1 → (∀ j, j < 3 → u1 j = u j) → u1 3 = nI A → (fRd (g 19) L kk A).2 = none → fRun (fRd (g 19) L kk A).1 sm v1 = fRun (fRd (g 19) L 11 0).1 0 v → ∀ (H : Heap) (locs : List Loc) (ls : Array Slot), zH D k a s (zM g 0 v1 u1) H locs → lv_has ls 3 [(2, .int (sm)), (0, .ref (a 6 8)), (1, .int 1)] → W p l e (zRoom 6 136) s m args below meth c H locs 0 0 Q (F0 m 7 ls []) := by
    intro kk
    induction kk with
    | zero =>
      intro A v1 u1 sm hA hkk
      omega
    | succ kk ih =>
      intro A v1 u1 sm hA hkk hG hu1 k13 hF hRun H locs ls hH hl
      have e21 : u1 2 = nI L := (hu1 2 (by omega)).trans e2
      have hG0 := hG
      obtain ⟨hf, hk, hg, h9, ⟨R, eR, hR, hR2⟩, -, -⟩ := hG
      refine lv_aload_n hx hb dX6_goes_7 rfl (lv_at hl 1 rfl) ?_
      refine z_callVi X hH (c_X6_reads l D k a g v1 u1 L A hL hA e21 k13) k_X6_129 (rv_X6 X hH) [] rfl rfl hl.1 (Nat.le_of_ble_eq_true rfl) ⟨Nat.le_of_ble_eq_true rfl, Nat.le_of_ble_eq_true rfl⟩ ⟨Nat.le_refl _, Nat.le_refl _⟩ dX6_goes_8 (fun r1 g2 H locs h3 hH => ?_)
      obtain ⟨hr, u2, hg2, hu2, k23, k2q⟩ := h3
      rw [hg2] at hH
      rw [hr]
      have hEL : (fLine (g 19) L A).2.1 ≤ L := (fLine_b hA).2
      by_cases hl1 : (fLine (g 19) L A).1 = true
      · rw [if_pos hl1]
        have hl7 := fLine_t hl1
        have k2q := k2q hl1
        obtain ⟨E, eE⟩ : ∃ E, E = (fLine (g 19) L A).2.1 := ⟨_, rfl⟩
        rw [← eE] at k23 hEL hl7
        refine lv_if_eq (tgt := 58) hx hb dX6_goes_11 (by decide) (fun q => absurd q (by decide)) (fun _ => ?_)
        refine lv_iload_n hx hb dX6_goes_14 rfl (lv_at hl 0 rfl) ?_
        refine lv_iload_n hx hb dX6_goes_15 rfl (lv_at hl 2 rfl) ?_
        refine lv_if_eq (tgt := 26) hx hb dX6_goes_16 (by decide) (fun q => absurd q (by decide)) (fun _ => ?_)
        refine lv_aload_n hx hb dX6_goes_19 rfl (lv_at hl 1 rfl) ?_
        obtain ⟨⟨W, hW, eW⟩, ⟨T, hT, eT⟩, -, -⟩ := hl7.2
        refine z_callVi X hH (c_X6_does l D k a g v1 u2 hf hk R eR hR hR2 h9 hg T W hT hW (k2q.1.trans eW) (k2q.2.1.trans eT)) k_X6_132 (rv_X6 X hH) [.int (sm)] rfl rfl hl.1 (Nat.le_of_ble_eq_true rfl) ⟨Nat.le_of_ble_eq_true rfl, Nat.le_of_ble_eq_true rfl⟩ ⟨Nat.le_refl _, Nat.le_refl _⟩ dX6_goes_20 (fun r4 g5 H locs h6 hH => ?_)
        obtain ⟨hr3, u3, hg3, hu3⟩ := h6
        rw [show (nI W, nI T, u2 6) = (fLine (g 19) L A).2.2 from by rw [← eW, ← eT, k2q.2.2]] at hr3 hg3
        rw [hg3] at hH
        rw [hr3]
        have k33 : u3 3 = nI E := (hu3 3 (by omega)).trans k23
        refine lv_goto (tgt := 27) hx hb dX6_goes_23 (by decide) ?_
        refine lv_iadd hx hb dX6_goes_27 ?_
        refine lv_istore_n (lv' := [(2, .int (sm + ((mStep v1 (fLine (g 19) L A).2.2).1))), (0, .ref (a 6 8)), (1, .int 1)]) hx hb dX6_goes_28 rfl hl (by decide) rfl (fun ls hl => ?_)
        refine lv_aload_n hx hb dX6_goes_29 rfl (lv_at hl 1 rfl) ?_
        refine gm_X6_at X hH q_581 dX6_goes_30 ?_
        rw [k33]
        refine lv_aload_n hx hb dX6_goes_33 rfl (lv_at hl 1 rfl) ?_
        refine gm_X6_typed X hH q_580 dX6_goes_34 ?_
        rw [((hu3 2 (by omega)).trans ((hu2 2 (by omega)).trans e21))]
        refine n_icmp_ne (A := E) (B := L) (tgt := 42) hx hb (by omega) (by omega) dX6_goes_37 (by decide) (fun c7 => ?_) (fun c7 => ?_)
        · refine lv_aload_n hx hb dX6_goes_42 rfl (lv_at hl 1 rfl) ?_
          refine lv_bipush (v := 59) hx hb dX6_goes_43 (by decide) ?_
          refine z_callVi X hH (c_X6_takes l D k a g ((mStep v1 (fLine (g 19) L A).2.2).2) u3 L (E) hL (by omega) ((hu3 2 (by omega)).trans ((hu2 2 (by omega)).trans e21)) k33 59 (by decide)) k_X6_109 (rv_X6 X hH) [] rfl rfl hl.1 (Nat.le_of_ble_eq_true rfl) ⟨Nat.le_of_ble_eq_true rfl, Nat.le_of_ble_eq_true rfl⟩ ⟨Nat.le_refl _, Nat.le_refl _⟩ dX6_goes_45 (fun r8 g9 H locs h10 hH => ?_)
          by_cases c11 : fSign (g 19) L E = 59
          · rw [h10.2, if_pos c11] at hH
            rw [h10.1, if_pos c11]
            have c11l : E < L := fSign_lt (by rw [c11]; decide)
            refine lv_if_ne (tgt := 7) hx hb dX6_goes_48 (by decide) (fun _ => ?_) (fun q => absurd q (by decide))
            have hy := fRd_y (k := kk) hl1 (by omega) (by rw [← eE]; exact c11)
            rw [hy, ← eE] at hF hRun
            rw [fRun_s] at hRun
            exact ih (E + 1) _ _ _ (by omega) (by omega) (zOkV_step hG0 hl7.2) (fun j hj => (zu_n _ _ (by omega)).trans ((hu3 j (by omega)).trans ((hu2 j (by omega)).trans (hu1 j hj)))) (zu_s _ _ _) hF hRun _ _ _ hH (lv_sub hl [0, 1, 2] rfl)
          · rw [h10.2, if_neg c11] at hH
            rw [h10.1, if_neg c11]
            refine lv_if_ne (tgt := 7) hx hb dX6_goes_48 (by decide) (fun q => absurd rfl q) (fun _ => ?_)
            rw [fRd_f hl1 (by omega) (by rw [← eE]; exact c11)] at hF; exact absurd hF (by simp)
        · refine lv_iload_n hx hb dX6_goes_40 rfl (lv_at hl 0 rfl) ?_
          exact hret _ _ _ _ _ _ rfl ⟨by rw [(show fRun (fRd (g 19) L 11 0).1 0 v = (sm + (mStep v1 (fLine (g 19) L A).2.2).1, (mStep v1 (fLine (g 19) L A).2.2).2) from by rw [← hRun, fRd_e hl1 (by omega), fRun_s]; rfl)], u3, by rw [(show fRun (fRd (g 19) L 11 0).1 0 v = (sm + (mStep v1 (fLine (g 19) L A).2.2).1, (mStep v1 (fLine (g 19) L A).2.2).2) from by rw [← hRun, fRd_e hl1 (by omega), fRun_s]; rfl)], fun j hj => (hu3 j (by omega)).trans ((hu2 j (by omega)).trans (hu1 j hj))⟩ hH dX6_goes_41
      · rw [if_neg hl1]
        obtain ⟨E, eE⟩ : ∃ E, E = (fLine (g 19) L A).2.1 := ⟨_, rfl⟩
        rw [← eE] at k23 hEL
        rw [fRd_n hl1] at hF; exact absurd hF (by simp)
  exact Lp 11 0 v _ 0 (by omega) (by omega) hG (fun j hj => (zu_n _ _ (by omega))) (zu_s _ _ _) hNo rfl _ _ _ hH (lv_sub hl [0, 1, 2] rfl)
set_option maxRecDepth 100000 in
set_option maxHeartbeats 4000000 in
theorem c_X6_askAll (l : Launch) (D : va_G) (k : Nat → ClassId) (a : Nat → Nat → Nat) (g : Mem) (v u : V) (n : Nat) (hn : n ≤ 4) (eu : u 0 = nI n) (hJ : zJk g) (hv : ∀ j, 160 ≤ j → v j = 0) (L : Nat) (hL : L ≤ 80) (e2 : u 2 = nI L) (hG : zOkV v) : zI l yX6_askAll cX6_askAll 2 .int 7 158 D k a [.ref (a 6 8)] (zM g 0 v u) (fun r g' => r = (kAll (g 19) L v).1 ∧ zPo g v u n (kAll (g 19) L v).2 g') := by
  refine zI_of (own := RX6) (by decide +kernel) rfl (Nat.le_of_ble_eq_true rfl) ?_
  intro p e s m args below meth c X Q hret hH ls hl
  obtain ⟨hx, hb, hml, hown, hts⟩ := X.1
  have hl : lv_has ls 2 [(0, .ref (a 6 8))] := hl
  have hH : zH D k a s (zM g 0 v u) s.heap [] := hH
  refine lv_aload_n hx hb dX6_askAll_0 rfl (lv_at hl 0 rfl) ?_
  refine lv_iconst (v := 0) hx hb dX6_askAll_1 (by decide) ?_
  refine z_callVi X hH (c_X6_goes0 l D k a g v u L hL e2) k_X6_136 (rv_X6 X hH) [] rfl rfl hl.1 (Nat.le_of_ble_eq_true rfl) ⟨Nat.le_of_ble_eq_true rfl, Nat.le_of_ble_eq_true rfl⟩ ⟨Nat.le_refl _, Nat.le_refl _⟩ dX6_askAll_2 (fun r1 g2 H locs h3 hH => ?_)
  obtain ⟨hr, u4, hg4, hu4⟩ := h3
  rw [hg4] at hH
  rw [hr]
  cases hFR : (fRd (g 19) L 11 0).2 with
  | some f =>
    have h80 : f ≤ 80 := Nat.le_trans (fRd_le 11 0 f (by omega) hFR) hL
    refine lv_istore_n (lv' := [(1, .int (mTold (some f))), (0, .ref (a 6 8))]) hx hb dX6_askAll_5 rfl hl (by decide) rfl (fun ls hl => ?_)
    refine lv_iload_n hx hb dX6_askAll_6 rfl (lv_at hl 0 rfl) ?_
    refine i_if_ge (tgt := 17) hx hb dX6_askAll_7 (by decide) (fun q => absurd (mTold_some h80).1 q) (fun c4 => ?_)
    refine lv_bipush (v := (-100)) hx hb dX6_askAll_10 (by decide) ?_
    refine lv_iconst (v := (-1)) hx hb dX6_askAll_12 (by decide) ?_
    refine lv_iload_n hx hb dX6_askAll_13 rfl (lv_at hl 0 rfl) ?_
    refine lv_isub hx hb dX6_askAll_14 ?_
    refine lv_isub hx hb dX6_askAll_15 ?_
    exact hret _ _ _ _ _ _ rfl ⟨by rw [kAll, hFR]; exact (mTold_some h80).2, by rw [kAll, hFR]; exact zPo_nt hJ (fun j hj => hu4 j (by omega))⟩ hH dX6_askAll_16
  | none =>
    rw [show mTold none = 0 from rfl]
    refine lv_istore_n (lv' := [(1, .int 0), (0, .ref (a 6 8))]) hx hb dX6_askAll_5 rfl hl (by decide) rfl (fun ls hl => ?_)
    refine lv_iload_n hx hb dX6_askAll_6 rfl (lv_at hl 0 rfl) ?_
    refine lv_if_ge (tgt := 17) hx hb dX6_askAll_7 (by decide) (fun _ => ?_) (fun q => absurd (by decide) q)
    refine lv_aload_n hx hb dX6_askAll_17 rfl (lv_at hl 1 rfl) ?_
    refine z_callVv X hH (c_X6_records l D k a g v u4 n hn ((hu4 0 (by omega)).trans eu) hJ hv) k_X6_86 (rv_X6 X hH) [] rfl rfl hl.1 (Nat.le_of_ble_eq_true rfl) ⟨Nat.le_of_ble_eq_true rfl, Nat.le_of_ble_eq_true rfl⟩ ⟨Nat.le_refl _, Nat.le_refl _⟩ dX6_askAll_18 (fun g5 H locs h6 hH => ?_)
    rw [h6] at hH
    refine lv_aload_n hx hb dX6_askAll_21 rfl (lv_at hl 1 rfl) ?_
    refine lv_iconst (v := 1) hx hb dX6_askAll_22 (by decide) ?_
    refine z_callVi X hH (c_X6_goes1 l D k a (mRecG g v n) v (mRecU u4 n) L hL ((zu_n _ _ (by decide)).trans ((hu4 2 (by omega)).trans e2)) hG (by rw [mRecG_o hn (by omega)]; exact hFR)) k_X6_136 (rv_X6 X hH) [] rfl rfl hl.1 (Nat.le_of_ble_eq_true rfl) ⟨Nat.le_of_ble_eq_true rfl, Nat.le_of_ble_eq_true rfl⟩ ⟨Nat.le_refl _, Nat.le_refl _⟩ dX6_askAll_23 (fun r7 g8 H locs h9 hH => ?_)
    rw [show (mRecG g v n) 19 = g 19 from mRecG_o hn (by omega)] at h9
    obtain ⟨hr5, u5, hg5, hu5⟩ := h9
    rw [hg5] at hH
    rw [hr5]
    exact hret _ _ _ _ _ _ rfl ⟨by rw [kAll, hFR], by rw [kAll, hFR]; exact zPo_s hn hJ (fun j hj => (hu5 j hj).trans (mRecU_co (fun i hi => hu4 i (by omega)) j hj))⟩ hH dX6_askAll_26
