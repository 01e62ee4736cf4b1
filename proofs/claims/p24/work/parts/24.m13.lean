theorem zEl {Ls : List (Int32 × Int32 × Int32)} {N : Nat} {w t n : V} {q : Int32 × Int32 × Int32} (hL : Ls.length = N) (h : ∀ i, i < N → Ls[i]? = some (w i, t i, n i)) : ∀ i, i < (Ls ++ [q]).length → (Ls ++ [q])[i]? = some ((upd w N q.1) i, (upd t N q.2.1) i, (upd n N q.2.2) i) := by
  intro i hi
  rw [List.length_append, hL] at hi
  by_cases h1 : i = N
  · subst h1
    rw [zu_s, zu_s, zu_s, List.getElem?_append_right (by omega), hL, Nat.sub_self]
    rfl
  · have h2 : i < N := by simp at hi; omega
    rw [zu_n _ _ h1, zu_n _ _ h1, zu_n _ _ h1, List.getElem?_append_left (by omega)]
    exact h i h2
set_option maxRecDepth 100000 in
set_option maxHeartbeats 4000000 in
theorem c_X2_read (l : Launch) (D : va_G) (k : Nat → ClassId) (a : Nat → Nat → Nat) (g : Mem) (u w t n : V) (L : Nat) (eL : u 2 = nI L) (hL : L ≤ 80) : zI l yX2_read cX2_read 1 .int 8 171 D k a [.ref (a 6 3)] (zT g u w t n) (zRead g u L) := by
  refine zI_of (own := RX2) (by decide +kernel) rfl (Nat.le_of_ble_eq_true rfl) ?_
  intro p e s m args below meth c X Q hret hH ls hl
  obtain ⟨hx, hb, hml, hown, hts⟩ := X.1
  have hl : lv_has ls 1 [(0, .ref (a 6 3))] := hl
  have hH : zH D k a s (zT g u w t n) s.heap [] := hH
  obtain ⟨-, -, -, -, -, -, -, -, -, hr0, hr1, hr2, hr3, hr4, hr5, hr6⟩ := X.2.2.2
  refine lv_aload_n hx hb dX2_read_0 rfl (lv_at hl 0 rfl) ?_
  refine lv_iconst (v := 0) hx hb dX2_read_1 (by decide) ?_
  refine pt_X2_at X hH q_196 dX2_read_2 (fun H locs hH => ?_)
  refine lv_aload_n hx hb dX2_read_5 rfl (lv_at hl 0 rfl) ?_
  refine lv_iconst (v := 0) hx hb dX2_read_6 (by decide) ?_
  refine pt_X2_lines X hH q_194 dX2_read_7 (fun H locs hH => ?_)
  rw [zu_c _ _ _ (show 4 ≠ 3 by decide)] at hH
  have Lp : ∀ (kx N B : Nat) (w1 t1 n1 : V) (Ls : List (Int32 × Int32 × Int32)), N + kx = 11 → B ≤ L → Ls.length = N → fRd (g 7) L 11 0 = (Ls ++ (fRd (g 7) L kx B).1, (fRd (g 7) L kx B).2) → (∀ i, i < N → Ls[i]? = some (w1 i, t1 i, n1 i)) → ∀ (H : Heap) (locs : List Loc) (ls : Array Slot), zH D k a s (zT g (upd (upd u 3 (nI N)) 4 (nI B)) w1 t1 n1) H locs → lv_has ls 1 [(0, .ref (a 6 3))] → W p l e (zRoom 8 171) s m args below meth c H locs 0 0 Q (F0 m 10 ls []) := by
    intro kx
    induction kx with
    | zero =>
      intro N B w1 t1 n1 Ls hN hB hLs hv hel H locs ls hH hl
      refine lv_aload_n hx hb dX2_read_10 rfl (lv_at hl 0 rfl) ?_
      refine gt_X2_lines X hH q_194 dX2_read_11 ?_
      rw [show (upd (upd u 3 (nI N)) 4 (nI B)) 3 = nI N from ((zu_n _ _ (by omega)).trans (zu_s _ _ _))]
      refine lv_bipush (v := 11) hx hb dX2_read_14 (by decide) ?_
      refine n_icmp_ge (A := N) (B := 11) (tgt := 73) hx hb (by omega) (by omega) dX2_read_16 (by decide) (fun c1 => ?_) (fun q => absurd q (by omega))
      refine lv_aload_n hx hb dX2_read_73 rfl (lv_at hl 0 rfl) ?_
      refine gt_X2_at X hH q_196 dX2_read_74 ?_
      rw [show (upd (upd u 3 (nI N)) 4 (nI B)) 4 = nI B from (zu_s _ _ _)]
      exact hret _ _ _ _ _ _ rfl ⟨_, _, _, _, rfl, (fun j h1 h2 => by rw [zu_n _ _ h2, zu_n _ _ h1]), (fun q => by rw [hv] at q; simp [fRd] at q), (fun f q => by rw [hv] at q; simp only [fRd, Option.some.injEq] at q; rw [← q]; exact ⟨rfl, hB⟩)⟩ hH dX2_read_77
    | succ kx ih =>
      intro N B w1 t1 n1 Ls hN hB hLs hv hel H locs ls hH hl
      have hb1 := fLine_b (x := g 7) hB
      refine lv_aload_n hx hb dX2_read_10 rfl (lv_at hl 0 rfl) ?_
      refine gt_X2_lines X hH q_194 dX2_read_11 ?_
      rw [show (upd (upd u 3 (nI N)) 4 (nI B)) 3 = nI N from ((zu_n _ _ (by omega)).trans (zu_s _ _ _))]
      refine lv_bipush (v := 11) hx hb dX2_read_14 (by decide) ?_
      refine n_icmp_ge (A := N) (B := 11) (tgt := 73) hx hb (by omega) (by omega) dX2_read_16 (by decide) (fun q => absurd q (by omega)) (fun c2 => ?_)
      refine lv_aload_n hx hb dX2_read_19 rfl (lv_at hl 0 rfl) ?_
      refine lv_aload_n hx hb dX2_read_20 rfl (lv_at hl 0 rfl) ?_
      refine gt_X2_lines X hH q_194 dX2_read_21 ?_
      rw [show (upd (upd u 3 (nI N)) 4 (nI B)) 3 = nI N from ((zu_n _ _ (by omega)).trans (zu_s _ _ _))]
      refine z_callVi X hH (c_X2_readLine l D k a g (upd u 3 (nI N)) w1 t1 n1 L (B) (by rw [zu_n _ _ (show 2 ≠ 3 by decide)]; exact eL) hL (by omega) N (by omega)) k_X2_32 (rv_X2 X hH) [] rfl rfl hl.1 (Nat.le_of_ble_eq_true rfl) ⟨Nat.le_of_ble_eq_true rfl, Nat.le_of_ble_eq_true rfl⟩ ⟨Nat.le_refl _, Nat.le_refl _⟩ dX2_read_24 (fun r3 g4 H locs h5 hH => ?_)
      rw [h5.2] at hH
      rw [h5.1]
      refine b_ifne (P := (fLine (g 7) L B).1 = true) (tgt := 35) hx hb dX2_read_27 (by decide) (fun c6 => ?_) (fun c6 => ?_)
      · rw [if_pos c6, if_pos c6, if_pos c6] at hH
        refine lv_aload_n hx hb dX2_read_35 rfl (lv_at hl 0 rfl) ?_
        refine lv_dup hx hb dX2_read_36 rfl ?_
        refine gt_X2_lines X hH q_194 dX2_read_37 ?_
        rw [show (upd (upd u 3 (nI N)) 4 (nI (fLine (g 7) L B).2.1)) 3 = nI N from ((zu_n _ _ (by omega)).trans (zu_s _ _ _))]
        refine lv_iconst (v := 1) hx hb dX2_read_40 (by decide) ?_
        refine n_iadd (A := N) (B := 1) hx hb (N + 1) (by omega) dX2_read_41 ?_
        refine pt_X2_lines X hH q_194 dX2_read_42 (fun H locs hH => ?_)
        rw [zu_c _ _ _ (show 4 ≠ 3 by decide), zu_u] at hH
        refine lv_aload_n hx hb dX2_read_45 rfl (lv_at hl 0 rfl) ?_
        refine gt_X2_at X hH q_196 dX2_read_46 ?_
        rw [show (upd (upd u 3 (nI (N + 1))) 4 (nI (fLine (g 7) L B).2.1)) 4 = nI (fLine (g 7) L B).2.1 from (zu_s _ _ _)]
        refine lv_aload_n hx hb dX2_read_49 rfl (lv_at hl 0 rfl) ?_
        refine gt_X2_length X hH q_186 dX2_read_50 ?_
        rw [show (upd (upd u 3 (nI (N + 1))) 4 (nI (fLine (g 7) L B).2.1)) 2 = u 2 from ((zu_n _ _ (by omega)).trans (zu_n _ _ (by omega)))]
        rw [eL]
        refine n_icmp_lt (A := (fLine (g 7) L B).2.1) (B := L) (tgt := 59) hx hb (by omega) (by omega) dX2_read_53 (by decide) (fun c7 => ?_) (fun c7 => ?_)
        · refine lv_aload_n hx hb dX2_read_59 rfl (lv_at hl 0 rfl) ?_
          refine va_ldcS hx hb hown hr6 dX2_read_60 ?_
          refine z_callVi X hH (c_X2_pass l D k a g (upd u 3 (nI (N + 1))) ((upd w1 N (fLine (g 7) L B).2.2.1)) ((upd t1 N (fLine (g 7) L B).2.2.2.1)) ((upd n1 N (fLine (g 7) L B).2.2.2.2)) L ((fLine (g 7) L B).2.1) (by rw [zu_n _ _ (show 2 ≠ 3 by decide)]; exact eL) hL (by omega) 6 (by decide)) k_X2_41 (rv_X2 X hH) [] rfl rfl hl.1 (Nat.le_of_ble_eq_true rfl) ⟨Nat.le_of_ble_eq_true rfl, Nat.le_of_ble_eq_true rfl⟩ ⟨Nat.le_refl _, Nat.le_refl _⟩ dX2_read_62 (fun r8 g9 H locs h10 hH => ?_)
          rw [h10.2] at hH
          rw [h10.1]
          have hp1 := fPass_z (x := g 7) 6 (by decide) hb1.2
          refine b_ifne (P := (fPass (g 7) L ((fLine (g 7) L B).2.1) (zCs 6)).1 = true) (tgt := 10) hx hb dX2_read_65 (by decide) (fun c11 => ?_) (fun c11 => ?_)
          · exact ih (N + 1) _ (upd w1 N (fLine (g 7) L B).2.2.1) (upd t1 N (fLine (g 7) L B).2.2.2.1) (upd n1 N (fLine (g 7) L B).2.2.2.2) (Ls ++ [(fLine (g 7) L B).2.2]) (by omega) hp1.2 (by rw [List.length_append, hLs]; rfl) (by rw [hv, (show fRd (g 7) L (kx + 1) B = ((fLine (g 7) L B).2.2 :: (fRd (g 7) L kx (fPass (g 7) L (fLine (g 7) L B).2.1 (zCs 6)).2).1, (fRd (g 7) L kx (fPass (g 7) L (fLine (g 7) L B).2.1 (zCs 6)).2).2) by rw [fRd, if_pos c6, if_pos c7, if_pos c11]), List.append_assoc]; rfl) (fun i hi => zEl hLs hel i (by rw [List.length_append, hLs]; exact hi)) _ _ _ hH hl
          · refine lv_aload_n hx hb dX2_read_68 rfl (lv_at hl 0 rfl) ?_
            refine gt_X2_at X hH q_196 dX2_read_69 ?_
            rw [show (upd (upd u 3 (nI (N + 1))) 4 (nI ((fPass (g 7) L ((fLine (g 7) L B).2.1) (zCs 6)).2))) 4 = nI ((fPass (g 7) L ((fLine (g 7) L B).2.1) (zCs 6)).2) from (zu_s _ _ _)]
            exact hret _ _ _ _ _ _ rfl ⟨_, _, _, _, rfl, (fun j h1 h2 => by rw [zu_n _ _ h2, zu_n _ _ h1]), (fun q => by rw [hv, (show fRd (g 7) L (kx + 1) B = ([(fLine (g 7) L B).2.2], some (fPass (g 7) L (fLine (g 7) L B).2.1 (zCs 6)).2) by rw [fRd, if_pos c6, if_pos c7, if_neg c11])] at q; cases q), (fun f q => by rw [hv, (show fRd (g 7) L (kx + 1) B = ([(fLine (g 7) L B).2.2], some (fPass (g 7) L (fLine (g 7) L B).2.1 (zCs 6)).2) by rw [fRd, if_pos c6, if_pos c7, if_neg c11])] at q; cases q; exact ⟨rfl, hp1.2⟩)⟩ hH dX2_read_72
        · refine lv_bipush (v := (-4)) hx hb dX2_read_56 (by decide) ?_
          exact hret _ _ _ _ _ _ rfl ⟨_, _, _, _, rfl, (fun j h1 h2 => by rw [zu_n _ _ h2, zu_n _ _ h1]), (fun q => ⟨rfl, by rw [hv, (show fRd (g 7) L (kx + 1) B = ([(fLine (g 7) L B).2.2], none) by rw [fRd, if_pos c6, if_neg (by omega)]), List.length_append, hLs]; rfl, by rw [hv, (show fRd (g 7) L (kx + 1) B = ([(fLine (g 7) L B).2.2], none) by rw [fRd, if_pos c6, if_neg (by omega)])]; exact zEl hLs hel⟩), (fun f q => by rw [hv, (show fRd (g 7) L (kx + 1) B = ([(fLine (g 7) L B).2.2], none) by rw [fRd, if_pos c6, if_neg (by omega)])] at q; cases q)⟩ hH dX2_read_58
      · rw [if_neg c6, if_neg c6, if_neg c6] at hH
        refine lv_aload_n hx hb dX2_read_30 rfl (lv_at hl 0 rfl) ?_
        refine gt_X2_at X hH q_196 dX2_read_31 ?_
        rw [show (upd (upd u 3 (nI N)) 4 (nI (fLine (g 7) L B).2.1)) 4 = nI (fLine (g 7) L B).2.1 from (zu_s _ _ _)]
        exact hret _ _ _ _ _ _ rfl ⟨_, _, _, _, rfl, (fun j h1 h2 => by rw [zu_n _ _ h2, zu_n _ _ h1]), (fun q => by rw [hv] at q; simp only [fRd, c6, if_false, Bool.false_eq_true] at q; cases q), (fun f q => by rw [hv] at q; simp only [fRd, c6, if_false, Bool.false_eq_true, Option.some.injEq] at q; rw [← q]; exact ⟨rfl, hb1.2⟩)⟩ hH dX2_read_34
  exact Lp 11 0 0 _ _ _ [] rfl (Nat.zero_le _) rfl rfl (fun i h => absurd h (Nat.not_lt_zero i)) _ _ _ hH hl
