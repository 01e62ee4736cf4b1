/-! the law's own methods: an act by a cell -/
def aN (Y : Nat) : Nat := if Y / 16 / 64 % 5 = 0 then 1 + Y / 16 / 512 % 9999 else 1 + Y / 16 / 512 % 60
def aAct (v : V) (Y : Nat) : Int32 × Option V :=
  if nI (Y % 16) = 0 then kTable v (nI (Y / 16 % 4)) (if Y / 16 / 4 % 2 = 0 then 1 else 0) (nI (if Y / 16 / 8 % 3 = 0 then 1 + Y / 16 / 32 % 9999 else 1 + Y / 16 / 32 % 200))
  else if nI (Y % 16) = 1 then kPin v (nI (Y / 16 % 12)) (if 0 < Y / 16 / 16 % 3 then 1 else 0)
  else if nI (Y % 16) = 2 then (if Y / 16 % 3 = 0 then kThrow v (nI (Y / 16 / 4 % 12)) else kMake v (nI (Y / 16 % 12)) (nI (Y / 16 / 16 % 3)) (nI (aN Y)) (nI (Y / 16 / 32 % 20)) (nI (Y / 16 / 32 % 20 + Y / 16 / 512 % 90)))
  else if nI (Y % 16) = 3 then kSet v (nI (Y / 16 % 5)) (nI (if Y / 16 % 5 = 3 then 1 + Y / 16 / 8 % 7 else if Y / 16 % 5 = 2 then 1 + Y / 16 / 8 % 30 else if Y / 16 % 5 = 0 then Y / 16 / 8 % 80 else 1 + Y / 16 / 8 % 6))
  else kAsk v (nI (Y / 16 % 9)) (nI (aN Y))
set_option maxRecDepth 100000 in
set_option maxHeartbeats 4000000 in
theorem c_L_acts (l : Launch) (D : va_G) (k : Nat → ClassId) (a : Nat → Nat → Nat) (g : Mem) (x : Nat) (hx4 : x < 4) (e6 : g 6 0 = nI x) (hjk : ∀ j, 160 ≤ j → g (2 + x) j = g 0 j) (hf : zFl (g 0)) (Y : Nat) (hY : Y < 2 ^ 31) : zI l yL_acts cL_acts 4 .int 7 168 D k a [.ref (a 6 0), .int (nI Y)] (g) (fun r g' => r = (aAct (g 0) Y).1 ∧ g' = zAct g (aAct (g 0) Y).2) := by
  refine zI_of (own := RL) (by decide +kernel) rfl (Nat.le_of_ble_eq_true rfl) ?_
  intro p e s m args below meth c X Q hret hH ls hl
  obtain ⟨hx, hb, hml, hown, hts⟩ := X.1
  have hl : lv_has ls 4 [(0, .ref (a 6 0)), (1, .int (nI Y))] := hl
  have hH : zH D k a s (g) s.heap [] := hH
  refine lv_iload_n hx hb dL_acts_0 rfl (lv_at hl 1 rfl) ?_
  refine lv_bipush (v := 16) hx hb dL_acts_1 (by decide) ?_
  refine n_idiv (A := Y) (B := 16) hx hb (Y / 16) rfl (by omega) (by omega) (by omega) dL_acts_3 ?_
  refine lv_istore_n (lv' := [(2, .int (nI (Y / 16))), (0, .ref (a 6 0)), (1, .int (nI Y))]) hx hb dL_acts_4 rfl hl (by decide) rfl (fun ls hl => ?_)
  have J39 : ∀ (H : Heap) (locs : List Loc) (ls : Array Slot), zH D k a s (g) H locs → lv_has ls 4 [(3, .int (nI (aN Y))), (2, .int (nI (Y / 16))), (0, .ref (a 6 0)), (1, .int (nI Y))] → W p l e (zRoom 7 168) s m args below meth c H locs 0 0 Q (F0 m 39 ls []) := by
    intro H locs ls hH hl
    refine lv_iload_n hx hb dL_acts_39 rfl (lv_at hl 3 rfl) ?_
    refine lv_bipush (v := 16) hx hb dL_acts_40 (by decide) ?_
    refine n_irem (A := Y) (B := 16) hx hb (Y % 16) rfl (by omega) (by omega) (by omega) dL_acts_42 ?_
    by_cases c1 : nI (Y % 16) = 0
    · refine lv_tableIn (off := 29) (tgt := 72) hx hb dL_acts_43 (by rw [c1]; decide) (by rw [c1]; decide) (by rw [c1]; rfl) (by decide) ?_
      refine lv_aload_n hx hb dL_acts_72 rfl (lv_at hl 2 rfl) ?_
      refine lv_iload_n hx hb dL_acts_73 rfl (lv_at hl 1 rfl) ?_
      refine lv_iconst (v := 4) hx hb dL_acts_74 (by decide) ?_
      refine n_irem (A := Y / 16) (B := 4) hx hb ((Y / 16) % 4) rfl (by omega) (by omega) (by omega) dL_acts_75 ?_
      refine lv_iload_n hx hb dL_acts_76 rfl (lv_at hl 1 rfl) ?_
      refine lv_iconst (v := 4) hx hb dL_acts_77 (by decide) ?_
      refine n_idiv (A := Y / 16) (B := 4) hx hb ((Y / 16) / 4) rfl (by omega) (by omega) (by omega) dL_acts_78 ?_
      refine lv_iconst (v := 2) hx hb dL_acts_79 (by decide) ?_
      refine n_irem (A := (Y / 16) / 4) (B := 2) hx hb (((Y / 16) / 4) % 2) rfl (by omega) (by omega) (by omega) dL_acts_80 ?_
      refine n_if_ne (A := ((Y / 16) / 4) % 2) (tgt := 88) hx hb (by omega) dL_acts_81 (by decide) (fun c2 => ?_) (fun c2 => ?_)
      · refine lv_iconst (v := 0) hx hb dL_acts_88 (by decide) ?_
        refine lv_iload_n hx hb dL_acts_89 rfl (lv_at hl 1 rfl) ?_
        refine lv_bipush (v := 8) hx hb dL_acts_90 (by decide) ?_
        refine n_idiv (A := Y / 16) (B := 8) hx hb ((Y / 16) / 8) rfl (by omega) (by omega) (by omega) dL_acts_92 ?_
        refine lv_iconst (v := 3) hx hb dL_acts_93 (by decide) ?_
        refine n_irem (A := (Y / 16) / 8) (B := 3) hx hb (((Y / 16) / 8) % 3) rfl (by omega) (by omega) (by omega) dL_acts_94 ?_
        refine n_if_ne (A := ((Y / 16) / 8) % 3) (tgt := 111) hx hb (by omega) dL_acts_95 (by decide) (fun c3 => ?_) (fun c3 => ?_)
        · refine lv_iconst (v := 1) hx hb dL_acts_111 (by decide) ?_
          refine lv_iload_n hx hb dL_acts_112 rfl (lv_at hl 1 rfl) ?_
          refine lv_bipush (v := 32) hx hb dL_acts_113 (by decide) ?_
          refine n_idiv (A := Y / 16) (B := 32) hx hb ((Y / 16) / 32) rfl (by omega) (by omega) (by omega) dL_acts_115 ?_
          refine lv_sipush (v := 200) hx hb dL_acts_116 (by decide) ?_
          refine n_irem (A := (Y / 16) / 32) (B := 200) hx hb (((Y / 16) / 32) % 200) rfl (by omega) (by omega) (by omega) dL_acts_119 ?_
          refine n_iadd (A := 1) (B := ((Y / 16) / 32) % 200) hx hb (1 + (((Y / 16) / 32) % 200)) (by omega) dL_acts_120 ?_
          refine z_callVi X hH (c_X5_table l D k a g x hx4 e6 hf hjk (nI ((Y / 16) % 4)) 0 (nI (1 + (((Y / 16) / 32) % 200))) (Or.inl rfl)) k_L_9 (rv_X5 X hH) [] rfl rfl hl.1 (Nat.le_of_ble_eq_true rfl) ⟨Nat.le_of_ble_eq_true rfl, Nat.le_of_ble_eq_true rfl⟩ ⟨Nat.le_refl _, Nat.le_refl _⟩ dL_acts_121 (fun r4 g5 H locs h6 hH => ?_)
          rw [h6.2] at hH
          rw [h6.1]
          exact hret _ _ _ _ _ _ rfl ⟨by simp only [aAct, if_pos c1, c2, c3, (by decide : ¬ (0 : Nat) = 3), (by decide : ¬ (0 : Nat) = 2), (by decide : ¬ (2 : Nat) = 3), if_true, if_false, not_true_eq_false, not_false_eq_true, true_or, or_true, false_or, or_false, or_self, Nat.lt_irrefl, true_and, and_true, and_self], by simp only [aAct, if_pos c1, c2, c3, (by decide : ¬ (0 : Nat) = 3), (by decide : ¬ (0 : Nat) = 2), (by decide : ¬ (2 : Nat) = 3), if_true, if_false, not_true_eq_false, not_false_eq_true, true_or, or_true, false_or, or_false, or_self, Nat.lt_irrefl, true_and, and_true, and_self]⟩ hH dL_acts_124
        · refine lv_iconst (v := 1) hx hb dL_acts_98 (by decide) ?_
          refine lv_iload_n hx hb dL_acts_99 rfl (lv_at hl 1 rfl) ?_
          refine lv_bipush (v := 32) hx hb dL_acts_100 (by decide) ?_
          refine n_idiv (A := Y / 16) (B := 32) hx hb ((Y / 16) / 32) rfl (by omega) (by omega) (by omega) dL_acts_102 ?_
          refine lv_sipush (v := 9999) hx hb dL_acts_103 (by decide) ?_
          refine n_irem (A := (Y / 16) / 32) (B := 9999) hx hb (((Y / 16) / 32) % 9999) rfl (by omega) (by omega) (by omega) dL_acts_106 ?_
          refine n_iadd (A := 1) (B := ((Y / 16) / 32) % 9999) hx hb (1 + (((Y / 16) / 32) % 9999)) (by omega) dL_acts_107 ?_
          refine lv_goto (tgt := 121) hx hb dL_acts_108 (by decide) ?_
          refine z_callVi X hH (c_X5_table l D k a g x hx4 e6 hf hjk (nI ((Y / 16) % 4)) 0 (nI (1 + (((Y / 16) / 32) % 9999))) (Or.inl rfl)) k_L_9 (rv_X5 X hH) [] rfl rfl hl.1 (Nat.le_of_ble_eq_true rfl) ⟨Nat.le_of_ble_eq_true rfl, Nat.le_of_ble_eq_true rfl⟩ ⟨Nat.le_refl _, Nat.le_refl _⟩ dL_acts_121 (fun r7 g8 H locs h9 hH => ?_)
          rw [h9.2] at hH
          rw [h9.1]
          exact hret _ _ _ _ _ _ rfl ⟨by simp only [aAct, if_pos c1, c2, c3, (by decide : ¬ (0 : Nat) = 3), (by decide : ¬ (0 : Nat) = 2), (by decide : ¬ (2 : Nat) = 3), if_true, if_false, not_true_eq_false, not_false_eq_true, true_or, or_true, false_or, or_false, or_self, Nat.lt_irrefl, true_and, and_true, and_self], by simp only [aAct, if_pos c1, c2, c3, (by decide : ¬ (0 : Nat) = 3), (by decide : ¬ (0 : Nat) = 2), (by decide : ¬ (2 : Nat) = 3), if_true, if_false, not_true_eq_false, not_false_eq_true, true_or, or_true, false_or, or_false, or_self, Nat.lt_irrefl, true_and, and_true, and_self]⟩ hH dL_acts_124
      · refine lv_iconst (v := 1) hx hb dL_acts_84 (by decide) ?_
        refine lv_goto (tgt := 89) hx hb dL_acts_85 (by decide) ?_
        refine lv_iload_n hx hb dL_acts_89 rfl (lv_at hl 1 rfl) ?_
        refine lv_bipush (v := 8) hx hb dL_acts_90 (by decide) ?_
        refine n_idiv (A := Y / 16) (B := 8) hx hb ((Y / 16) / 8) rfl (by omega) (by omega) (by omega) dL_acts_92 ?_
        refine lv_iconst (v := 3) hx hb dL_acts_93 (by decide) ?_
        refine n_irem (A := (Y / 16) / 8) (B := 3) hx hb (((Y / 16) / 8) % 3) rfl (by omega) (by omega) (by omega) dL_acts_94 ?_
        refine n_if_ne (A := ((Y / 16) / 8) % 3) (tgt := 111) hx hb (by omega) dL_acts_95 (by decide) (fun c10 => ?_) (fun c10 => ?_)
        · refine lv_iconst (v := 1) hx hb dL_acts_111 (by decide) ?_
          refine lv_iload_n hx hb dL_acts_112 rfl (lv_at hl 1 rfl) ?_
          refine lv_bipush (v := 32) hx hb dL_acts_113 (by decide) ?_
          refine n_idiv (A := Y / 16) (B := 32) hx hb ((Y / 16) / 32) rfl (by omega) (by omega) (by omega) dL_acts_115 ?_
          refine lv_sipush (v := 200) hx hb dL_acts_116 (by decide) ?_
          refine n_irem (A := (Y / 16) / 32) (B := 200) hx hb (((Y / 16) / 32) % 200) rfl (by omega) (by omega) (by omega) dL_acts_119 ?_
          refine n_iadd (A := 1) (B := ((Y / 16) / 32) % 200) hx hb (1 + (((Y / 16) / 32) % 200)) (by omega) dL_acts_120 ?_
          refine z_callVi X hH (c_X5_table l D k a g x hx4 e6 hf hjk (nI ((Y / 16) % 4)) 1 (nI (1 + (((Y / 16) / 32) % 200))) (Or.inr rfl)) k_L_9 (rv_X5 X hH) [] rfl rfl hl.1 (Nat.le_of_ble_eq_true rfl) ⟨Nat.le_of_ble_eq_true rfl, Nat.le_of_ble_eq_true rfl⟩ ⟨Nat.le_refl _, Nat.le_refl _⟩ dL_acts_121 (fun r11 g12 H locs h13 hH => ?_)
          rw [h13.2] at hH
          rw [h13.1]
          exact hret _ _ _ _ _ _ rfl ⟨by simp only [aAct, if_pos c1, c2, c10, (by decide : ¬ (0 : Nat) = 3), (by decide : ¬ (0 : Nat) = 2), (by decide : ¬ (2 : Nat) = 3), if_true, if_false, not_true_eq_false, not_false_eq_true, true_or, or_true, false_or, or_false, or_self, Nat.lt_irrefl, true_and, and_true, and_self], by simp only [aAct, if_pos c1, c2, c10, (by decide : ¬ (0 : Nat) = 3), (by decide : ¬ (0 : Nat) = 2), (by decide : ¬ (2 : Nat) = 3), if_true, if_false, not_true_eq_false, not_false_eq_true, true_or, or_true, false_or, or_false, or_self, Nat.lt_irrefl, true_and, and_true, and_self]⟩ hH dL_acts_124
        · refine lv_iconst (v := 1) hx hb dL_acts_98 (by decide) ?_
          refine lv_iload_n hx hb dL_acts_99 rfl (lv_at hl 1 rfl) ?_
          refine lv_bipush (v := 32) hx hb dL_acts_100 (by decide) ?_
          refine n_idiv (A := Y / 16) (B := 32) hx hb ((Y / 16) / 32) rfl (by omega) (by omega) (by omega) dL_acts_102 ?_
          refine lv_sipush (v := 9999) hx hb dL_acts_103 (by decide) ?_
          refine n_irem (A := (Y / 16) / 32) (B := 9999) hx hb (((Y / 16) / 32) % 9999) rfl (by omega) (by omega) (by omega) dL_acts_106 ?_
          refine n_iadd (A := 1) (B := ((Y / 16) / 32) % 9999) hx hb (1 + (((Y / 16) / 32) % 9999)) (by omega) dL_acts_107 ?_
          refine lv_goto (tgt := 121) hx hb dL_acts_108 (by decide) ?_
          refine z_callVi X hH (c_X5_table l D k a g x hx4 e6 hf hjk (nI ((Y / 16) % 4)) 1 (nI (1 + (((Y / 16) / 32) % 9999))) (Or.inr rfl)) k_L_9 (rv_X5 X hH) [] rfl rfl hl.1 (Nat.le_of_ble_eq_true rfl) ⟨Nat.le_of_ble_eq_true rfl, Nat.le_of_ble_eq_true rfl⟩ ⟨Nat.le_refl _, Nat.le_refl _⟩ dL_acts_121 (fun r14 g15 H locs h16 hH => ?_)
          rw [h16.2] at hH
          rw [h16.1]
          exact hret _ _ _ _ _ _ rfl ⟨by simp only [aAct, if_pos c1, c2, c10, (by decide : ¬ (0 : Nat) = 3), (by decide : ¬ (0 : Nat) = 2), (by decide : ¬ (2 : Nat) = 3), if_true, if_false, not_true_eq_false, not_false_eq_true, true_or, or_true, false_or, or_false, or_self, Nat.lt_irrefl, true_and, and_true, and_self], by simp only [aAct, if_pos c1, c2, c10, (by decide : ¬ (0 : Nat) = 3), (by decide : ¬ (0 : Nat) = 2), (by decide : ¬ (2 : Nat) = 3), if_true, if_false, not_true_eq_false, not_false_eq_true, true_or, or_true, false_or, or_false, or_self, Nat.lt_irrefl, true_and, and_true, and_self]⟩ hH dL_acts_124
    by_cases c17 : nI (Y % 16) = 1
    · refine lv_tableIn (off := 82) (tgt := 125) hx hb dL_acts_43 (by rw [c17]; decide) (by rw [c17]; decide) (by rw [c17]; rfl) (by decide) ?_
      refine lv_aload_n hx hb dL_acts_125 rfl (lv_at hl 2 rfl) ?_
      refine lv_iload_n hx hb dL_acts_126 rfl (lv_at hl 1 rfl) ?_
      refine lv_bipush (v := 12) hx hb dL_acts_127 (by decide) ?_
      refine n_irem (A := Y / 16) (B := 12) hx hb ((Y / 16) % 12) rfl (by omega) (by omega) (by omega) dL_acts_129 ?_
      refine lv_iload_n hx hb dL_acts_130 rfl (lv_at hl 1 rfl) ?_
      refine lv_bipush (v := 16) hx hb dL_acts_131 (by decide) ?_
      refine n_idiv (A := Y / 16) (B := 16) hx hb ((Y / 16) / 16) rfl (by omega) (by omega) (by omega) dL_acts_133 ?_
      refine lv_iconst (v := 3) hx hb dL_acts_134 (by decide) ?_
      refine n_irem (A := (Y / 16) / 16) (B := 3) hx hb (((Y / 16) / 16) % 3) rfl (by omega) (by omega) (by omega) dL_acts_135 ?_
      refine n_if_le (A := ((Y / 16) / 16) % 3) (tgt := 143) hx hb (by omega) dL_acts_136 (by decide) (fun c18 => ?_) (fun c18 => ?_)
      · refine lv_iconst (v := 0) hx hb dL_acts_143 (by decide) ?_
        refine z_callVi X hH (c_X5_pin l D k a g x hx4 e6 hf hjk (nI ((Y / 16) % 12)) 0 (Or.inl rfl)) k_L_15 (rv_X5 X hH) [] rfl rfl hl.1 (Nat.le_of_ble_eq_true rfl) ⟨Nat.le_of_ble_eq_true rfl, Nat.le_of_ble_eq_true rfl⟩ ⟨Nat.le_refl _, Nat.le_refl _⟩ dL_acts_144 (fun r19 g20 H locs h21 hH => ?_)
        rw [h21.2] at hH
        rw [h21.1]
        exact hret _ _ _ _ _ _ rfl ⟨by simp only [aAct, c1, if_pos c17, c18, (by decide : ¬ (0 : Nat) = 3), (by decide : ¬ (0 : Nat) = 2), (by decide : ¬ (2 : Nat) = 3), if_true, if_false, not_true_eq_false, not_false_eq_true, true_or, or_true, false_or, or_false, or_self, Nat.lt_irrefl, true_and, and_true, and_self], by simp only [aAct, c1, if_pos c17, c18, (by decide : ¬ (0 : Nat) = 3), (by decide : ¬ (0 : Nat) = 2), (by decide : ¬ (2 : Nat) = 3), if_true, if_false, not_true_eq_false, not_false_eq_true, true_or, or_true, false_or, or_false, or_self, Nat.lt_irrefl, true_and, and_true, and_self]⟩ hH dL_acts_147
      · refine lv_iconst (v := 1) hx hb dL_acts_139 (by decide) ?_
        refine lv_goto (tgt := 144) hx hb dL_acts_140 (by decide) ?_
        refine z_callVi X hH (c_X5_pin l D k a g x hx4 e6 hf hjk (nI ((Y / 16) % 12)) 1 (Or.inr rfl)) k_L_15 (rv_X5 X hH) [] rfl rfl hl.1 (Nat.le_of_ble_eq_true rfl) ⟨Nat.le_of_ble_eq_true rfl, Nat.le_of_ble_eq_true rfl⟩ ⟨Nat.le_refl _, Nat.le_refl _⟩ dL_acts_144 (fun r22 g23 H locs h24 hH => ?_)
        rw [h24.2] at hH
        rw [h24.1]
        exact hret _ _ _ _ _ _ rfl ⟨by simp only [aAct, c1, if_pos c17, c18, (by decide : ¬ (0 : Nat) = 3), (by decide : ¬ (0 : Nat) = 2), (by decide : ¬ (2 : Nat) = 3), if_true, if_false, not_true_eq_false, not_false_eq_true, true_or, or_true, false_or, or_false, or_self, Nat.lt_irrefl, true_and, and_true, and_self], by simp only [aAct, c1, if_pos c17, c18, (by decide : ¬ (0 : Nat) = 3), (by decide : ¬ (0 : Nat) = 2), (by decide : ¬ (2 : Nat) = 3), if_true, if_false, not_true_eq_false, not_false_eq_true, true_or, or_true, false_or, or_false, or_self, Nat.lt_irrefl, true_and, and_true, and_self]⟩ hH dL_acts_147
    by_cases c25 : nI (Y % 16) = 2
    · refine lv_tableIn (off := 105) (tgt := 148) hx hb dL_acts_43 (by rw [c25]; decide) (by rw [c25]; decide) (by rw [c25]; rfl) (by decide) ?_
      refine lv_iload_n hx hb dL_acts_148 rfl (lv_at hl 1 rfl) ?_
      refine lv_iconst (v := 3) hx hb dL_acts_149 (by decide) ?_
      refine n_irem (A := Y / 16) (B := 3) hx hb ((Y / 16) % 3) rfl (by omega) (by omega) (by omega) dL_acts_150 ?_
      refine n_if_ne (A := (Y / 16) % 3) (tgt := 167) hx hb (by omega) dL_acts_151 (by decide) (fun c26 => ?_) (fun c26 => ?_)
      · refine lv_aload_n hx hb dL_acts_167 rfl (lv_at hl 2 rfl) ?_
        refine lv_iload_n hx hb dL_acts_168 rfl (lv_at hl 1 rfl) ?_
        refine lv_bipush (v := 12) hx hb dL_acts_169 (by decide) ?_
        refine n_irem (A := Y / 16) (B := 12) hx hb ((Y / 16) % 12) rfl (by omega) (by omega) (by omega) dL_acts_171 ?_
        refine lv_iload_n hx hb dL_acts_172 rfl (lv_at hl 1 rfl) ?_
        refine lv_bipush (v := 16) hx hb dL_acts_173 (by decide) ?_
        refine n_idiv (A := Y / 16) (B := 16) hx hb ((Y / 16) / 16) rfl (by omega) (by omega) (by omega) dL_acts_175 ?_
        refine lv_iconst (v := 3) hx hb dL_acts_176 (by decide) ?_
        refine n_irem (A := (Y / 16) / 16) (B := 3) hx hb (((Y / 16) / 16) % 3) rfl (by omega) (by omega) (by omega) dL_acts_177 ?_
        refine lv_iload_n hx hb dL_acts_178 rfl (lv_at hl 0 rfl) ?_
        refine lv_iload_n hx hb dL_acts_179 rfl (lv_at hl 1 rfl) ?_
        refine lv_bipush (v := 32) hx hb dL_acts_180 (by decide) ?_
        refine n_idiv (A := Y / 16) (B := 32) hx hb ((Y / 16) / 32) rfl (by omega) (by omega) (by omega) dL_acts_182 ?_
        refine lv_bipush (v := 20) hx hb dL_acts_183 (by decide) ?_
        refine n_irem (A := (Y / 16) / 32) (B := 20) hx hb (((Y / 16) / 32) % 20) rfl (by omega) (by omega) (by omega) dL_acts_185 ?_
        refine lv_iload_n hx hb dL_acts_186 rfl (lv_at hl 1 rfl) ?_
        refine lv_bipush (v := 32) hx hb dL_acts_187 (by decide) ?_
        refine n_idiv (A := Y / 16) (B := 32) hx hb ((Y / 16) / 32) rfl (by omega) (by omega) (by omega) dL_acts_189 ?_
        refine lv_bipush (v := 20) hx hb dL_acts_190 (by decide) ?_
        refine n_irem (A := (Y / 16) / 32) (B := 20) hx hb (((Y / 16) / 32) % 20) rfl (by omega) (by omega) (by omega) dL_acts_192 ?_
        refine lv_iload_n hx hb dL_acts_193 rfl (lv_at hl 1 rfl) ?_
        refine lv_sipush (v := 512) hx hb dL_acts_194 (by decide) ?_
        refine n_idiv (A := Y / 16) (B := 512) hx hb ((Y / 16) / 512) rfl (by omega) (by omega) (by omega) dL_acts_197 ?_
        refine lv_bipush (v := 90) hx hb dL_acts_198 (by decide) ?_
        refine n_irem (A := (Y / 16) / 512) (B := 90) hx hb (((Y / 16) / 512) % 90) rfl (by omega) (by omega) (by omega) dL_acts_200 ?_
        refine n_iadd (A := ((Y / 16) / 32) % 20) (B := ((Y / 16) / 512) % 90) hx hb (((Y / 16) / 32) % 20 + (((Y / 16) / 512) % 90)) (by omega) dL_acts_201 ?_
        refine z_callVi X hH (c_X5_make l D k a g x hx4 e6 hf hjk (nI ((Y / 16) % 12)) (nI (((Y / 16) / 16) % 3)) (nI (aN Y)) (nI (((Y / 16) / 32) % 20)) (nI (((Y / 16) / 32) % 20 + (((Y / 16) / 512) % 90)))) k_L_23 (rv_X5 X hH) [] rfl rfl hl.1 (Nat.le_of_ble_eq_true rfl) ⟨Nat.le_of_ble_eq_true rfl, Nat.le_of_ble_eq_true rfl⟩ ⟨Nat.le_refl _, Nat.le_refl _⟩ dL_acts_202 (fun r27 g28 H locs h29 hH => ?_)
        rw [h29.2] at hH
        rw [h29.1]
        exact hret _ _ _ _ _ _ rfl ⟨by simp only [aAct, c1, c17, if_pos c25, c26, (by decide : ¬ (0 : Nat) = 3), (by decide : ¬ (0 : Nat) = 2), (by decide : ¬ (2 : Nat) = 3), if_true, if_false, not_true_eq_false, not_false_eq_true, true_or, or_true, false_or, or_false, or_self, Nat.lt_irrefl, true_and, and_true, and_self], by simp only [aAct, c1, c17, if_pos c25, c26, (by decide : ¬ (0 : Nat) = 3), (by decide : ¬ (0 : Nat) = 2), (by decide : ¬ (2 : Nat) = 3), if_true, if_false, not_true_eq_false, not_false_eq_true, true_or, or_true, false_or, or_false, or_self, Nat.lt_irrefl, true_and, and_true, and_self]⟩ hH dL_acts_205
      · refine lv_aload_n hx hb dL_acts_154 rfl (lv_at hl 2 rfl) ?_
        refine lv_iload_n hx hb dL_acts_155 rfl (lv_at hl 1 rfl) ?_
        refine lv_iconst (v := 4) hx hb dL_acts_156 (by decide) ?_
        refine n_idiv (A := Y / 16) (B := 4) hx hb ((Y / 16) / 4) rfl (by omega) (by omega) (by omega) dL_acts_157 ?_
        refine lv_bipush (v := 12) hx hb dL_acts_158 (by decide) ?_
        refine n_irem (A := (Y / 16) / 4) (B := 12) hx hb (((Y / 16) / 4) % 12) rfl (by omega) (by omega) (by omega) dL_acts_160 ?_
        refine z_callVi X hH (c_X5_throwOut l D k a g x hx4 e6 hf hjk (nI (((Y / 16) / 4) % 12))) k_L_19 (rv_X5 X hH) [] rfl rfl hl.1 (Nat.le_of_ble_eq_true rfl) ⟨Nat.le_of_ble_eq_true rfl, Nat.le_of_ble_eq_true rfl⟩ ⟨Nat.le_refl _, Nat.le_refl _⟩ dL_acts_161 (fun r30 g31 H locs h32 hH => ?_)
        rw [h32.2] at hH
        rw [h32.1]
        refine lv_goto (tgt := 205) hx hb dL_acts_164 (by decide) ?_
        exact hret _ _ _ _ _ _ rfl ⟨by simp only [aAct, c1, c17, if_pos c25, c26, (by decide : ¬ (0 : Nat) = 3), (by decide : ¬ (0 : Nat) = 2), (by decide : ¬ (2 : Nat) = 3), if_true, if_false, not_true_eq_false, not_false_eq_true, true_or, or_true, false_or, or_false, or_self, Nat.lt_irrefl, true_and, and_true, and_self], by simp only [aAct, c1, c17, if_pos c25, c26, (by decide : ¬ (0 : Nat) = 3), (by decide : ¬ (0 : Nat) = 2), (by decide : ¬ (2 : Nat) = 3), if_true, if_false, not_true_eq_false, not_false_eq_true, true_or, or_true, false_or, or_false, or_self, Nat.lt_irrefl, true_and, and_true, and_self]⟩ hH dL_acts_205
    by_cases c33 : nI (Y % 16) = 3
    · refine lv_tableIn (off := 163) (tgt := 206) hx hb dL_acts_43 (by rw [c33]; decide) (by rw [c33]; decide) (by rw [c33]; rfl) (by decide) ?_
      refine lv_aload_n hx hb dL_acts_206 rfl (lv_at hl 2 rfl) ?_
      refine lv_iload_n hx hb dL_acts_207 rfl (lv_at hl 1 rfl) ?_
      refine lv_iconst (v := 5) hx hb dL_acts_208 (by decide) ?_
      refine n_irem (A := Y / 16) (B := 5) hx hb ((Y / 16) % 5) rfl (by omega) (by omega) (by omega) dL_acts_209 ?_
      refine lv_iload_n hx hb dL_acts_210 rfl (lv_at hl 1 rfl) ?_
      refine lv_iconst (v := 5) hx hb dL_acts_211 (by decide) ?_
      refine n_irem (A := Y / 16) (B := 5) hx hb ((Y / 16) % 5) rfl (by omega) (by omega) (by omega) dL_acts_212 ?_
      refine lv_iconst (v := 3) hx hb dL_acts_213 (by decide) ?_
      refine n_icmp_ne (A := (Y / 16) % 5) (B := 3) (tgt := 229) hx hb (by omega) (by omega) dL_acts_214 (by decide) (fun c34 => ?_) (fun c34 => ?_)
      · refine lv_iload_n hx hb dL_acts_229 rfl (lv_at hl 1 rfl) ?_
        refine lv_iconst (v := 5) hx hb dL_acts_230 (by decide) ?_
        refine n_irem (A := Y / 16) (B := 5) hx hb ((Y / 16) % 5) rfl (by omega) (by omega) (by omega) dL_acts_231 ?_
        refine lv_iconst (v := 2) hx hb dL_acts_232 (by decide) ?_
        refine n_icmp_ne (A := (Y / 16) % 5) (B := 2) (tgt := 248) hx hb (by omega) (by omega) dL_acts_233 (by decide) (fun c35 => ?_) (fun c35 => ?_)
        · refine lv_iload_n hx hb dL_acts_248 rfl (lv_at hl 1 rfl) ?_
          refine lv_iconst (v := 5) hx hb dL_acts_249 (by decide) ?_
          refine n_irem (A := Y / 16) (B := 5) hx hb ((Y / 16) % 5) rfl (by omega) (by omega) (by omega) dL_acts_250 ?_
          refine n_if_ne (A := (Y / 16) % 5) (tgt := 264) hx hb (by omega) dL_acts_251 (by decide) (fun c36 => ?_) (fun c36 => ?_)
          · refine lv_iconst (v := 1) hx hb dL_acts_264 (by decide) ?_
            refine lv_iload_n hx hb dL_acts_265 rfl (lv_at hl 1 rfl) ?_
            refine lv_bipush (v := 8) hx hb dL_acts_266 (by decide) ?_
            refine n_idiv (A := Y / 16) (B := 8) hx hb ((Y / 16) / 8) rfl (by omega) (by omega) (by omega) dL_acts_268 ?_
            refine lv_bipush (v := 6) hx hb dL_acts_269 (by decide) ?_
            refine n_irem (A := (Y / 16) / 8) (B := 6) hx hb (((Y / 16) / 8) % 6) rfl (by omega) (by omega) (by omega) dL_acts_271 ?_
            refine n_iadd (A := 1) (B := ((Y / 16) / 8) % 6) hx hb (1 + (((Y / 16) / 8) % 6)) (by omega) dL_acts_272 ?_
            refine z_callVi X hH (c_X5_set l D k a g x hx4 e6 hf hjk (nI ((Y / 16) % 5)) (nI (1 + (((Y / 16) / 8) % 6)))) k_L_27 (rv_X5 X hH) [] rfl rfl hl.1 (Nat.le_of_ble_eq_true rfl) ⟨Nat.le_of_ble_eq_true rfl, Nat.le_of_ble_eq_true rfl⟩ ⟨Nat.le_refl _, Nat.le_refl _⟩ dL_acts_273 (fun r37 g38 H locs h39 hH => ?_)
            rw [h39.2] at hH
            rw [h39.1]
            exact hret _ _ _ _ _ _ rfl ⟨by simp only [aAct, c1, c17, c25, if_pos c33, c34, c35, c36, (by decide : ¬ (0 : Nat) = 3), (by decide : ¬ (0 : Nat) = 2), (by decide : ¬ (2 : Nat) = 3), if_true, if_false, not_true_eq_false, not_false_eq_true, true_or, or_true, false_or, or_false, or_self, Nat.lt_irrefl, true_and, and_true, and_self], by simp only [aAct, c1, c17, c25, if_pos c33, c34, c35, c36, (by decide : ¬ (0 : Nat) = 3), (by decide : ¬ (0 : Nat) = 2), (by decide : ¬ (2 : Nat) = 3), if_true, if_false, not_true_eq_false, not_false_eq_true, true_or, or_true, false_or, or_false, or_self, Nat.lt_irrefl, true_and, and_true, and_self]⟩ hH dL_acts_276
          · refine lv_iload_n hx hb dL_acts_254 rfl (lv_at hl 1 rfl) ?_
            refine lv_bipush (v := 8) hx hb dL_acts_255 (by decide) ?_
            refine n_idiv (A := Y / 16) (B := 8) hx hb ((Y / 16) / 8) rfl (by omega) (by omega) (by omega) dL_acts_257 ?_
            refine lv_bipush (v := 80) hx hb dL_acts_258 (by decide) ?_
            refine n_irem (A := (Y / 16) / 8) (B := 80) hx hb (((Y / 16) / 8) % 80) rfl (by omega) (by omega) (by omega) dL_acts_260 ?_
            refine lv_goto (tgt := 273) hx hb dL_acts_261 (by decide) ?_
            refine z_callVi X hH (c_X5_set l D k a g x hx4 e6 hf hjk (nI ((Y / 16) % 5)) (nI (((Y / 16) / 8) % 80))) k_L_27 (rv_X5 X hH) [] rfl rfl hl.1 (Nat.le_of_ble_eq_true rfl) ⟨Nat.le_of_ble_eq_true rfl, Nat.le_of_ble_eq_true rfl⟩ ⟨Nat.le_refl _, Nat.le_refl _⟩ dL_acts_273 (fun r40 g41 H locs h42 hH => ?_)
            rw [h42.2] at hH
            rw [h42.1]
            exact hret _ _ _ _ _ _ rfl ⟨by simp only [aAct, c1, c17, c25, if_pos c33, c34, c35, c36, (by decide : ¬ (0 : Nat) = 3), (by decide : ¬ (0 : Nat) = 2), (by decide : ¬ (2 : Nat) = 3), if_true, if_false, not_true_eq_false, not_false_eq_true, true_or, or_true, false_or, or_false, or_self, Nat.lt_irrefl, true_and, and_true, and_self], by simp only [aAct, c1, c17, c25, if_pos c33, c34, c35, c36, (by decide : ¬ (0 : Nat) = 3), (by decide : ¬ (0 : Nat) = 2), (by decide : ¬ (2 : Nat) = 3), if_true, if_false, not_true_eq_false, not_false_eq_true, true_or, or_true, false_or, or_false, or_self, Nat.lt_irrefl, true_and, and_true, and_self]⟩ hH dL_acts_276
        · refine lv_iconst (v := 1) hx hb dL_acts_236 (by decide) ?_
          refine lv_iload_n hx hb dL_acts_237 rfl (lv_at hl 1 rfl) ?_
          refine lv_bipush (v := 8) hx hb dL_acts_238 (by decide) ?_
          refine n_idiv (A := Y / 16) (B := 8) hx hb ((Y / 16) / 8) rfl (by omega) (by omega) (by omega) dL_acts_240 ?_
          refine lv_bipush (v := 30) hx hb dL_acts_241 (by decide) ?_
          refine n_irem (A := (Y / 16) / 8) (B := 30) hx hb (((Y / 16) / 8) % 30) rfl (by omega) (by omega) (by omega) dL_acts_243 ?_
          refine n_iadd (A := 1) (B := ((Y / 16) / 8) % 30) hx hb (1 + (((Y / 16) / 8) % 30)) (by omega) dL_acts_244 ?_
          refine lv_goto (tgt := 273) hx hb dL_acts_245 (by decide) ?_
          refine z_callVi X hH (c_X5_set l D k a g x hx4 e6 hf hjk (nI ((Y / 16) % 5)) (nI (1 + (((Y / 16) / 8) % 30)))) k_L_27 (rv_X5 X hH) [] rfl rfl hl.1 (Nat.le_of_ble_eq_true rfl) ⟨Nat.le_of_ble_eq_true rfl, Nat.le_of_ble_eq_true rfl⟩ ⟨Nat.le_refl _, Nat.le_refl _⟩ dL_acts_273 (fun r43 g44 H locs h45 hH => ?_)
          rw [h45.2] at hH
          rw [h45.1]
          exact hret _ _ _ _ _ _ rfl ⟨by simp only [aAct, c1, c17, c25, if_pos c33, c34, c35, (by decide : ¬ (0 : Nat) = 3), (by decide : ¬ (0 : Nat) = 2), (by decide : ¬ (2 : Nat) = 3), if_true, if_false, not_true_eq_false, not_false_eq_true, true_or, or_true, false_or, or_false, or_self, Nat.lt_irrefl, true_and, and_true, and_self], by simp only [aAct, c1, c17, c25, if_pos c33, c34, c35, (by decide : ¬ (0 : Nat) = 3), (by decide : ¬ (0 : Nat) = 2), (by decide : ¬ (2 : Nat) = 3), if_true, if_false, not_true_eq_false, not_false_eq_true, true_or, or_true, false_or, or_false, or_self, Nat.lt_irrefl, true_and, and_true, and_self]⟩ hH dL_acts_276
      · refine lv_iconst (v := 1) hx hb dL_acts_217 (by decide) ?_
        refine lv_iload_n hx hb dL_acts_218 rfl (lv_at hl 1 rfl) ?_
        refine lv_bipush (v := 8) hx hb dL_acts_219 (by decide) ?_
        refine n_idiv (A := Y / 16) (B := 8) hx hb ((Y / 16) / 8) rfl (by omega) (by omega) (by omega) dL_acts_221 ?_
        refine lv_bipush (v := 7) hx hb dL_acts_222 (by decide) ?_
        refine n_irem (A := (Y / 16) / 8) (B := 7) hx hb (((Y / 16) / 8) % 7) rfl (by omega) (by omega) (by omega) dL_acts_224 ?_
        refine n_iadd (A := 1) (B := ((Y / 16) / 8) % 7) hx hb (1 + (((Y / 16) / 8) % 7)) (by omega) dL_acts_225 ?_
        refine lv_goto (tgt := 273) hx hb dL_acts_226 (by decide) ?_
        refine z_callVi X hH (c_X5_set l D k a g x hx4 e6 hf hjk (nI ((Y / 16) % 5)) (nI (1 + (((Y / 16) / 8) % 7)))) k_L_27 (rv_X5 X hH) [] rfl rfl hl.1 (Nat.le_of_ble_eq_true rfl) ⟨Nat.le_of_ble_eq_true rfl, Nat.le_of_ble_eq_true rfl⟩ ⟨Nat.le_refl _, Nat.le_refl _⟩ dL_acts_273 (fun r46 g47 H locs h48 hH => ?_)
        rw [h48.2] at hH
        rw [h48.1]
        exact hret _ _ _ _ _ _ rfl ⟨by simp only [aAct, c1, c17, c25, if_pos c33, c34, (by decide : ¬ (0 : Nat) = 3), (by decide : ¬ (0 : Nat) = 2), (by decide : ¬ (2 : Nat) = 3), if_true, if_false, not_true_eq_false, not_false_eq_true, true_or, or_true, false_or, or_false, or_self, Nat.lt_irrefl, true_and, and_true, and_self], by simp only [aAct, c1, c17, c25, if_pos c33, c34, (by decide : ¬ (0 : Nat) = 3), (by decide : ¬ (0 : Nat) = 2), (by decide : ¬ (2 : Nat) = 3), if_true, if_false, not_true_eq_false, not_false_eq_true, true_or, or_true, false_or, or_false, or_self, Nat.lt_irrefl, true_and, and_true, and_self]⟩ hH dL_acts_276
    refine lv_tableOut (tgt := 277) hx hb dL_acts_43 (by have q0 := lv_neT (a := 0) c1 (by decide); have q1 := lv_neT (a := 1) c17 (by decide); have q2 := lv_neT (a := 2) c25 (by decide); have q3 := lv_neT (a := 3) c33 (by decide); omega) (by decide) ?_
    refine lv_aload_n hx hb dL_acts_277 rfl (lv_at hl 2 rfl) ?_
    refine lv_iload_n hx hb dL_acts_278 rfl (lv_at hl 1 rfl) ?_
    refine lv_bipush (v := 9) hx hb dL_acts_279 (by decide) ?_
    refine n_irem (A := Y / 16) (B := 9) hx hb ((Y / 16) % 9) rfl (by omega) (by omega) (by omega) dL_acts_281 ?_
    refine lv_iload_n hx hb dL_acts_282 rfl (lv_at hl 0 rfl) ?_
    refine z_callVi X hH (c_X5_ask l D k a g x hx4 e6 hf hjk (nI ((Y / 16) % 9)) (nI (aN Y))) k_L_31 (rv_X5 X hH) [] rfl rfl hl.1 (Nat.le_of_ble_eq_true rfl) ⟨Nat.le_of_ble_eq_true rfl, Nat.le_of_ble_eq_true rfl⟩ ⟨Nat.le_refl _, Nat.le_refl _⟩ dL_acts_283 (fun r49 g50 H locs h51 hH => ?_)
    rw [h51.2] at hH
    rw [h51.1]
    exact hret _ _ _ _ _ _ rfl ⟨by simp only [aAct, c1, c17, c25, c33, (by decide : ¬ (0 : Nat) = 3), (by decide : ¬ (0 : Nat) = 2), (by decide : ¬ (2 : Nat) = 3), if_true, if_false, not_true_eq_false, not_false_eq_true, true_or, or_true, false_or, or_false, or_self, Nat.lt_irrefl, true_and, and_true, and_self], by simp only [aAct, c1, c17, c25, c33, (by decide : ¬ (0 : Nat) = 3), (by decide : ¬ (0 : Nat) = 2), (by decide : ¬ (2 : Nat) = 3), if_true, if_false, not_true_eq_false, not_false_eq_true, true_or, or_true, false_or, or_false, or_self, Nat.lt_irrefl, true_and, and_true, and_self]⟩ hH dL_acts_286
  refine lv_iload_n hx hb dL_acts_5 rfl (lv_at hl 0 rfl) ?_
  refine lv_bipush (v := 64) hx hb dL_acts_6 (by decide) ?_
  refine n_idiv (A := Y / 16) (B := 64) hx hb ((Y / 16) / 64) rfl (by omega) (by omega) (by omega) dL_acts_8 ?_
  refine lv_iconst (v := 5) hx hb dL_acts_9 (by decide) ?_
  refine n_irem (A := (Y / 16) / 64) (B := 5) hx hb (((Y / 16) / 64) % 5) rfl (by omega) (by omega) (by omega) dL_acts_10 ?_
  refine n_if_ne (A := ((Y / 16) / 64) % 5) (tgt := 28) hx hb (by omega) dL_acts_11 (by decide) (fun c52 => ?_) (fun c52 => ?_)
  · refine lv_iconst (v := 1) hx hb dL_acts_28 (by decide) ?_
    refine lv_iload_n hx hb dL_acts_29 rfl (lv_at hl 0 rfl) ?_
    refine lv_sipush (v := 512) hx hb dL_acts_30 (by decide) ?_
    refine n_idiv (A := Y / 16) (B := 512) hx hb ((Y / 16) / 512) rfl (by omega) (by omega) (by omega) dL_acts_33 ?_
    refine lv_bipush (v := 60) hx hb dL_acts_34 (by decide) ?_
    refine n_irem (A := (Y / 16) / 512) (B := 60) hx hb (((Y / 16) / 512) % 60) rfl (by omega) (by omega) (by omega) dL_acts_36 ?_
    refine n_iadd (A := 1) (B := ((Y / 16) / 512) % 60) hx hb (1 + (((Y / 16) / 512) % 60)) (by omega) dL_acts_37 ?_
    refine lv_istore_n (lv' := [(3, .int (nI (1 + (((Y / 16) / 512) % 60)))), (2, .int (nI (Y / 16))), (0, .ref (a 6 0)), (1, .int (nI Y))]) hx hb dL_acts_38 rfl hl (by decide) rfl (fun ls hl => ?_)
    refine J39 _ _ _ ?_ ?_
    · exact hH
    · rw [show (nI (aN Y) : Int32) = nI (1 + (((Y / 16) / 512) % 60)) from by simp only [aN, c52, if_true, if_false, not_true_eq_false, not_false_eq_true, true_or, or_true, false_or, or_false, or_self, Nat.lt_irrefl, true_and, and_true, and_self]]; exact lv_sub hl [0, 1, 2, 3] rfl
  · refine lv_iconst (v := 1) hx hb dL_acts_14 (by decide) ?_
    refine lv_iload_n hx hb dL_acts_15 rfl (lv_at hl 0 rfl) ?_
    refine lv_sipush (v := 512) hx hb dL_acts_16 (by decide) ?_
    refine n_idiv (A := Y / 16) (B := 512) hx hb ((Y / 16) / 512) rfl (by omega) (by omega) (by omega) dL_acts_19 ?_
    refine lv_sipush (v := 9999) hx hb dL_acts_20 (by decide) ?_
    refine n_irem (A := (Y / 16) / 512) (B := 9999) hx hb (((Y / 16) / 512) % 9999) rfl (by omega) (by omega) (by omega) dL_acts_23 ?_
    refine n_iadd (A := 1) (B := ((Y / 16) / 512) % 9999) hx hb (1 + (((Y / 16) / 512) % 9999)) (by omega) dL_acts_24 ?_
    refine lv_goto (tgt := 38) hx hb dL_acts_25 (by decide) ?_
    refine lv_istore_n (lv' := [(3, .int (nI (1 + (((Y / 16) / 512) % 9999)))), (2, .int (nI (Y / 16))), (0, .ref (a 6 0)), (1, .int (nI Y))]) hx hb dL_acts_38 rfl hl (by decide) rfl (fun ls hl => ?_)
    refine J39 _ _ _ ?_ ?_
    · exact hH
    · rw [show (nI (aN Y) : Int32) = nI (1 + (((Y / 16) / 512) % 9999)) from by simp only [aN, c52, if_true, if_false, not_true_eq_false, not_false_eq_true, true_or, or_true, false_or, or_false, or_self, Nat.lt_irrefl, true_and, and_true, and_self]]; exact lv_sub hl [0, 1, 2, 3] rfl
set_option maxRecDepth 100000 in
set_option maxHeartbeats 4000000 in
theorem c_L_ways (l : Launch) (D : va_G) (k : Nat → ClassId) (a : Nat → Nat → Nat) (g : Mem) (z mm : Nat) (hz : z < 12) (hm : 1 ≤ mm ∧ mm ≤ 9999) : zI l yL_ways cL_ways 8 .boolean 5 121 D k a [.ref (a 6 0), .int (nI z), .int (nI mm)] (g) (fun r g' => r = 1 ∧ g' = g) := by
  refine zI_of (own := RL) (by decide +kernel) rfl (Nat.le_of_ble_eq_true rfl) ?_
  intro p e s m args below meth c X Q hret hH ls hl
  obtain ⟨hx, hb, hml, hown, hts⟩ := X.1
  have hl : lv_has ls 8 [(0, .ref (a 6 0)), (1, .int (nI z)), (2, .int (nI mm))] := hl
  have hH : zH D k a s (g) s.heap [] := hH
  refine lv_aload_n hx hb dL_ways_0 rfl (lv_at hl 0 rfl) ?_
  refine lv_iload_n hx hb dL_ways_1 rfl (lv_at hl 1 rfl) ?_
  refine lv_iload_n hx hb dL_ways_2 rfl (lv_at hl 2 rfl) ?_
  refine z_callVi X hH (c_X5_cheapest l D k a g (nI z) (nI mm)) k_L_54 (rv_X5 X hH) [] rfl rfl hl.1 (Nat.le_of_ble_eq_true rfl) ⟨Nat.le_of_ble_eq_true rfl, Nat.le_of_ble_eq_true rfl⟩ ⟨Nat.le_refl _, Nat.le_refl _⟩ dL_ways_3 (fun r1 g2 H locs h3 hH => ?_)
  rw [h3.2] at hH
  rw [h3.1, kch (by omega) (okN_m hm)]
  have hB := fBest_c (v := g 0) (z := z) (n := nI mm)
  rcases fBest_3 (v := g 0) (z := z) (n := nI mm) with h3 | h3 | h3 <;> rw [h3]
  · obtain ⟨hB1, hB2⟩ := hB.1 h3
    refine lv_istore_n (lv' := [(3, .int 0), (0, .ref (a 6 0)), (1, .int (nI z)), (2, .int (nI mm))]) hx hb dL_ways_6 rfl hl (by decide) rfl (fun ls hl => ?_)
    refine lv_aload_n hx hb dL_ways_7 rfl (lv_at hl 1 rfl) ?_
    refine lv_iload_n hx hb dL_ways_8 rfl (lv_at hl 2 rfl) ?_
    refine lv_iload_n hx hb dL_ways_9 rfl (lv_at hl 0 rfl) ?_
    refine lv_iload_n hx hb dL_ways_10 rfl (lv_at hl 3 rfl) ?_
    refine z_callVi X hH (c_X5_cost l D k a g (nI z) 0 (nI mm)) k_L_46 (rv_X5 X hH) [] rfl rfl hl.1 (Nat.le_of_ble_eq_true rfl) ⟨Nat.le_of_ble_eq_true rfl, Nat.le_of_ble_eq_true rfl⟩ ⟨Nat.le_refl _, Nat.le_refl _⟩ dL_ways_11 (fun r4 g5 H locs h6 hH => ?_)
    rw [h6.2] at hH
    rw [h6.1, kco (by omega) (okW_w (by decide)) (okN_m hm)]
    refine lv_istore (lv' := [(4, .int (fCost (g 0) z 0 (nI mm))), (3, .int 0), (0, .ref (a 6 0)), (1, .int (nI z)), (2, .int (nI mm))]) hx hb dL_ways_14 hl (by decide) rfl (fun ls hl => ?_)
    refine lv_iload_n hx hb dL_ways_16 rfl (lv_at hl 1 rfl) ?_
    refine lv_if_lt (tgt := 29) hx hb dL_ways_17 (by decide) (fun q => absurd q (by decide)) (fun _ => ?_)
    refine lv_iload_n hx hb dL_ways_20 rfl (lv_at hl 1 rfl) ?_
    refine lv_iconst (v := 3) hx hb dL_ways_21 (by decide) ?_
    refine lv_icmp_ge (tgt := 29) hx hb dL_ways_22 (by decide) (fun q => absurd q (by decide)) (fun _ => ?_)
    refine lv_iconst (v := 1) hx hb dL_ways_25 (by decide) ?_
    refine lv_goto (tgt := 30) hx hb dL_ways_26 (by decide) ?_
    refine lv_istore (lv' := [(5, .int 1), (4, .int (fCost (g 0) z 0 (nI mm))), (3, .int 0), (0, .ref (a 6 0)), (1, .int (nI z)), (2, .int (nI mm))]) hx hb dL_ways_30 hl (by decide) rfl (fun ls hl => ?_)
    refine lv_iconst (v := 0) hx hb dL_ways_32 (by decide) ?_
    refine lv_istore (lv' := [(6, .int 0), (5, .int 1), (4, .int (fCost (g 0) z 0 (nI mm))), (3, .int 0), (0, .ref (a 6 0)), (1, .int (nI z)), (2, .int (nI mm))]) hx hb dL_ways_33 hl (by decide) rfl (fun ls hl => ?_)
    refine lv_iload hx hb dL_ways_35 (lv_at hl 0 rfl) ?_
    refine lv_iconst (v := 3) hx hb dL_ways_37 (by decide) ?_
    refine lv_icmp_ge (tgt := 97) hx hb dL_ways_38 (by decide) (fun q => absurd q (by decide)) (fun _ => ?_)
    refine lv_iload hx hb dL_ways_41 (lv_at hl 1 rfl) ?_
    refine lv_if_eq (tgt := 97) hx hb dL_ways_43 (by decide) (fun q => absurd q (by decide)) (fun _ => ?_)
    refine lv_aload_n hx hb dL_ways_46 rfl (lv_at hl 4 rfl) ?_
    refine lv_iload_n hx hb dL_ways_47 rfl (lv_at hl 5 rfl) ?_
    refine lv_iload hx hb dL_ways_48 (lv_at hl 0 rfl) ?_
    refine lv_iload_n hx hb dL_ways_50 rfl (lv_at hl 6 rfl) ?_
    refine z_callVi X hH (c_X5_cost l D k a g (nI z) 0 (nI mm)) k_L_46 (rv_X5 X hH) [] rfl rfl hl.1 (Nat.le_of_ble_eq_true rfl) ⟨Nat.le_of_ble_eq_true rfl, Nat.le_of_ble_eq_true rfl⟩ ⟨Nat.le_refl _, Nat.le_refl _⟩ dL_ways_51 (fun r7 g8 H locs h9 hH => ?_)
    rw [h9.2] at hH
    rw [h9.1, kco (by omega) (okW_w (by decide)) (okN_m hm)]
    refine lv_istore (lv' := [(7, .int (fCost (g 0) z 0 (nI mm))), (6, .int 0), (5, .int 1), (4, .int (fCost (g 0) z 0 (nI mm))), (3, .int 0), (0, .ref (a 6 0)), (1, .int (nI z)), (2, .int (nI mm))]) hx hb dL_ways_54 hl (by decide) rfl (fun ls hl => ?_)
    refine lv_iload hx hb dL_ways_56 (lv_at hl 1 rfl) ?_
    refine lv_iload_n hx hb dL_ways_58 rfl (lv_at hl 4 rfl) ?_
    refine lv_icmp_ge (tgt := 77) hx hb dL_ways_59 (by decide) (fun _ => ?_) (fun q => absurd (by decide) q)
    refine lv_iload hx hb dL_ways_77 (lv_at hl 0 rfl) ?_
    refine lv_iload hx hb dL_ways_79 (lv_at hl 3 rfl) ?_
    refine i_icmp_lt (tgt := 88) hx hb dL_ways_81 (by decide) (fun q => absurd q t_irr) (fun c10 => ?_)
    refine lv_iconst (v := 1) hx hb dL_ways_84 (by decide) ?_
    refine lv_goto (tgt := 89) hx hb dL_ways_85 (by decide) ?_
    refine lv_istore (lv' := [(5, .int 1), (7, .int (fCost (g 0) z 0 (nI mm))), (6, .int 0), (4, .int (fCost (g 0) z 0 (nI mm))), (3, .int 0), (0, .ref (a 6 0)), (1, .int (nI z)), (2, .int (nI mm))]) hx hb dL_ways_89 hl (by decide) rfl (fun ls hl => ?_)
    refine lv_iinc (v := 1) (lv' := [(6, .int 1), (5, .int 1), (7, .int (fCost (g 0) z 0 (nI mm))), (4, .int (fCost (g 0) z 0 (nI mm))), (3, .int 0), (0, .ref (a 6 0)), (1, .int (nI z)), (2, .int (nI mm))]) hx hb dL_ways_91 hl (k := 2) rfl (by decide) (by decide) rfl (fun ls hl => ?_)
    refine lv_goto (tgt := 35) hx hb dL_ways_94 (by decide) ?_
    refine lv_iload hx hb dL_ways_35 (lv_at hl 0 rfl) ?_
    refine lv_iconst (v := 3) hx hb dL_ways_37 (by decide) ?_
    refine lv_icmp_ge (tgt := 97) hx hb dL_ways_38 (by decide) (fun q => absurd q (by decide)) (fun _ => ?_)
    refine lv_iload hx hb dL_ways_41 (lv_at hl 1 rfl) ?_
    refine lv_if_eq (tgt := 97) hx hb dL_ways_43 (by decide) (fun q => absurd q (by decide)) (fun _ => ?_)
    refine lv_aload_n hx hb dL_ways_46 rfl (lv_at hl 5 rfl) ?_
    refine lv_iload_n hx hb dL_ways_47 rfl (lv_at hl 6 rfl) ?_
    refine lv_iload hx hb dL_ways_48 (lv_at hl 0 rfl) ?_
    refine lv_iload_n hx hb dL_ways_50 rfl (lv_at hl 7 rfl) ?_
    refine z_callVi X hH (c_X5_cost l D k a g (nI z) 1 (nI mm)) k_L_46 (rv_X5 X hH) [] rfl rfl hl.1 (Nat.le_of_ble_eq_true rfl) ⟨Nat.le_of_ble_eq_true rfl, Nat.le_of_ble_eq_true rfl⟩ ⟨Nat.le_refl _, Nat.le_refl _⟩ dL_ways_51 (fun r11 g12 H locs h13 hH => ?_)
    rw [h13.2] at hH
    rw [h13.1, kco (by omega) (okW_w (by decide)) (okN_m hm)]
    refine lv_istore (lv' := [(7, .int (fCost (g 0) z 1 (nI mm))), (6, .int 1), (5, .int 1), (4, .int (fCost (g 0) z 0 (nI mm))), (3, .int 0), (0, .ref (a 6 0)), (1, .int (nI z)), (2, .int (nI mm))]) hx hb dL_ways_54 hl (by decide) rfl (fun ls hl => ?_)
    refine lv_iload hx hb dL_ways_56 (lv_at hl 1 rfl) ?_
    refine lv_iload_n hx hb dL_ways_58 rfl (lv_at hl 4 rfl) ?_
    refine lv_icmp_ge (tgt := 77) hx hb dL_ways_59 (by decide) (fun _ => ?_) (fun q => absurd (by decide) q)
    refine lv_iload hx hb dL_ways_77 (lv_at hl 0 rfl) ?_
    refine lv_iload hx hb dL_ways_79 (lv_at hl 3 rfl) ?_
    refine i_icmp_lt (tgt := 88) hx hb dL_ways_81 (by decide) (fun q => absurd q hB1) (fun c14 => ?_)
    refine lv_iconst (v := 1) hx hb dL_ways_84 (by decide) ?_
    refine lv_goto (tgt := 89) hx hb dL_ways_85 (by decide) ?_
    refine lv_istore (lv' := [(5, .int 1), (7, .int (fCost (g 0) z 1 (nI mm))), (6, .int 1), (4, .int (fCost (g 0) z 0 (nI mm))), (3, .int 0), (0, .ref (a 6 0)), (1, .int (nI z)), (2, .int (nI mm))]) hx hb dL_ways_89 hl (by decide) rfl (fun ls hl => ?_)
    refine lv_iinc (v := 2) (lv' := [(6, .int 2), (5, .int 1), (7, .int (fCost (g 0) z 1 (nI mm))), (4, .int (fCost (g 0) z 0 (nI mm))), (3, .int 0), (0, .ref (a 6 0)), (1, .int (nI z)), (2, .int (nI mm))]) hx hb dL_ways_91 hl (k := 2) rfl (by decide) (by decide) rfl (fun ls hl => ?_)
    refine lv_goto (tgt := 35) hx hb dL_ways_94 (by decide) ?_
    refine lv_iload hx hb dL_ways_35 (lv_at hl 0 rfl) ?_
    refine lv_iconst (v := 3) hx hb dL_ways_37 (by decide) ?_
    refine lv_icmp_ge (tgt := 97) hx hb dL_ways_38 (by decide) (fun q => absurd q (by decide)) (fun _ => ?_)
    refine lv_iload hx hb dL_ways_41 (lv_at hl 1 rfl) ?_
    refine lv_if_eq (tgt := 97) hx hb dL_ways_43 (by decide) (fun q => absurd q (by decide)) (fun _ => ?_)
    refine lv_aload_n hx hb dL_ways_46 rfl (lv_at hl 5 rfl) ?_
    refine lv_iload_n hx hb dL_ways_47 rfl (lv_at hl 6 rfl) ?_
    refine lv_iload hx hb dL_ways_48 (lv_at hl 0 rfl) ?_
    refine lv_iload_n hx hb dL_ways_50 rfl (lv_at hl 7 rfl) ?_
    refine z_callVi X hH (c_X5_cost l D k a g (nI z) 2 (nI mm)) k_L_46 (rv_X5 X hH) [] rfl rfl hl.1 (Nat.le_of_ble_eq_true rfl) ⟨Nat.le_of_ble_eq_true rfl, Nat.le_of_ble_eq_true rfl⟩ ⟨Nat.le_refl _, Nat.le_refl _⟩ dL_ways_51 (fun r15 g16 H locs h17 hH => ?_)
    rw [h17.2] at hH
    rw [h17.1, kco (by omega) (okW_w (by decide)) (okN_m hm)]
    refine lv_istore (lv' := [(7, .int (fCost (g 0) z 2 (nI mm))), (6, .int 2), (5, .int 1), (4, .int (fCost (g 0) z 0 (nI mm))), (3, .int 0), (0, .ref (a 6 0)), (1, .int (nI z)), (2, .int (nI mm))]) hx hb dL_ways_54 hl (by decide) rfl (fun ls hl => ?_)
    refine lv_iload hx hb dL_ways_56 (lv_at hl 1 rfl) ?_
    refine lv_iload_n hx hb dL_ways_58 rfl (lv_at hl 4 rfl) ?_
    refine lv_icmp_ge (tgt := 77) hx hb dL_ways_59 (by decide) (fun _ => ?_) (fun q => absurd (by decide) q)
    refine lv_iload hx hb dL_ways_77 (lv_at hl 0 rfl) ?_
    refine lv_iload hx hb dL_ways_79 (lv_at hl 3 rfl) ?_
    refine i_icmp_lt (tgt := 88) hx hb dL_ways_81 (by decide) (fun q => absurd q hB2) (fun c18 => ?_)
    refine lv_iconst (v := 1) hx hb dL_ways_84 (by decide) ?_
    refine lv_goto (tgt := 89) hx hb dL_ways_85 (by decide) ?_
    refine lv_istore (lv' := [(5, .int 1), (7, .int (fCost (g 0) z 2 (nI mm))), (6, .int 2), (4, .int (fCost (g 0) z 0 (nI mm))), (3, .int 0), (0, .ref (a 6 0)), (1, .int (nI z)), (2, .int (nI mm))]) hx hb dL_ways_89 hl (by decide) rfl (fun ls hl => ?_)
    refine lv_iinc (v := 3) (lv' := [(6, .int 3), (5, .int 1), (7, .int (fCost (g 0) z 2 (nI mm))), (4, .int (fCost (g 0) z 0 (nI mm))), (3, .int 0), (0, .ref (a 6 0)), (1, .int (nI z)), (2, .int (nI mm))]) hx hb dL_ways_91 hl (k := 2) rfl (by decide) (by decide) rfl (fun ls hl => ?_)
    refine lv_goto (tgt := 35) hx hb dL_ways_94 (by decide) ?_
    refine lv_iload hx hb dL_ways_35 (lv_at hl 0 rfl) ?_
    refine lv_iconst (v := 3) hx hb dL_ways_37 (by decide) ?_
    refine lv_icmp_ge (tgt := 97) hx hb dL_ways_38 (by decide) (fun _ => ?_) (fun q => absurd (by decide) q)
    refine lv_iload hx hb dL_ways_97 (lv_at hl 1 rfl) ?_
    refine lv_if_eq (tgt := 144) hx hb dL_ways_99 (by decide) (fun q => absurd q (by decide)) (fun _ => ?_)
    refine lv_aload_n hx hb dL_ways_102 rfl (lv_at hl 5 rfl) ?_
    refine lv_iload_n hx hb dL_ways_103 rfl (lv_at hl 6 rfl) ?_
    refine lv_iconst (v := 0) hx hb dL_ways_104 (by decide) ?_
    refine z_callVi X hH (c_X5_reach l D k a g (nI z) 0) k_L_57 (rv_X5 X hH) [] rfl rfl hl.1 (Nat.le_of_ble_eq_true rfl) ⟨Nat.le_of_ble_eq_true rfl, Nat.le_of_ble_eq_true rfl⟩ ⟨Nat.le_refl _, Nat.le_refl _⟩ dL_ways_105 (fun r19 g20 H locs h21 hH => ?_)
    rw [h21.2] at hH
    rw [h21.1]
    refine lv_aload_n hx hb dL_ways_108 rfl (lv_at hl 5 rfl) ?_
    refine lv_iload_n hx hb dL_ways_109 rfl (lv_at hl 6 rfl) ?_
    refine lv_iconst (v := 1) hx hb dL_ways_110 (by decide) ?_
    refine z_callVi X hH (c_X5_reach l D k a g (nI z) 1) k_L_57 (rv_X5 X hH) [.int (kReach (g 0) (nI z) 0)] rfl rfl hl.1 (Nat.le_of_ble_eq_true rfl) ⟨Nat.le_of_ble_eq_true rfl, Nat.le_of_ble_eq_true rfl⟩ ⟨Nat.le_refl _, Nat.le_refl _⟩ dL_ways_111 (fun r22 g23 H locs h24 hH => ?_)
    rw [h24.2] at hH
    rw [h24.1]
    refine lv_iadd hx hb dL_ways_114 ?_
    refine lv_aload_n hx hb dL_ways_115 rfl (lv_at hl 5 rfl) ?_
    refine lv_iload_n hx hb dL_ways_116 rfl (lv_at hl 6 rfl) ?_
    refine lv_iconst (v := 2) hx hb dL_ways_117 (by decide) ?_
    refine z_callVi X hH (c_X5_reach l D k a g (nI z) 2) k_L_57 (rv_X5 X hH) [.int ((kReach (g 0) (nI z) 0) + (kReach (g 0) (nI z) 1))] rfl rfl hl.1 (Nat.le_of_ble_eq_true rfl) ⟨Nat.le_of_ble_eq_true rfl, Nat.le_of_ble_eq_true rfl⟩ ⟨Nat.le_refl _, Nat.le_refl _⟩ dL_ways_118 (fun r25 g26 H locs h27 hH => ?_)
    rw [h27.2] at hH
    rw [h27.1]
    refine lv_iadd hx hb dL_ways_121 ?_
    refine lv_iload_n hx hb dL_ways_122 rfl (lv_at hl 6 rfl) ?_
    refine lv_iconst (v := 3) hx hb dL_ways_123 (by decide) ?_
    refine n_irem (A := z) (B := 3) hx hb (z % 3) rfl (by omega) (by omega) (by omega) dL_ways_124 ?_
    refine n_if_ne (A := z % 3) (tgt := 134) hx hb (by omega) dL_ways_125 (by decide) (fun c28 => ?_) (fun c28 => ?_)
    · refine lv_sipush (v := 200) hx hb dL_ways_134 (by decide) ?_
      refine lv_icmp_ne (tgt := 144) hx hb dL_ways_137 (by decide) (fun q => absurd ((kReach_sum (v := g 0) (z := z) (by omega)).trans (if_neg c28)) q) (fun c29 => ?_)
      refine lv_iconst (v := 1) hx hb dL_ways_140 (by decide) ?_
      refine lv_goto (tgt := 145) hx hb dL_ways_141 (by decide) ?_
      exact hret _ _ _ _ _ _ rfl ⟨rfl, rfl⟩ hH dL_ways_145
    · refine lv_sipush (v := 201) hx hb dL_ways_128 (by decide) ?_
      refine lv_goto (tgt := 137) hx hb dL_ways_131 (by decide) ?_
      refine lv_icmp_ne (tgt := 144) hx hb dL_ways_137 (by decide) (fun q => absurd ((kReach_sum (v := g 0) (z := z) (by omega)).trans (if_pos c28)) q) (fun c30 => ?_)
      refine lv_iconst (v := 1) hx hb dL_ways_140 (by decide) ?_
      refine lv_goto (tgt := 145) hx hb dL_ways_141 (by decide) ?_
      exact hret _ _ _ _ _ _ rfl ⟨rfl, rfl⟩ hH dL_ways_145
  · obtain ⟨hB1, hB2⟩ := hB.2.1 h3
    refine lv_istore_n (lv' := [(3, .int 1), (0, .ref (a 6 0)), (1, .int (nI z)), (2, .int (nI mm))]) hx hb dL_ways_6 rfl hl (by decide) rfl (fun ls hl => ?_)
    refine lv_aload_n hx hb dL_ways_7 rfl (lv_at hl 1 rfl) ?_
    refine lv_iload_n hx hb dL_ways_8 rfl (lv_at hl 2 rfl) ?_
    refine lv_iload_n hx hb dL_ways_9 rfl (lv_at hl 0 rfl) ?_
    refine lv_iload_n hx hb dL_ways_10 rfl (lv_at hl 3 rfl) ?_
    refine z_callVi X hH (c_X5_cost l D k a g (nI z) 1 (nI mm)) k_L_46 (rv_X5 X hH) [] rfl rfl hl.1 (Nat.le_of_ble_eq_true rfl) ⟨Nat.le_of_ble_eq_true rfl, Nat.le_of_ble_eq_true rfl⟩ ⟨Nat.le_refl _, Nat.le_refl _⟩ dL_ways_11 (fun r31 g32 H locs h33 hH => ?_)
    rw [h33.2] at hH
    rw [h33.1, kco (by omega) (okW_w (by decide)) (okN_m hm)]
    refine lv_istore (lv' := [(4, .int (fCost (g 0) z 1 (nI mm))), (3, .int 1), (0, .ref (a 6 0)), (1, .int (nI z)), (2, .int (nI mm))]) hx hb dL_ways_14 hl (by decide) rfl (fun ls hl => ?_)
    refine lv_iload_n hx hb dL_ways_16 rfl (lv_at hl 1 rfl) ?_
    refine lv_if_lt (tgt := 29) hx hb dL_ways_17 (by decide) (fun q => absurd q (by decide)) (fun _ => ?_)
    refine lv_iload_n hx hb dL_ways_20 rfl (lv_at hl 1 rfl) ?_
    refine lv_iconst (v := 3) hx hb dL_ways_21 (by decide) ?_
    refine lv_icmp_ge (tgt := 29) hx hb dL_ways_22 (by decide) (fun q => absurd q (by decide)) (fun _ => ?_)
    refine lv_iconst (v := 1) hx hb dL_ways_25 (by decide) ?_
    refine lv_goto (tgt := 30) hx hb dL_ways_26 (by decide) ?_
    refine lv_istore (lv' := [(5, .int 1), (4, .int (fCost (g 0) z 1 (nI mm))), (3, .int 1), (0, .ref (a 6 0)), (1, .int (nI z)), (2, .int (nI mm))]) hx hb dL_ways_30 hl (by decide) rfl (fun ls hl => ?_)
    refine lv_iconst (v := 0) hx hb dL_ways_32 (by decide) ?_
    refine lv_istore (lv' := [(6, .int 0), (5, .int 1), (4, .int (fCost (g 0) z 1 (nI mm))), (3, .int 1), (0, .ref (a 6 0)), (1, .int (nI z)), (2, .int (nI mm))]) hx hb dL_ways_33 hl (by decide) rfl (fun ls hl => ?_)
    refine lv_iload hx hb dL_ways_35 (lv_at hl 0 rfl) ?_
    refine lv_iconst (v := 3) hx hb dL_ways_37 (by decide) ?_
    refine lv_icmp_ge (tgt := 97) hx hb dL_ways_38 (by decide) (fun q => absurd q (by decide)) (fun _ => ?_)
    refine lv_iload hx hb dL_ways_41 (lv_at hl 1 rfl) ?_
    refine lv_if_eq (tgt := 97) hx hb dL_ways_43 (by decide) (fun q => absurd q (by decide)) (fun _ => ?_)
    refine lv_aload_n hx hb dL_ways_46 rfl (lv_at hl 4 rfl) ?_
    refine lv_iload_n hx hb dL_ways_47 rfl (lv_at hl 5 rfl) ?_
    refine lv_iload hx hb dL_ways_48 (lv_at hl 0 rfl) ?_
    refine lv_iload_n hx hb dL_ways_50 rfl (lv_at hl 6 rfl) ?_
    refine z_callVi X hH (c_X5_cost l D k a g (nI z) 0 (nI mm)) k_L_46 (rv_X5 X hH) [] rfl rfl hl.1 (Nat.le_of_ble_eq_true rfl) ⟨Nat.le_of_ble_eq_true rfl, Nat.le_of_ble_eq_true rfl⟩ ⟨Nat.le_refl _, Nat.le_refl _⟩ dL_ways_51 (fun r34 g35 H locs h36 hH => ?_)
    rw [h36.2] at hH
    rw [h36.1, kco (by omega) (okW_w (by decide)) (okN_m hm)]
    refine lv_istore (lv' := [(7, .int (fCost (g 0) z 0 (nI mm))), (6, .int 0), (5, .int 1), (4, .int (fCost (g 0) z 1 (nI mm))), (3, .int 1), (0, .ref (a 6 0)), (1, .int (nI z)), (2, .int (nI mm))]) hx hb dL_ways_54 hl (by decide) rfl (fun ls hl => ?_)
    refine lv_iload hx hb dL_ways_56 (lv_at hl 1 rfl) ?_
    refine lv_iload_n hx hb dL_ways_58 rfl (lv_at hl 4 rfl) ?_
    refine lv_icmp_ge (tgt := 77) hx hb dL_ways_59 (by decide) (fun q => absurd q (by decide)) (fun _ => ?_)
    refine lv_iload hx hb dL_ways_62 (lv_at hl 0 rfl) ?_
    refine lv_iload hx hb dL_ways_64 (lv_at hl 3 rfl) ?_
    refine i_icmp_le (tgt := 73) hx hb dL_ways_66 (by decide) (fun q => absurd hB1 q) (fun c37 => ?_)
    refine lv_iconst (v := 1) hx hb dL_ways_69 (by decide) ?_
    refine lv_goto (tgt := 89) hx hb dL_ways_70 (by decide) ?_
    refine lv_istore (lv' := [(5, .int 1), (7, .int (fCost (g 0) z 0 (nI mm))), (6, .int 0), (4, .int (fCost (g 0) z 1 (nI mm))), (3, .int 1), (0, .ref (a 6 0)), (1, .int (nI z)), (2, .int (nI mm))]) hx hb dL_ways_89 hl (by decide) rfl (fun ls hl => ?_)
    refine lv_iinc (v := 1) (lv' := [(6, .int 1), (5, .int 1), (7, .int (fCost (g 0) z 0 (nI mm))), (4, .int (fCost (g 0) z 1 (nI mm))), (3, .int 1), (0, .ref (a 6 0)), (1, .int (nI z)), (2, .int (nI mm))]) hx hb dL_ways_91 hl (k := 2) rfl (by decide) (by decide) rfl (fun ls hl => ?_)
    refine lv_goto (tgt := 35) hx hb dL_ways_94 (by decide) ?_
    refine lv_iload hx hb dL_ways_35 (lv_at hl 0 rfl) ?_
    refine lv_iconst (v := 3) hx hb dL_ways_37 (by decide) ?_
    refine lv_icmp_ge (tgt := 97) hx hb dL_ways_38 (by decide) (fun q => absurd q (by decide)) (fun _ => ?_)
    refine lv_iload hx hb dL_ways_41 (lv_at hl 1 rfl) ?_
    refine lv_if_eq (tgt := 97) hx hb dL_ways_43 (by decide) (fun q => absurd q (by decide)) (fun _ => ?_)
    refine lv_aload_n hx hb dL_ways_46 rfl (lv_at hl 5 rfl) ?_
    refine lv_iload_n hx hb dL_ways_47 rfl (lv_at hl 6 rfl) ?_
    refine lv_iload hx hb dL_ways_48 (lv_at hl 0 rfl) ?_
    refine lv_iload_n hx hb dL_ways_50 rfl (lv_at hl 7 rfl) ?_
    refine z_callVi X hH (c_X5_cost l D k a g (nI z) 1 (nI mm)) k_L_46 (rv_X5 X hH) [] rfl rfl hl.1 (Nat.le_of_ble_eq_true rfl) ⟨Nat.le_of_ble_eq_true rfl, Nat.le_of_ble_eq_true rfl⟩ ⟨Nat.le_refl _, Nat.le_refl _⟩ dL_ways_51 (fun r38 g39 H locs h40 hH => ?_)
    rw [h40.2] at hH
    rw [h40.1, kco (by omega) (okW_w (by decide)) (okN_m hm)]
    refine lv_istore (lv' := [(7, .int (fCost (g 0) z 1 (nI mm))), (6, .int 1), (5, .int 1), (4, .int (fCost (g 0) z 1 (nI mm))), (3, .int 1), (0, .ref (a 6 0)), (1, .int (nI z)), (2, .int (nI mm))]) hx hb dL_ways_54 hl (by decide) rfl (fun ls hl => ?_)
    refine lv_iload hx hb dL_ways_56 (lv_at hl 1 rfl) ?_
    refine lv_iload_n hx hb dL_ways_58 rfl (lv_at hl 4 rfl) ?_
    refine lv_icmp_ge (tgt := 77) hx hb dL_ways_59 (by decide) (fun _ => ?_) (fun q => absurd (by decide) q)
    refine lv_iload hx hb dL_ways_77 (lv_at hl 0 rfl) ?_
    refine lv_iload hx hb dL_ways_79 (lv_at hl 3 rfl) ?_
    refine i_icmp_lt (tgt := 88) hx hb dL_ways_81 (by decide) (fun q => absurd q t_irr) (fun c41 => ?_)
    refine lv_iconst (v := 1) hx hb dL_ways_84 (by decide) ?_
    refine lv_goto (tgt := 89) hx hb dL_ways_85 (by decide) ?_
    refine lv_istore (lv' := [(5, .int 1), (7, .int (fCost (g 0) z 1 (nI mm))), (6, .int 1), (4, .int (fCost (g 0) z 1 (nI mm))), (3, .int 1), (0, .ref (a 6 0)), (1, .int (nI z)), (2, .int (nI mm))]) hx hb dL_ways_89 hl (by decide) rfl (fun ls hl => ?_)
    refine lv_iinc (v := 2) (lv' := [(6, .int 2), (5, .int 1), (7, .int (fCost (g 0) z 1 (nI mm))), (4, .int (fCost (g 0) z 1 (nI mm))), (3, .int 1), (0, .ref (a 6 0)), (1, .int (nI z)), (2, .int (nI mm))]) hx hb dL_ways_91 hl (k := 2) rfl (by decide) (by decide) rfl (fun ls hl => ?_)
    refine lv_goto (tgt := 35) hx hb dL_ways_94 (by decide) ?_
    refine lv_iload hx hb dL_ways_35 (lv_at hl 0 rfl) ?_
    refine lv_iconst (v := 3) hx hb dL_ways_37 (by decide) ?_
    refine lv_icmp_ge (tgt := 97) hx hb dL_ways_38 (by decide) (fun q => absurd q (by decide)) (fun _ => ?_)
    refine lv_iload hx hb dL_ways_41 (lv_at hl 1 rfl) ?_
    refine lv_if_eq (tgt := 97) hx hb dL_ways_43 (by decide) (fun q => absurd q (by decide)) (fun _ => ?_)
    refine lv_aload_n hx hb dL_ways_46 rfl (lv_at hl 5 rfl) ?_
    refine lv_iload_n hx hb dL_ways_47 rfl (lv_at hl 6 rfl) ?_
    refine lv_iload hx hb dL_ways_48 (lv_at hl 0 rfl) ?_
    refine lv_iload_n hx hb dL_ways_50 rfl (lv_at hl 7 rfl) ?_
    refine z_callVi X hH (c_X5_cost l D k a g (nI z) 2 (nI mm)) k_L_46 (rv_X5 X hH) [] rfl rfl hl.1 (Nat.le_of_ble_eq_true rfl) ⟨Nat.le_of_ble_eq_true rfl, Nat.le_of_ble_eq_true rfl⟩ ⟨Nat.le_refl _, Nat.le_refl _⟩ dL_ways_51 (fun r42 g43 H locs h44 hH => ?_)
    rw [h44.2] at hH
    rw [h44.1, kco (by omega) (okW_w (by decide)) (okN_m hm)]
    refine lv_istore (lv' := [(7, .int (fCost (g 0) z 2 (nI mm))), (6, .int 2), (5, .int 1), (4, .int (fCost (g 0) z 1 (nI mm))), (3, .int 1), (0, .ref (a 6 0)), (1, .int (nI z)), (2, .int (nI mm))]) hx hb dL_ways_54 hl (by decide) rfl (fun ls hl => ?_)
    refine lv_iload hx hb dL_ways_56 (lv_at hl 1 rfl) ?_
    refine lv_iload_n hx hb dL_ways_58 rfl (lv_at hl 4 rfl) ?_
    refine lv_icmp_ge (tgt := 77) hx hb dL_ways_59 (by decide) (fun _ => ?_) (fun q => absurd (by decide) q)
    refine lv_iload hx hb dL_ways_77 (lv_at hl 0 rfl) ?_
    refine lv_iload hx hb dL_ways_79 (lv_at hl 3 rfl) ?_
    refine i_icmp_lt (tgt := 88) hx hb dL_ways_81 (by decide) (fun q => absurd q hB2) (fun c45 => ?_)
    refine lv_iconst (v := 1) hx hb dL_ways_84 (by decide) ?_
    refine lv_goto (tgt := 89) hx hb dL_ways_85 (by decide) ?_
    refine lv_istore (lv' := [(5, .int 1), (7, .int (fCost (g 0) z 2 (nI mm))), (6, .int 2), (4, .int (fCost (g 0) z 1 (nI mm))), (3, .int 1), (0, .ref (a 6 0)), (1, .int (nI z)), (2, .int (nI mm))]) hx hb dL_ways_89 hl (by decide) rfl (fun ls hl => ?_)
    refine lv_iinc (v := 3) (lv' := [(6, .int 3), (5, .int 1), (7, .int (fCost (g 0) z 2 (nI mm))), (4, .int (fCost (g 0) z 1 (nI mm))), (3, .int 1), (0, .ref (a 6 0)), (1, .int (nI z)), (2, .int (nI mm))]) hx hb dL_ways_91 hl (k := 2) rfl (by decide) (by decide) rfl (fun ls hl => ?_)
    refine lv_goto (tgt := 35) hx hb dL_ways_94 (by decide) ?_
    refine lv_iload hx hb dL_ways_35 (lv_at hl 0 rfl) ?_
    refine lv_iconst (v := 3) hx hb dL_ways_37 (by decide) ?_
    refine lv_icmp_ge (tgt := 97) hx hb dL_ways_38 (by decide) (fun _ => ?_) (fun q => absurd (by decide) q)
    refine lv_iload hx hb dL_ways_97 (lv_at hl 1 rfl) ?_
    refine lv_if_eq (tgt := 144) hx hb dL_ways_99 (by decide) (fun q => absurd q (by decide)) (fun _ => ?_)
    refine lv_aload_n hx hb dL_ways_102 rfl (lv_at hl 5 rfl) ?_
    refine lv_iload_n hx hb dL_ways_103 rfl (lv_at hl 6 rfl) ?_
    refine lv_iconst (v := 0) hx hb dL_ways_104 (by decide) ?_
    refine z_callVi X hH (c_X5_reach l D k a g (nI z) 0) k_L_57 (rv_X5 X hH) [] rfl rfl hl.1 (Nat.le_of_ble_eq_true rfl) ⟨Nat.le_of_ble_eq_true rfl, Nat.le_of_ble_eq_true rfl⟩ ⟨Nat.le_refl _, Nat.le_refl _⟩ dL_ways_105 (fun r46 g47 H locs h48 hH => ?_)
    rw [h48.2] at hH
    rw [h48.1]
    refine lv_aload_n hx hb dL_ways_108 rfl (lv_at hl 5 rfl) ?_
    refine lv_iload_n hx hb dL_ways_109 rfl (lv_at hl 6 rfl) ?_
    refine lv_iconst (v := 1) hx hb dL_ways_110 (by decide) ?_
    refine z_callVi X hH (c_X5_reach l D k a g (nI z) 1) k_L_57 (rv_X5 X hH) [.int (kReach (g 0) (nI z) 0)] rfl rfl hl.1 (Nat.le_of_ble_eq_true rfl) ⟨Nat.le_of_ble_eq_true rfl, Nat.le_of_ble_eq_true rfl⟩ ⟨Nat.le_refl _, Nat.le_refl _⟩ dL_ways_111 (fun r49 g50 H locs h51 hH => ?_)
    rw [h51.2] at hH
    rw [h51.1]
    refine lv_iadd hx hb dL_ways_114 ?_
    refine lv_aload_n hx hb dL_ways_115 rfl (lv_at hl 5 rfl) ?_
    refine lv_iload_n hx hb dL_ways_116 rfl (lv_at hl 6 rfl) ?_
    refine lv_iconst (v := 2) hx hb dL_ways_117 (by decide) ?_
    refine z_callVi X hH (c_X5_reach l D k a g (nI z) 2) k_L_57 (rv_X5 X hH) [.int ((kReach (g 0) (nI z) 0) + (kReach (g 0) (nI z) 1))] rfl rfl hl.1 (Nat.le_of_ble_eq_true rfl) ⟨Nat.le_of_ble_eq_true rfl, Nat.le_of_ble_eq_true rfl⟩ ⟨Nat.le_refl _, Nat.le_refl _⟩ dL_ways_118 (fun r52 g53 H locs h54 hH => ?_)
    rw [h54.2] at hH
    rw [h54.1]
    refine lv_iadd hx hb dL_ways_121 ?_
    refine lv_iload_n hx hb dL_ways_122 rfl (lv_at hl 6 rfl) ?_
    refine lv_iconst (v := 3) hx hb dL_ways_123 (by decide) ?_
    refine n_irem (A := z) (B := 3) hx hb (z % 3) rfl (by omega) (by omega) (by omega) dL_ways_124 ?_
    refine n_if_ne (A := z % 3) (tgt := 134) hx hb (by omega) dL_ways_125 (by decide) (fun c55 => ?_) (fun c55 => ?_)
    · refine lv_sipush (v := 200) hx hb dL_ways_134 (by decide) ?_
      refine lv_icmp_ne (tgt := 144) hx hb dL_ways_137 (by decide) (fun q => absurd ((kReach_sum (v := g 0) (z := z) (by omega)).trans (if_neg c55)) q) (fun c56 => ?_)
      refine lv_iconst (v := 1) hx hb dL_ways_140 (by decide) ?_
      refine lv_goto (tgt := 145) hx hb dL_ways_141 (by decide) ?_
      exact hret _ _ _ _ _ _ rfl ⟨rfl, rfl⟩ hH dL_ways_145
    · refine lv_sipush (v := 201) hx hb dL_ways_128 (by decide) ?_
      refine lv_goto (tgt := 137) hx hb dL_ways_131 (by decide) ?_
      refine lv_icmp_ne (tgt := 144) hx hb dL_ways_137 (by decide) (fun q => absurd ((kReach_sum (v := g 0) (z := z) (by omega)).trans (if_pos c55)) q) (fun c57 => ?_)
      refine lv_iconst (v := 1) hx hb dL_ways_140 (by decide) ?_
      refine lv_goto (tgt := 145) hx hb dL_ways_141 (by decide) ?_
      exact hret _ _ _ _ _ _ rfl ⟨rfl, rfl⟩ hH dL_ways_145
  · obtain ⟨hB1, hB2⟩ := hB.2.2 h3
    refine lv_istore_n (lv' := [(3, .int 2), (0, .ref (a 6 0)), (1, .int (nI z)), (2, .int (nI mm))]) hx hb dL_ways_6 rfl hl (by decide) rfl (fun ls hl => ?_)
    refine lv_aload_n hx hb dL_ways_7 rfl (lv_at hl 1 rfl) ?_
    refine lv_iload_n hx hb dL_ways_8 rfl (lv_at hl 2 rfl) ?_
    refine lv_iload_n hx hb dL_ways_9 rfl (lv_at hl 0 rfl) ?_
    refine lv_iload_n hx hb dL_ways_10 rfl (lv_at hl 3 rfl) ?_
    refine z_callVi X hH (c_X5_cost l D k a g (nI z) 2 (nI mm)) k_L_46 (rv_X5 X hH) [] rfl rfl hl.1 (Nat.le_of_ble_eq_true rfl) ⟨Nat.le_of_ble_eq_true rfl, Nat.le_of_ble_eq_true rfl⟩ ⟨Nat.le_refl _, Nat.le_refl _⟩ dL_ways_11 (fun r58 g59 H locs h60 hH => ?_)
    rw [h60.2] at hH
    rw [h60.1, kco (by omega) (okW_w (by decide)) (okN_m hm)]
    refine lv_istore (lv' := [(4, .int (fCost (g 0) z 2 (nI mm))), (3, .int 2), (0, .ref (a 6 0)), (1, .int (nI z)), (2, .int (nI mm))]) hx hb dL_ways_14 hl (by decide) rfl (fun ls hl => ?_)
    refine lv_iload_n hx hb dL_ways_16 rfl (lv_at hl 1 rfl) ?_
    refine lv_if_lt (tgt := 29) hx hb dL_ways_17 (by decide) (fun q => absurd q (by decide)) (fun _ => ?_)
    refine lv_iload_n hx hb dL_ways_20 rfl (lv_at hl 1 rfl) ?_
    refine lv_iconst (v := 3) hx hb dL_ways_21 (by decide) ?_
    refine lv_icmp_ge (tgt := 29) hx hb dL_ways_22 (by decide) (fun q => absurd q (by decide)) (fun _ => ?_)
    refine lv_iconst (v := 1) hx hb dL_ways_25 (by decide) ?_
    refine lv_goto (tgt := 30) hx hb dL_ways_26 (by decide) ?_
    refine lv_istore (lv' := [(5, .int 1), (4, .int (fCost (g 0) z 2 (nI mm))), (3, .int 2), (0, .ref (a 6 0)), (1, .int (nI z)), (2, .int (nI mm))]) hx hb dL_ways_30 hl (by decide) rfl (fun ls hl => ?_)
    refine lv_iconst (v := 0) hx hb dL_ways_32 (by decide) ?_
    refine lv_istore (lv' := [(6, .int 0), (5, .int 1), (4, .int (fCost (g 0) z 2 (nI mm))), (3, .int 2), (0, .ref (a 6 0)), (1, .int (nI z)), (2, .int (nI mm))]) hx hb dL_ways_33 hl (by decide) rfl (fun ls hl => ?_)
    refine lv_iload hx hb dL_ways_35 (lv_at hl 0 rfl) ?_
    refine lv_iconst (v := 3) hx hb dL_ways_37 (by decide) ?_
    refine lv_icmp_ge (tgt := 97) hx hb dL_ways_38 (by decide) (fun q => absurd q (by decide)) (fun _ => ?_)
    refine lv_iload hx hb dL_ways_41 (lv_at hl 1 rfl) ?_
    refine lv_if_eq (tgt := 97) hx hb dL_ways_43 (by decide) (fun q => absurd q (by decide)) (fun _ => ?_)
    refine lv_aload_n hx hb dL_ways_46 rfl (lv_at hl 4 rfl) ?_
    refine lv_iload_n hx hb dL_ways_47 rfl (lv_at hl 5 rfl) ?_
    refine lv_iload hx hb dL_ways_48 (lv_at hl 0 rfl) ?_
    refine lv_iload_n hx hb dL_ways_50 rfl (lv_at hl 6 rfl) ?_
    refine z_callVi X hH (c_X5_cost l D k a g (nI z) 0 (nI mm)) k_L_46 (rv_X5 X hH) [] rfl rfl hl.1 (Nat.le_of_ble_eq_true rfl) ⟨Nat.le_of_ble_eq_true rfl, Nat.le_of_ble_eq_true rfl⟩ ⟨Nat.le_refl _, Nat.le_refl _⟩ dL_ways_51 (fun r61 g62 H locs h63 hH => ?_)
    rw [h63.2] at hH
    rw [h63.1, kco (by omega) (okW_w (by decide)) (okN_m hm)]
    refine lv_istore (lv' := [(7, .int (fCost (g 0) z 0 (nI mm))), (6, .int 0), (5, .int 1), (4, .int (fCost (g 0) z 2 (nI mm))), (3, .int 2), (0, .ref (a 6 0)), (1, .int (nI z)), (2, .int (nI mm))]) hx hb dL_ways_54 hl (by decide) rfl (fun ls hl => ?_)
    refine lv_iload hx hb dL_ways_56 (lv_at hl 1 rfl) ?_
    refine lv_iload_n hx hb dL_ways_58 rfl (lv_at hl 4 rfl) ?_
    refine lv_icmp_ge (tgt := 77) hx hb dL_ways_59 (by decide) (fun q => absurd q (by decide)) (fun _ => ?_)
    refine lv_iload hx hb dL_ways_62 (lv_at hl 0 rfl) ?_
    refine lv_iload hx hb dL_ways_64 (lv_at hl 3 rfl) ?_
    refine i_icmp_le (tgt := 73) hx hb dL_ways_66 (by decide) (fun q => absurd hB1 q) (fun c64 => ?_)
    refine lv_iconst (v := 1) hx hb dL_ways_69 (by decide) ?_
    refine lv_goto (tgt := 89) hx hb dL_ways_70 (by decide) ?_
    refine lv_istore (lv' := [(5, .int 1), (7, .int (fCost (g 0) z 0 (nI mm))), (6, .int 0), (4, .int (fCost (g 0) z 2 (nI mm))), (3, .int 2), (0, .ref (a 6 0)), (1, .int (nI z)), (2, .int (nI mm))]) hx hb dL_ways_89 hl (by decide) rfl (fun ls hl => ?_)
    refine lv_iinc (v := 1) (lv' := [(6, .int 1), (5, .int 1), (7, .int (fCost (g 0) z 0 (nI mm))), (4, .int (fCost (g 0) z 2 (nI mm))), (3, .int 2), (0, .ref (a 6 0)), (1, .int (nI z)), (2, .int (nI mm))]) hx hb dL_ways_91 hl (k := 2) rfl (by decide) (by decide) rfl (fun ls hl => ?_)
    refine lv_goto (tgt := 35) hx hb dL_ways_94 (by decide) ?_
    refine lv_iload hx hb dL_ways_35 (lv_at hl 0 rfl) ?_
    refine lv_iconst (v := 3) hx hb dL_ways_37 (by decide) ?_
    refine lv_icmp_ge (tgt := 97) hx hb dL_ways_38 (by decide) (fun q => absurd q (by decide)) (fun _ => ?_)
    refine lv_iload hx hb dL_ways_41 (lv_at hl 1 rfl) ?_
    refine lv_if_eq (tgt := 97) hx hb dL_ways_43 (by decide) (fun q => absurd q (by decide)) (fun _ => ?_)
    refine lv_aload_n hx hb dL_ways_46 rfl (lv_at hl 5 rfl) ?_
    refine lv_iload_n hx hb dL_ways_47 rfl (lv_at hl 6 rfl) ?_
    refine lv_iload hx hb dL_ways_48 (lv_at hl 0 rfl) ?_
    refine lv_iload_n hx hb dL_ways_50 rfl (lv_at hl 7 rfl) ?_
    refine z_callVi X hH (c_X5_cost l D k a g (nI z) 1 (nI mm)) k_L_46 (rv_X5 X hH) [] rfl rfl hl.1 (Nat.le_of_ble_eq_true rfl) ⟨Nat.le_of_ble_eq_true rfl, Nat.le_of_ble_eq_true rfl⟩ ⟨Nat.le_refl _, Nat.le_refl _⟩ dL_ways_51 (fun r65 g66 H locs h67 hH => ?_)
    rw [h67.2] at hH
    rw [h67.1, kco (by omega) (okW_w (by decide)) (okN_m hm)]
    refine lv_istore (lv' := [(7, .int (fCost (g 0) z 1 (nI mm))), (6, .int 1), (5, .int 1), (4, .int (fCost (g 0) z 2 (nI mm))), (3, .int 2), (0, .ref (a 6 0)), (1, .int (nI z)), (2, .int (nI mm))]) hx hb dL_ways_54 hl (by decide) rfl (fun ls hl => ?_)
    refine lv_iload hx hb dL_ways_56 (lv_at hl 1 rfl) ?_
    refine lv_iload_n hx hb dL_ways_58 rfl (lv_at hl 4 rfl) ?_
    refine lv_icmp_ge (tgt := 77) hx hb dL_ways_59 (by decide) (fun q => absurd q (by decide)) (fun _ => ?_)
    refine lv_iload hx hb dL_ways_62 (lv_at hl 0 rfl) ?_
    refine lv_iload hx hb dL_ways_64 (lv_at hl 3 rfl) ?_
    refine i_icmp_le (tgt := 73) hx hb dL_ways_66 (by decide) (fun q => absurd hB2 q) (fun c68 => ?_)
    refine lv_iconst (v := 1) hx hb dL_ways_69 (by decide) ?_
    refine lv_goto (tgt := 89) hx hb dL_ways_70 (by decide) ?_
    refine lv_istore (lv' := [(5, .int 1), (7, .int (fCost (g 0) z 1 (nI mm))), (6, .int 1), (4, .int (fCost (g 0) z 2 (nI mm))), (3, .int 2), (0, .ref (a 6 0)), (1, .int (nI z)), (2, .int (nI mm))]) hx hb dL_ways_89 hl (by decide) rfl (fun ls hl => ?_)
    refine lv_iinc (v := 2) (lv' := [(6, .int 2), (5, .int 1), (7, .int (fCost (g 0) z 1 (nI mm))), (4, .int (fCost (g 0) z 2 (nI mm))), (3, .int 2), (0, .ref (a 6 0)), (1, .int (nI z)), (2, .int (nI mm))]) hx hb dL_ways_91 hl (k := 2) rfl (by decide) (by decide) rfl (fun ls hl => ?_)
    refine lv_goto (tgt := 35) hx hb dL_ways_94 (by decide) ?_
    refine lv_iload hx hb dL_ways_35 (lv_at hl 0 rfl) ?_
    refine lv_iconst (v := 3) hx hb dL_ways_37 (by decide) ?_
    refine lv_icmp_ge (tgt := 97) hx hb dL_ways_38 (by decide) (fun q => absurd q (by decide)) (fun _ => ?_)
    refine lv_iload hx hb dL_ways_41 (lv_at hl 1 rfl) ?_
    refine lv_if_eq (tgt := 97) hx hb dL_ways_43 (by decide) (fun q => absurd q (by decide)) (fun _ => ?_)
    refine lv_aload_n hx hb dL_ways_46 rfl (lv_at hl 5 rfl) ?_
    refine lv_iload_n hx hb dL_ways_47 rfl (lv_at hl 6 rfl) ?_
    refine lv_iload hx hb dL_ways_48 (lv_at hl 0 rfl) ?_
    refine lv_iload_n hx hb dL_ways_50 rfl (lv_at hl 7 rfl) ?_
    refine z_callVi X hH (c_X5_cost l D k a g (nI z) 2 (nI mm)) k_L_46 (rv_X5 X hH) [] rfl rfl hl.1 (Nat.le_of_ble_eq_true rfl) ⟨Nat.le_of_ble_eq_true rfl, Nat.le_of_ble_eq_true rfl⟩ ⟨Nat.le_refl _, Nat.le_refl _⟩ dL_ways_51 (fun r69 g70 H locs h71 hH => ?_)
    rw [h71.2] at hH
    rw [h71.1, kco (by omega) (okW_w (by decide)) (okN_m hm)]
    refine lv_istore (lv' := [(7, .int (fCost (g 0) z 2 (nI mm))), (6, .int 2), (5, .int 1), (4, .int (fCost (g 0) z 2 (nI mm))), (3, .int 2), (0, .ref (a 6 0)), (1, .int (nI z)), (2, .int (nI mm))]) hx hb dL_ways_54 hl (by decide) rfl (fun ls hl => ?_)
    refine lv_iload hx hb dL_ways_56 (lv_at hl 1 rfl) ?_
    refine lv_iload_n hx hb dL_ways_58 rfl (lv_at hl 4 rfl) ?_
    refine lv_icmp_ge (tgt := 77) hx hb dL_ways_59 (by decide) (fun _ => ?_) (fun q => absurd (by decide) q)
    refine lv_iload hx hb dL_ways_77 (lv_at hl 0 rfl) ?_
    refine lv_iload hx hb dL_ways_79 (lv_at hl 3 rfl) ?_
    refine i_icmp_lt (tgt := 88) hx hb dL_ways_81 (by decide) (fun q => absurd q t_irr) (fun c72 => ?_)
    refine lv_iconst (v := 1) hx hb dL_ways_84 (by decide) ?_
    refine lv_goto (tgt := 89) hx hb dL_ways_85 (by decide) ?_
    refine lv_istore (lv' := [(5, .int 1), (7, .int (fCost (g 0) z 2 (nI mm))), (6, .int 2), (4, .int (fCost (g 0) z 2 (nI mm))), (3, .int 2), (0, .ref (a 6 0)), (1, .int (nI z)), (2, .int (nI mm))]) hx hb dL_ways_89 hl (by decide) rfl (fun ls hl => ?_)
    refine lv_iinc (v := 3) (lv' := [(6, .int 3), (5, .int 1), (7, .int (fCost (g 0) z 2 (nI mm))), (4, .int (fCost (g 0) z 2 (nI mm))), (3, .int 2), (0, .ref (a 6 0)), (1, .int (nI z)), (2, .int (nI mm))]) hx hb dL_ways_91 hl (k := 2) rfl (by decide) (by decide) rfl (fun ls hl => ?_)
    refine lv_goto (tgt := 35) hx hb dL_ways_94 (by decide) ?_
    refine lv_iload hx hb dL_ways_35 (lv_at hl 0 rfl) ?_
    refine lv_iconst (v := 3) hx hb dL_ways_37 (by decide) ?_
    refine lv_icmp_ge (tgt := 97) hx hb dL_ways_38 (by decide) (fun _ => ?_) (fun q => absurd (by decide) q)
    refine lv_iload hx hb dL_ways_97 (lv_at hl 1 rfl) ?_
    refine lv_if_eq (tgt := 144) hx hb dL_ways_99 (by decide) (fun q => absurd q (by decide)) (fun _ => ?_)
    refine lv_aload_n hx hb dL_ways_102 rfl (lv_at hl 5 rfl) ?_
    refine lv_iload_n hx hb dL_ways_103 rfl (lv_at hl 6 rfl) ?_
    refine lv_iconst (v := 0) hx hb dL_ways_104 (by decide) ?_
    refine z_callVi X hH (c_X5_reach l D k a g (nI z) 0) k_L_57 (rv_X5 X hH) [] rfl rfl hl.1 (Nat.le_of_ble_eq_true rfl) ⟨Nat.le_of_ble_eq_true rfl, Nat.le_of_ble_eq_true rfl⟩ ⟨Nat.le_refl _, Nat.le_refl _⟩ dL_ways_105 (fun r73 g74 H locs h75 hH => ?_)
    rw [h75.2] at hH
    rw [h75.1]
    refine lv_aload_n hx hb dL_ways_108 rfl (lv_at hl 5 rfl) ?_
    refine lv_iload_n hx hb dL_ways_109 rfl (lv_at hl 6 rfl) ?_
    refine lv_iconst (v := 1) hx hb dL_ways_110 (by decide) ?_
    refine z_callVi X hH (c_X5_reach l D k a g (nI z) 1) k_L_57 (rv_X5 X hH) [.int (kReach (g 0) (nI z) 0)] rfl rfl hl.1 (Nat.le_of_ble_eq_true rfl) ⟨Nat.le_of_ble_eq_true rfl, Nat.le_of_ble_eq_true rfl⟩ ⟨Nat.le_refl _, Nat.le_refl _⟩ dL_ways_111 (fun r76 g77 H locs h78 hH => ?_)
    rw [h78.2] at hH
    rw [h78.1]
    refine lv_iadd hx hb dL_ways_114 ?_
    refine lv_aload_n hx hb dL_ways_115 rfl (lv_at hl 5 rfl) ?_
    refine lv_iload_n hx hb dL_ways_116 rfl (lv_at hl 6 rfl) ?_
    refine lv_iconst (v := 2) hx hb dL_ways_117 (by decide) ?_
    refine z_callVi X hH (c_X5_reach l D k a g (nI z) 2) k_L_57 (rv_X5 X hH) [.int ((kReach (g 0) (nI z) 0) + (kReach (g 0) (nI z) 1))] rfl rfl hl.1 (Nat.le_of_ble_eq_true rfl) ⟨Nat.le_of_ble_eq_true rfl, Nat.le_of_ble_eq_true rfl⟩ ⟨Nat.le_refl _, Nat.le_refl _⟩ dL_ways_118 (fun r79 g80 H locs h81 hH => ?_)
    rw [h81.2] at hH
    rw [h81.1]
    refine lv_iadd hx hb dL_ways_121 ?_
    refine lv_iload_n hx hb dL_ways_122 rfl (lv_at hl 6 rfl) ?_
    refine lv_iconst (v := 3) hx hb dL_ways_123 (by decide) ?_
    refine n_irem (A := z) (B := 3) hx hb (z % 3) rfl (by omega) (by omega) (by omega) dL_ways_124 ?_
    refine n_if_ne (A := z % 3) (tgt := 134) hx hb (by omega) dL_ways_125 (by decide) (fun c82 => ?_) (fun c82 => ?_)
    · refine lv_sipush (v := 200) hx hb dL_ways_134 (by decide) ?_
      refine lv_icmp_ne (tgt := 144) hx hb dL_ways_137 (by decide) (fun q => absurd ((kReach_sum (v := g 0) (z := z) (by omega)).trans (if_neg c82)) q) (fun c83 => ?_)
      refine lv_iconst (v := 1) hx hb dL_ways_140 (by decide) ?_
      refine lv_goto (tgt := 145) hx hb dL_ways_141 (by decide) ?_
      exact hret _ _ _ _ _ _ rfl ⟨rfl, rfl⟩ hH dL_ways_145
    · refine lv_sipush (v := 201) hx hb dL_ways_128 (by decide) ?_
      refine lv_goto (tgt := 137) hx hb dL_ways_131 (by decide) ?_
      refine lv_icmp_ne (tgt := 144) hx hb dL_ways_137 (by decide) (fun q => absurd ((kReach_sum (v := g 0) (z := z) (by omega)).trans (if_pos c82)) q) (fun c84 => ?_)
      refine lv_iconst (v := 1) hx hb dL_ways_140 (by decide) ?_
      refine lv_goto (tgt := 145) hx hb dL_ways_141 (by decide) ?_
      exact hret _ _ _ _ _ _ rfl ⟨rfl, rfl⟩ hH dL_ways_145
