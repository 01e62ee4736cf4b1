/-! the law's body, in pieces -/
section LB
variable {p : Program} {l : Launch} {e : Env} {s : State} {m : MethodId} {args : Array Value} {below : List Frame} {meth : Method} {c : Code} {H : Heap} {locs : List Loc} {Q : State → Prop}
variable {ls : Array Slot} {D : va_G} {k : Nat → ClassId} {a : Nat → Nat → Nat} {G G1 : Mem} {b N i : Nat} {xs : Nat → Int32} {B : Int} {v : V} {z mm Y : Nat} {t : Int32}
set_option maxRecDepth 100000 in
set_option maxHeartbeats 4000000 in
theorem lw_s1 (Y0 : lwC p m c s args D k a b N xs) (hi : i < 34) (hH : zH D k a s (G) H locs) (hl : lv_has ls 25 [(3, .int (nI i)), (2, .int 1), (1, .ref (a 6 0)), (0, .ref b)]) (kk : ∀ (Y : Nat) (H : Heap) (locs : List Loc) (ls : Array Slot), Y < 2 ^ 31 → zH D k a s (G) H locs → lv_has ls 25 [(8, .int (nI (aN Y))), (7, .int (nI (Y / 16 % 9))), (6, .int (nI (Y % 16))), (4, .int (nI Y)), (3, .int (nI i)), (2, .int 1), (1, .ref (a 6 0)), (0, .ref b)] → W p l e room_1 s m args below meth c H locs 128 1206 Q (F0 m 155 ls [])) : W p l e room_1 s m args below meth c H locs 128 1206 Q (F0 m 89 ls []) := by
  have X := Y0.1
  obtain ⟨hx, hb, hml, hown, hts⟩ := X.1
  refine lv_aload_n hx hb dL_law_89 rfl (lv_at hl 3 rfl) ?_
  refine lv_iload_n hx hb dL_law_90 rfl (lv_at hl 0 rfl) ?_
  refine z_callSx X hH Y0.2.1 Y0.2.2.1 (c_L_cell l D k a G b N xs (Nat.lt_of_le_of_lt Y0.2.2.2 (by decide)) i (by omega)) k_L_76 [] rfl rfl hl.1 (Nat.le_of_ble_eq_true rfl) ⟨Nat.le_of_ble_eq_true rfl, Nat.le_of_ble_eq_true rfl⟩ ⟨Nat.le_of_ble_eq_true rfl, Nat.le_of_ble_eq_true rfl⟩ dL_law_91 (fun r1 g2 H locs h3 hH => ?_)
  obtain ⟨⟨Y, hY, rfl⟩, eG⟩ := h3
  rw [eG] at hH
  refine lv_istore (lv' := [(4, .int (nI Y)), (3, .int (nI i)), (2, .int 1), (1, .ref (a 6 0)), (0, .ref b)]) hx hb dL_law_94 hl (by decide) rfl (fun ls hl => ?_)
  refine lv_iload hx hb dL_law_96 (lv_at hl 0 rfl) ?_
  refine lv_bipush (v := 16) hx hb dL_law_98 (by decide) ?_
  refine n_idiv (A := Y) (B := 16) hx hb (Y / 16) rfl (by omega) (by omega) (by omega) dL_law_100 ?_
  refine lv_istore (lv' := [(5, .int (nI (Y / 16))), (4, .int (nI Y)), (3, .int (nI i)), (2, .int 1), (1, .ref (a 6 0)), (0, .ref b)]) hx hb dL_law_101 hl (by decide) rfl (fun ls hl => ?_)
  refine lv_iload hx hb dL_law_103 (lv_at hl 1 rfl) ?_
  refine lv_bipush (v := 16) hx hb dL_law_105 (by decide) ?_
  refine n_irem (A := Y) (B := 16) hx hb (Y % 16) rfl (by omega) (by omega) (by omega) dL_law_107 ?_
  refine lv_istore (lv' := [(6, .int (nI (Y % 16))), (5, .int (nI (Y / 16))), (4, .int (nI Y)), (3, .int (nI i)), (2, .int 1), (1, .ref (a 6 0)), (0, .ref b)]) hx hb dL_law_108 hl (by decide) rfl (fun ls hl => ?_)
  refine lv_iload hx hb dL_law_110 (lv_at hl 1 rfl) ?_
  refine lv_bipush (v := 9) hx hb dL_law_112 (by decide) ?_
  refine n_irem (A := Y / 16) (B := 9) hx hb ((Y / 16) % 9) rfl (by omega) (by omega) (by omega) dL_law_114 ?_
  refine lv_istore (lv' := [(7, .int (nI ((Y / 16) % 9))), (6, .int (nI (Y % 16))), (5, .int (nI (Y / 16))), (4, .int (nI Y)), (3, .int (nI i)), (2, .int 1), (1, .ref (a 6 0)), (0, .ref b)]) hx hb dL_law_115 hl (by decide) rfl (fun ls hl => ?_)
  refine lv_iload hx hb dL_law_117 (lv_at hl 2 rfl) ?_
  refine lv_bipush (v := 64) hx hb dL_law_119 (by decide) ?_
  refine n_idiv (A := Y / 16) (B := 64) hx hb ((Y / 16) / 64) rfl (by omega) (by omega) (by omega) dL_law_121 ?_
  refine lv_iconst (v := 5) hx hb dL_law_122 (by decide) ?_
  refine n_irem (A := (Y / 16) / 64) (B := 5) hx hb (((Y / 16) / 64) % 5) rfl (by omega) (by omega) (by omega) dL_law_123 ?_
  refine n_if_ne (A := ((Y / 16) / 64) % 5) (tgt := 142) hx hb (by omega) dL_law_124 (by decide) (fun c1 => ?_) (fun c1 => ?_)
  · refine lv_iconst (v := 1) hx hb dL_law_142 (by decide) ?_
    refine lv_iload hx hb dL_law_143 (lv_at hl 2 rfl) ?_
    refine lv_sipush (v := 512) hx hb dL_law_145 (by decide) ?_
    refine n_idiv (A := Y / 16) (B := 512) hx hb ((Y / 16) / 512) rfl (by omega) (by omega) (by omega) dL_law_148 ?_
    refine lv_bipush (v := 60) hx hb dL_law_149 (by decide) ?_
    refine n_irem (A := (Y / 16) / 512) (B := 60) hx hb (((Y / 16) / 512) % 60) rfl (by omega) (by omega) (by omega) dL_law_151 ?_
    refine n_iadd (A := 1) (B := ((Y / 16) / 512) % 60) hx hb (1 + (((Y / 16) / 512) % 60)) (by omega) dL_law_152 ?_
    refine lv_istore (lv' := [(8, .int (nI (1 + (((Y / 16) / 512) % 60)))), (7, .int (nI ((Y / 16) % 9))), (6, .int (nI (Y % 16))), (5, .int (nI (Y / 16))), (4, .int (nI Y)), (3, .int (nI i)), (2, .int 1), (1, .ref (a 6 0)), (0, .ref b)]) hx hb dL_law_153 hl (by decide) rfl (fun ls hl => ?_)
    refine kk Y _ _ _ hY ?_ ?_
    · exact hH
    · rw [show (nI (aN Y) : Int32) = nI (1 + (((Y / 16) / 512) % 60)) from by simp only [aN, c1, if_true, if_false, not_true_eq_false, not_false_eq_true, true_or, or_true, false_or, or_false, or_self, Nat.lt_irrefl, true_and, and_true, and_self], show (nI (Y / 16 % 9) : Int32) = nI ((Y / 16) % 9) from by rfl]; exact lv_sub hl [0, 1, 2, 4, 5, 6, 7, 8] rfl
  · refine lv_iconst (v := 1) hx hb dL_law_127 (by decide) ?_
    refine lv_iload hx hb dL_law_128 (lv_at hl 2 rfl) ?_
    refine lv_sipush (v := 512) hx hb dL_law_130 (by decide) ?_
    refine n_idiv (A := Y / 16) (B := 512) hx hb ((Y / 16) / 512) rfl (by omega) (by omega) (by omega) dL_law_133 ?_
    refine lv_sipush (v := 9999) hx hb dL_law_134 (by decide) ?_
    refine n_irem (A := (Y / 16) / 512) (B := 9999) hx hb (((Y / 16) / 512) % 9999) rfl (by omega) (by omega) (by omega) dL_law_137 ?_
    refine n_iadd (A := 1) (B := ((Y / 16) / 512) % 9999) hx hb (1 + (((Y / 16) / 512) % 9999)) (by omega) dL_law_138 ?_
    refine lv_goto (tgt := 153) hx hb dL_law_139 (by decide) ?_
    refine lv_istore (lv' := [(8, .int (nI (1 + (((Y / 16) / 512) % 9999)))), (7, .int (nI ((Y / 16) % 9))), (6, .int (nI (Y % 16))), (5, .int (nI (Y / 16))), (4, .int (nI Y)), (3, .int (nI i)), (2, .int 1), (1, .ref (a 6 0)), (0, .ref b)]) hx hb dL_law_153 hl (by decide) rfl (fun ls hl => ?_)
    refine kk Y _ _ _ hY ?_ ?_
    · exact hH
    · rw [show (nI (aN Y) : Int32) = nI (1 + (((Y / 16) / 512) % 9999)) from by simp only [aN, c1, if_true, if_false, not_true_eq_false, not_false_eq_true, true_or, or_true, false_or, or_false, or_self, Nat.lt_irrefl, true_and, and_true, and_self], show (nI (Y / 16 % 9) : Int32) = nI ((Y / 16) % 9) from by rfl]; exact lv_sub hl [0, 1, 2, 4, 5, 6, 7, 8] rfl
set_option maxRecDepth 100000 in
set_option maxHeartbeats 4000000 in
theorem lw_s2 (Y0 : lwC p m c s args D k a b N xs) (hz : z < 12) (hm : 1 ≤ mm ∧ mm ≤ 9999) (hf : zFl (G 0)) (hH : zH D k a s (G) H locs) (hl : lv_has ls 25 [(8, .int (nI mm)), (7, .int (nI z)), (6, .int (nI (Y % 16))), (4, .int (nI Y)), (3, .int (nI i)), (2, .int 1), (1, .ref (a 6 0)), (0, .ref b)]) (kk : ∀  (H : Heap) (locs : List Loc) (ls : Array Slot), zH D k a s (G) H locs → lv_has ls 25 [(23, .int (kPlan (G 0) (nI z) 8)), (22, .int (fCost (G 0) z (fBest (G 0) z (nI mm)) (nI mm))), (21, .int (fIf (G 0) z (nI mm) 4)), (20, .int (fIf (G 0) z (nI mm) 3)), (19, .int (fIf (G 0) z (nI mm) 2)), (18, .int (fIf (G 0) z (nI mm) 1)), (17, .int (fIf (G 0) z (nI mm) 0)), (16, .int (fWhy (G 0) z (nI mm))), (15, .int (G 0 8)), (14, .int (G 0 148)), (13, .int (G 0 151)), (12, .int (G 0 150)), (11, .int (G 0 146)), (10, .int (G 0 145)), (9, .int (G 6 1)), (8, .int (nI mm)), (7, .int (nI z)), (6, .int (nI (Y % 16))), (4, .int (nI Y)), (3, .int (nI i)), (2, .int 1), (1, .ref (a 6 0)), (0, .ref b)] → W p l e room_1 s m args below meth c H locs 128 1206 Q (F0 m 302 ls [])) : W p l e room_1 s m args below meth c H locs 128 1206 Q (F0 m 155 ls []) := by
  have X := Y0.1
  obtain ⟨hx, hb, hml, hown, hts⟩ := X.1
  refine lv_aload_n hx hb dL_law_155 rfl (lv_at hl 6 rfl) ?_
  refine lv_bipush (v := 15) hx hb dL_law_156 (by decide) ?_
  refine z_callVi X hH (c_X5_count l D k a G 15) k_L_43 (rv_X5 X hH) [] rfl rfl hl.1 (Nat.le_of_ble_eq_true rfl) ⟨Nat.le_of_ble_eq_true rfl, Nat.le_of_ble_eq_true rfl⟩ ⟨Nat.le_of_ble_eq_true rfl, Nat.le_of_ble_eq_true rfl⟩ dL_law_158 (fun r1 g2 H locs h3 hH => ?_)
  rw [h3.2] at hH
  rw [h3.1, kcn15]
  refine lv_istore (lv' := [(9, .int (G 6 1)), (8, .int (nI mm)), (7, .int (nI z)), (6, .int (nI (Y % 16))), (4, .int (nI Y)), (3, .int (nI i)), (2, .int 1), (1, .ref (a 6 0)), (0, .ref b)]) hx hb dL_law_161 hl (by decide) rfl (fun ls hl => ?_)
  refine lv_aload_n hx hb dL_law_163 rfl (lv_at hl 7 rfl) ?_
  refine lv_iconst (v := 3) hx hb dL_law_164 (by decide) ?_
  refine z_callVi X hH (c_X5_count l D k a G 3) k_L_43 (rv_X5 X hH) [] rfl rfl hl.1 (Nat.le_of_ble_eq_true rfl) ⟨Nat.le_of_ble_eq_true rfl, Nat.le_of_ble_eq_true rfl⟩ ⟨Nat.le_of_ble_eq_true rfl, Nat.le_of_ble_eq_true rfl⟩ dL_law_165 (fun r4 g5 H locs h6 hH => ?_)
  rw [h6.2] at hH
  rw [h6.1, kcn3]
  refine lv_istore (lv' := [(10, .int (G 0 145)), (9, .int (G 6 1)), (8, .int (nI mm)), (7, .int (nI z)), (6, .int (nI (Y % 16))), (4, .int (nI Y)), (3, .int (nI i)), (2, .int 1), (1, .ref (a 6 0)), (0, .ref b)]) hx hb dL_law_168 hl (by decide) rfl (fun ls hl => ?_)
  refine lv_aload_n hx hb dL_law_170 rfl (lv_at hl 8 rfl) ?_
  refine lv_iconst (v := 4) hx hb dL_law_171 (by decide) ?_
  refine z_callVi X hH (c_X5_count l D k a G 4) k_L_43 (rv_X5 X hH) [] rfl rfl hl.1 (Nat.le_of_ble_eq_true rfl) ⟨Nat.le_of_ble_eq_true rfl, Nat.le_of_ble_eq_true rfl⟩ ⟨Nat.le_of_ble_eq_true rfl, Nat.le_of_ble_eq_true rfl⟩ dL_law_172 (fun r7 g8 H locs h9 hH => ?_)
  rw [h9.2] at hH
  rw [h9.1, kcn4]
  refine lv_istore (lv' := [(11, .int (G 0 146)), (10, .int (G 0 145)), (9, .int (G 6 1)), (8, .int (nI mm)), (7, .int (nI z)), (6, .int (nI (Y % 16))), (4, .int (nI Y)), (3, .int (nI i)), (2, .int 1), (1, .ref (a 6 0)), (0, .ref b)]) hx hb dL_law_175 hl (by decide) rfl (fun ls hl => ?_)
  refine lv_aload_n hx hb dL_law_177 rfl (lv_at hl 9 rfl) ?_
  refine lv_bipush (v := 8) hx hb dL_law_178 (by decide) ?_
  refine z_callVi X hH (c_X5_count l D k a G 8) k_L_43 (rv_X5 X hH) [] rfl rfl hl.1 (Nat.le_of_ble_eq_true rfl) ⟨Nat.le_of_ble_eq_true rfl, Nat.le_of_ble_eq_true rfl⟩ ⟨Nat.le_of_ble_eq_true rfl, Nat.le_of_ble_eq_true rfl⟩ dL_law_180 (fun r10 g11 H locs h12 hH => ?_)
  rw [h12.2] at hH
  rw [h12.1, kcn8]
  refine lv_istore (lv' := [(12, .int (G 0 150)), (11, .int (G 0 146)), (10, .int (G 0 145)), (9, .int (G 6 1)), (8, .int (nI mm)), (7, .int (nI z)), (6, .int (nI (Y % 16))), (4, .int (nI Y)), (3, .int (nI i)), (2, .int 1), (1, .ref (a 6 0)), (0, .ref b)]) hx hb dL_law_183 hl (by decide) rfl (fun ls hl => ?_)
  refine lv_aload_n hx hb dL_law_185 rfl (lv_at hl 10 rfl) ?_
  refine lv_bipush (v := 9) hx hb dL_law_186 (by decide) ?_
  refine z_callVi X hH (c_X5_count l D k a G 9) k_L_43 (rv_X5 X hH) [] rfl rfl hl.1 (Nat.le_of_ble_eq_true rfl) ⟨Nat.le_of_ble_eq_true rfl, Nat.le_of_ble_eq_true rfl⟩ ⟨Nat.le_of_ble_eq_true rfl, Nat.le_of_ble_eq_true rfl⟩ dL_law_188 (fun r13 g14 H locs h15 hH => ?_)
  rw [h15.2] at hH
  rw [h15.1, kcn9]
  refine lv_istore (lv' := [(13, .int (G 0 151)), (12, .int (G 0 150)), (11, .int (G 0 146)), (10, .int (G 0 145)), (9, .int (G 6 1)), (8, .int (nI mm)), (7, .int (nI z)), (6, .int (nI (Y % 16))), (4, .int (nI Y)), (3, .int (nI i)), (2, .int 1), (1, .ref (a 6 0)), (0, .ref b)]) hx hb dL_law_191 hl (by decide) rfl (fun ls hl => ?_)
  refine lv_aload_n hx hb dL_law_193 rfl (lv_at hl 11 rfl) ?_
  refine lv_bipush (v := 6) hx hb dL_law_194 (by decide) ?_
  refine z_callVi X hH (c_X5_count l D k a G 6) k_L_43 (rv_X5 X hH) [] rfl rfl hl.1 (Nat.le_of_ble_eq_true rfl) ⟨Nat.le_of_ble_eq_true rfl, Nat.le_of_ble_eq_true rfl⟩ ⟨Nat.le_of_ble_eq_true rfl, Nat.le_of_ble_eq_true rfl⟩ dL_law_196 (fun r16 g17 H locs h18 hH => ?_)
  rw [h18.2] at hH
  rw [h18.1, kcn6]
  refine lv_istore (lv' := [(14, .int (G 0 148)), (13, .int (G 0 151)), (12, .int (G 0 150)), (11, .int (G 0 146)), (10, .int (G 0 145)), (9, .int (G 6 1)), (8, .int (nI mm)), (7, .int (nI z)), (6, .int (nI (Y % 16))), (4, .int (nI Y)), (3, .int (nI i)), (2, .int 1), (1, .ref (a 6 0)), (0, .ref b)]) hx hb dL_law_199 hl (by decide) rfl (fun ls hl => ?_)
  refine lv_aload_n hx hb dL_law_201 rfl (lv_at hl 12 rfl) ?_
  refine lv_bipush (v := 10) hx hb dL_law_202 (by decide) ?_
  refine z_callVi X hH (c_X5_count l D k a G 10) k_L_43 (rv_X5 X hH) [] rfl rfl hl.1 (Nat.le_of_ble_eq_true rfl) ⟨Nat.le_of_ble_eq_true rfl, Nat.le_of_ble_eq_true rfl⟩ ⟨Nat.le_of_ble_eq_true rfl, Nat.le_of_ble_eq_true rfl⟩ dL_law_204 (fun r19 g20 H locs h21 hH => ?_)
  rw [h21.2] at hH
  rw [h21.1, kcn10]
  refine lv_istore (lv' := [(15, .int (G 0 8)), (14, .int (G 0 148)), (13, .int (G 0 151)), (12, .int (G 0 150)), (11, .int (G 0 146)), (10, .int (G 0 145)), (9, .int (G 6 1)), (8, .int (nI mm)), (7, .int (nI z)), (6, .int (nI (Y % 16))), (4, .int (nI Y)), (3, .int (nI i)), (2, .int 1), (1, .ref (a 6 0)), (0, .ref b)]) hx hb dL_law_207 hl (by decide) rfl (fun ls hl => ?_)
  refine lv_aload_n hx hb dL_law_209 rfl (lv_at hl 13 rfl) ?_
  refine lv_iload hx hb dL_law_210 (lv_at hl 8 rfl) ?_
  refine lv_iload hx hb dL_law_212 (lv_at hl 7 rfl) ?_
  refine z_callVi X hH (c_X5_reason l D k a G (nI z) (nI mm)) k_L_37 (rv_X5 X hH) [] rfl rfl hl.1 (Nat.le_of_ble_eq_true rfl) ⟨Nat.le_of_ble_eq_true rfl, Nat.le_of_ble_eq_true rfl⟩ ⟨Nat.le_of_ble_eq_true rfl, Nat.le_of_ble_eq_true rfl⟩ dL_law_214 (fun r22 g23 H locs h24 hH => ?_)
  rw [h24.2] at hH
  rw [h24.1, kre (by omega) (okN_m hm)]
  refine lv_istore (lv' := [(16, .int (fWhy (G 0) z (nI mm))), (15, .int (G 0 8)), (14, .int (G 0 148)), (13, .int (G 0 151)), (12, .int (G 0 150)), (11, .int (G 0 146)), (10, .int (G 0 145)), (9, .int (G 6 1)), (8, .int (nI mm)), (7, .int (nI z)), (6, .int (nI (Y % 16))), (4, .int (nI Y)), (3, .int (nI i)), (2, .int 1), (1, .ref (a 6 0)), (0, .ref b)]) hx hb dL_law_217 hl (by decide) rfl (fun ls hl => ?_)
  refine lv_aload_n hx hb dL_law_219 rfl (lv_at hl 14 rfl) ?_
  refine lv_iload hx hb dL_law_220 (lv_at hl 9 rfl) ?_
  refine lv_iload hx hb dL_law_222 (lv_at hl 8 rfl) ?_
  refine lv_iconst (v := 0) hx hb dL_law_224 (by decide) ?_
  refine z_callVi X hH (c_X5_ifAsked l D k a G (nI z) (nI mm) 0) k_L_80 (rv_X5 X hH) [] rfl rfl hl.1 (Nat.le_of_ble_eq_true rfl) ⟨Nat.le_of_ble_eq_true rfl, Nat.le_of_ble_eq_true rfl⟩ ⟨Nat.le_of_ble_eq_true rfl, Nat.le_of_ble_eq_true rfl⟩ dL_law_225 (fun r25 g26 H locs h27 hH => ?_)
  rw [h27.2] at hH
  rw [h27.1, kif (by omega) (okN_m hm) (by decide) (by decide)]
  refine lv_istore (lv' := [(17, .int (fIf (G 0) z (nI mm) 0)), (16, .int (fWhy (G 0) z (nI mm))), (15, .int (G 0 8)), (14, .int (G 0 148)), (13, .int (G 0 151)), (12, .int (G 0 150)), (11, .int (G 0 146)), (10, .int (G 0 145)), (9, .int (G 6 1)), (8, .int (nI mm)), (7, .int (nI z)), (6, .int (nI (Y % 16))), (4, .int (nI Y)), (3, .int (nI i)), (2, .int 1), (1, .ref (a 6 0)), (0, .ref b)]) hx hb dL_law_228 hl (by decide) rfl (fun ls hl => ?_)
  refine lv_aload_n hx hb dL_law_230 rfl (lv_at hl 15 rfl) ?_
  refine lv_iload hx hb dL_law_231 (lv_at hl 10 rfl) ?_
  refine lv_iload hx hb dL_law_233 (lv_at hl 9 rfl) ?_
  refine lv_iconst (v := 1) hx hb dL_law_235 (by decide) ?_
  refine z_callVi X hH (c_X5_ifAsked l D k a G (nI z) (nI mm) 1) k_L_80 (rv_X5 X hH) [] rfl rfl hl.1 (Nat.le_of_ble_eq_true rfl) ⟨Nat.le_of_ble_eq_true rfl, Nat.le_of_ble_eq_true rfl⟩ ⟨Nat.le_of_ble_eq_true rfl, Nat.le_of_ble_eq_true rfl⟩ dL_law_236 (fun r28 g29 H locs h30 hH => ?_)
  rw [h30.2] at hH
  rw [h30.1, kif (by omega) (okN_m hm) (by decide) (by decide)]
  refine lv_istore (lv' := [(18, .int (fIf (G 0) z (nI mm) 1)), (17, .int (fIf (G 0) z (nI mm) 0)), (16, .int (fWhy (G 0) z (nI mm))), (15, .int (G 0 8)), (14, .int (G 0 148)), (13, .int (G 0 151)), (12, .int (G 0 150)), (11, .int (G 0 146)), (10, .int (G 0 145)), (9, .int (G 6 1)), (8, .int (nI mm)), (7, .int (nI z)), (6, .int (nI (Y % 16))), (4, .int (nI Y)), (3, .int (nI i)), (2, .int 1), (1, .ref (a 6 0)), (0, .ref b)]) hx hb dL_law_239 hl (by decide) rfl (fun ls hl => ?_)
  refine lv_aload_n hx hb dL_law_241 rfl (lv_at hl 16 rfl) ?_
  refine lv_iload hx hb dL_law_242 (lv_at hl 11 rfl) ?_
  refine lv_iload hx hb dL_law_244 (lv_at hl 10 rfl) ?_
  refine lv_iconst (v := 2) hx hb dL_law_246 (by decide) ?_
  refine z_callVi X hH (c_X5_ifAsked l D k a G (nI z) (nI mm) 2) k_L_80 (rv_X5 X hH) [] rfl rfl hl.1 (Nat.le_of_ble_eq_true rfl) ⟨Nat.le_of_ble_eq_true rfl, Nat.le_of_ble_eq_true rfl⟩ ⟨Nat.le_of_ble_eq_true rfl, Nat.le_of_ble_eq_true rfl⟩ dL_law_247 (fun r31 g32 H locs h33 hH => ?_)
  rw [h33.2] at hH
  rw [h33.1, kif (by omega) (okN_m hm) (by decide) (by decide)]
  refine lv_istore (lv' := [(19, .int (fIf (G 0) z (nI mm) 2)), (18, .int (fIf (G 0) z (nI mm) 1)), (17, .int (fIf (G 0) z (nI mm) 0)), (16, .int (fWhy (G 0) z (nI mm))), (15, .int (G 0 8)), (14, .int (G 0 148)), (13, .int (G 0 151)), (12, .int (G 0 150)), (11, .int (G 0 146)), (10, .int (G 0 145)), (9, .int (G 6 1)), (8, .int (nI mm)), (7, .int (nI z)), (6, .int (nI (Y % 16))), (4, .int (nI Y)), (3, .int (nI i)), (2, .int 1), (1, .ref (a 6 0)), (0, .ref b)]) hx hb dL_law_250 hl (by decide) rfl (fun ls hl => ?_)
  refine lv_aload_n hx hb dL_law_252 rfl (lv_at hl 17 rfl) ?_
  refine lv_iload hx hb dL_law_253 (lv_at hl 12 rfl) ?_
  refine lv_iload hx hb dL_law_255 (lv_at hl 11 rfl) ?_
  refine lv_iconst (v := 3) hx hb dL_law_257 (by decide) ?_
  refine z_callVi X hH (c_X5_ifAsked l D k a G (nI z) (nI mm) 3) k_L_80 (rv_X5 X hH) [] rfl rfl hl.1 (Nat.le_of_ble_eq_true rfl) ⟨Nat.le_of_ble_eq_true rfl, Nat.le_of_ble_eq_true rfl⟩ ⟨Nat.le_of_ble_eq_true rfl, Nat.le_of_ble_eq_true rfl⟩ dL_law_258 (fun r34 g35 H locs h36 hH => ?_)
  rw [h36.2] at hH
  rw [h36.1, kif (by omega) (okN_m hm) (by decide) (by decide)]
  refine lv_istore (lv' := [(20, .int (fIf (G 0) z (nI mm) 3)), (19, .int (fIf (G 0) z (nI mm) 2)), (18, .int (fIf (G 0) z (nI mm) 1)), (17, .int (fIf (G 0) z (nI mm) 0)), (16, .int (fWhy (G 0) z (nI mm))), (15, .int (G 0 8)), (14, .int (G 0 148)), (13, .int (G 0 151)), (12, .int (G 0 150)), (11, .int (G 0 146)), (10, .int (G 0 145)), (9, .int (G 6 1)), (8, .int (nI mm)), (7, .int (nI z)), (6, .int (nI (Y % 16))), (4, .int (nI Y)), (3, .int (nI i)), (2, .int 1), (1, .ref (a 6 0)), (0, .ref b)]) hx hb dL_law_261 hl (by decide) rfl (fun ls hl => ?_)
  refine lv_aload_n hx hb dL_law_263 rfl (lv_at hl 18 rfl) ?_
  refine lv_iload hx hb dL_law_264 (lv_at hl 13 rfl) ?_
  refine lv_iload hx hb dL_law_266 (lv_at hl 12 rfl) ?_
  refine lv_iconst (v := 4) hx hb dL_law_268 (by decide) ?_
  refine z_callVi X hH (c_X5_ifAsked l D k a G (nI z) (nI mm) 4) k_L_80 (rv_X5 X hH) [] rfl rfl hl.1 (Nat.le_of_ble_eq_true rfl) ⟨Nat.le_of_ble_eq_true rfl, Nat.le_of_ble_eq_true rfl⟩ ⟨Nat.le_of_ble_eq_true rfl, Nat.le_of_ble_eq_true rfl⟩ dL_law_269 (fun r37 g38 H locs h39 hH => ?_)
  rw [h39.2] at hH
  rw [h39.1, kif (by omega) (okN_m hm) (by decide) (by decide)]
  refine lv_istore (lv' := [(21, .int (fIf (G 0) z (nI mm) 4)), (20, .int (fIf (G 0) z (nI mm) 3)), (19, .int (fIf (G 0) z (nI mm) 2)), (18, .int (fIf (G 0) z (nI mm) 1)), (17, .int (fIf (G 0) z (nI mm) 0)), (16, .int (fWhy (G 0) z (nI mm))), (15, .int (G 0 8)), (14, .int (G 0 148)), (13, .int (G 0 151)), (12, .int (G 0 150)), (11, .int (G 0 146)), (10, .int (G 0 145)), (9, .int (G 6 1)), (8, .int (nI mm)), (7, .int (nI z)), (6, .int (nI (Y % 16))), (4, .int (nI Y)), (3, .int (nI i)), (2, .int 1), (1, .ref (a 6 0)), (0, .ref b)]) hx hb dL_law_272 hl (by decide) rfl (fun ls hl => ?_)
  refine lv_aload_n hx hb dL_law_274 rfl (lv_at hl 19 rfl) ?_
  refine lv_iload hx hb dL_law_275 (lv_at hl 14 rfl) ?_
  refine lv_aload_n hx hb dL_law_277 rfl (lv_at hl 19 rfl) ?_
  refine lv_iload hx hb dL_law_278 (lv_at hl 14 rfl) ?_
  refine lv_iload hx hb dL_law_280 (lv_at hl 13 rfl) ?_
  refine z_callVi X hH (c_X5_cheapest l D k a G (nI z) (nI mm)) k_L_54 (rv_X5 X hH) [.int (nI z), .ref (a 6 0)] rfl rfl hl.1 (Nat.le_of_ble_eq_true rfl) ⟨Nat.le_of_ble_eq_true rfl, Nat.le_of_ble_eq_true rfl⟩ ⟨Nat.le_of_ble_eq_true rfl, Nat.le_of_ble_eq_true rfl⟩ dL_law_282 (fun r40 g41 H locs h42 hH => ?_)
  rw [h42.2] at hH
  rw [h42.1, kch (by omega) (okN_m hm)]
  refine lv_iload hx hb dL_law_285 (lv_at hl 13 rfl) ?_
  refine z_callVi X hH (c_X5_cost l D k a G (nI z) (fBest (G 0) z (nI mm)) (nI mm)) k_L_46 (rv_X5 X hH) [] rfl rfl hl.1 (Nat.le_of_ble_eq_true rfl) ⟨Nat.le_of_ble_eq_true rfl, Nat.le_of_ble_eq_true rfl⟩ ⟨Nat.le_of_ble_eq_true rfl, Nat.le_of_ble_eq_true rfl⟩ dL_law_287 (fun r43 g44 H locs h45 hH => ?_)
  rw [h45.2] at hH
  rw [h45.1, kco (by omega) (okW_w fBest_3) (okN_m hm)]
  refine lv_istore (lv' := [(22, .int (fCost (G 0) z (fBest (G 0) z (nI mm)) (nI mm))), (21, .int (fIf (G 0) z (nI mm) 4)), (20, .int (fIf (G 0) z (nI mm) 3)), (19, .int (fIf (G 0) z (nI mm) 2)), (18, .int (fIf (G 0) z (nI mm) 1)), (17, .int (fIf (G 0) z (nI mm) 0)), (16, .int (fWhy (G 0) z (nI mm))), (15, .int (G 0 8)), (14, .int (G 0 148)), (13, .int (G 0 151)), (12, .int (G 0 150)), (11, .int (G 0 146)), (10, .int (G 0 145)), (9, .int (G 6 1)), (8, .int (nI mm)), (7, .int (nI z)), (6, .int (nI (Y % 16))), (4, .int (nI Y)), (3, .int (nI i)), (2, .int 1), (1, .ref (a 6 0)), (0, .ref b)]) hx hb dL_law_290 hl (by decide) rfl (fun ls hl => ?_)
  refine lv_aload_n hx hb dL_law_292 rfl (lv_at hl 20 rfl) ?_
  refine lv_iload hx hb dL_law_293 (lv_at hl 15 rfl) ?_
  refine lv_bipush (v := 8) hx hb dL_law_295 (by decide) ?_
  refine z_callVi X hH (c_X5_plan l D k a G hf (nI z) 8) k_L_34 (rv_X5 X hH) [] rfl rfl hl.1 (Nat.le_of_ble_eq_true rfl) ⟨Nat.le_of_ble_eq_true rfl, Nat.le_of_ble_eq_true rfl⟩ ⟨Nat.le_of_ble_eq_true rfl, Nat.le_of_ble_eq_true rfl⟩ dL_law_297 (fun r46 g47 H locs h48 hH => ?_)
  rw [h48.2] at hH
  rw [h48.1]
  refine lv_istore (lv' := [(23, .int (kPlan (G 0) (nI z) 8)), (22, .int (fCost (G 0) z (fBest (G 0) z (nI mm)) (nI mm))), (21, .int (fIf (G 0) z (nI mm) 4)), (20, .int (fIf (G 0) z (nI mm) 3)), (19, .int (fIf (G 0) z (nI mm) 2)), (18, .int (fIf (G 0) z (nI mm) 1)), (17, .int (fIf (G 0) z (nI mm) 0)), (16, .int (fWhy (G 0) z (nI mm))), (15, .int (G 0 8)), (14, .int (G 0 148)), (13, .int (G 0 151)), (12, .int (G 0 150)), (11, .int (G 0 146)), (10, .int (G 0 145)), (9, .int (G 6 1)), (8, .int (nI mm)), (7, .int (nI z)), (6, .int (nI (Y % 16))), (4, .int (nI Y)), (3, .int (nI i)), (2, .int 1), (1, .ref (a 6 0)), (0, .ref b)]) hx hb dL_law_300 hl (by decide) rfl (fun ls hl => ?_)
  refine kk  _ _ _  ?_ ?_
  · exact hH
  · exact lv_sub hl [0, 1, 2, 3, 4, 5, 6, 7, 8, 9, 10, 11, 12, 13, 14, 15, 16, 17, 18, 19, 20, 21, 22] rfl
set_option maxRecDepth 100000 in
set_option maxHeartbeats 4000000 in
theorem lw_s3 (Y0 : lwC p m c s args D k a b N xs) (hz : z < 12) (hm : 1 ≤ mm ∧ mm ≤ 9999) (hf : zFl (G 0)) (hI : zInv B (G 0)) (hH : zH D k a s (G) H locs) (hl : lv_has ls 25 [(23, .int (kPlan (G 0) (nI z) 8)), (22, .int (fCost (G 0) z (fBest (G 0) z (nI mm)) (nI mm))), (21, .int (fIf (G 0) z (nI mm) 4)), (20, .int (fIf (G 0) z (nI mm) 3)), (19, .int (fIf (G 0) z (nI mm) 2)), (18, .int (fIf (G 0) z (nI mm) 1)), (17, .int (fIf (G 0) z (nI mm) 0)), (16, .int (fWhy (G 0) z (nI mm))), (15, .int (G 0 8)), (14, .int (G 0 148)), (13, .int (G 0 151)), (12, .int (G 0 150)), (11, .int (G 0 146)), (10, .int (G 0 145)), (9, .int (G 6 1)), (8, .int (nI mm)), (7, .int (nI z)), (6, .int (nI (Y % 16))), (4, .int (nI Y)), (3, .int (nI i)), (2, .int 1), (1, .ref (a 6 0)), (0, .ref b)]) (kk : ∀  (H : Heap) (locs : List Loc) (ls : Array Slot), zH D k a s (G) H locs → lv_has ls 25 [(23, .int (kPlan (G 0) (nI z) 8)), (22, .int (fCost (G 0) z (fBest (G 0) z (nI mm)) (nI mm))), (21, .int (fIf (G 0) z (nI mm) 4)), (20, .int (fIf (G 0) z (nI mm) 3)), (19, .int (fIf (G 0) z (nI mm) 2)), (18, .int (fIf (G 0) z (nI mm) 1)), (17, .int (fIf (G 0) z (nI mm) 0)), (16, .int (fWhy (G 0) z (nI mm))), (15, .int (G 0 8)), (14, .int (G 0 148)), (13, .int (G 0 151)), (12, .int (G 0 150)), (11, .int (G 0 146)), (10, .int (G 0 145)), (9, .int (G 6 1)), (8, .int (nI mm)), (7, .int (nI z)), (6, .int (nI (Y % 16))), (4, .int (nI Y)), (3, .int (nI i)), (2, .int 1), (1, .ref (a 6 0)), (0, .ref b)] → W p l e room_1 s m args below meth c H locs 128 1206 Q (F0 m 424 ls [])) : W p l e room_1 s m args below meth c H locs 128 1206 Q (F0 m 302 ls []) := by
  have X := Y0.1
  obtain ⟨hx, hb, hml, hown, hts⟩ := X.1
  by_cases hw : fWhy (G 0) z (nI mm) = 0
  · refine lv_iload hx hb dL_law_302 (lv_at hl 2 rfl) ?_
    refine lv_iload hx hb dL_law_304 (lv_at hl 6 rfl) ?_
    refine lv_iload hx hb dL_law_306 (lv_at hl 1 rfl) ?_
    refine lv_isub hx hb dL_law_308 ?_
    refine lv_icmp_ne (tgt := 422) hx hb dL_law_309 (by decide) (fun q => absurd if_4 q) (fun c1 => ?_)
    refine lv_iload hx hb dL_law_312 (lv_at hl 2 rfl) ?_
    refine i_if_lt (tgt := 422) hx hb dL_law_314 (by decide) (fun q => absurd q (if_4n hz (okN_m hm) hI)) (fun c2 => ?_)
    refine lv_iload hx hb dL_law_317 (lv_at hl 6 rfl) ?_
    refine lv_aload_n hx hb dL_law_319 rfl (lv_at hl 21 rfl) ?_
    refine lv_iload hx hb dL_law_320 (lv_at hl 16 rfl) ?_
    refine lv_iload hx hb dL_law_322 (lv_at hl 5 rfl) ?_
    refine lv_iload hx hb dL_law_324 (lv_at hl 15 rfl) ?_
    refine z_callVi X hH (c_X5_cost l D k a G (nI z) (fIf (G 0) z (nI mm) 1) (nI mm)) k_L_46 (rv_X5 X hH) [.int (fIf (G 0) z (nI mm) 0)] rfl rfl hl.1 (Nat.le_of_ble_eq_true rfl) ⟨Nat.le_of_ble_eq_true rfl, Nat.le_of_ble_eq_true rfl⟩ ⟨Nat.le_of_ble_eq_true rfl, Nat.le_of_ble_eq_true rfl⟩ dL_law_326 (fun r3 g4 H locs h5 hH => ?_)
    rw [h5.2] at hH
    rw [h5.1, kco (by omega) (if_w hz hI) (okN_m hm)]
    refine lv_iload hx hb dL_law_329 (lv_at hl 7 rfl) ?_
    refine lv_if_ne (tgt := 338) hx hb dL_law_331 (by decide) (fun q => absurd hw q) (fun _ => ?_)
    refine lv_iconst (v := 0) hx hb dL_law_334 (by decide) ?_
    refine lv_goto (tgt := 340) hx hb dL_law_335 (by decide) ?_
    refine lv_iadd hx hb dL_law_340 ?_
    refine lv_icmp_ne (tgt := 422) hx hb dL_law_341 (by decide) (fun q => absurd (if_0h hw) q) (fun c6 => ?_)
    refine lv_iload hx hb dL_law_344 (lv_at hl 7 rfl) ?_
    refine lv_if_ne (tgt := 371) hx hb dL_law_346 (by decide) (fun q => absurd hw q) (fun _ => ?_)
    refine lv_iload hx hb dL_law_349 (lv_at hl 5 rfl) ?_
    refine lv_aload_n hx hb dL_law_351 rfl (lv_at hl 21 rfl) ?_
    refine lv_iload hx hb dL_law_352 (lv_at hl 16 rfl) ?_
    refine lv_iconst (v := 0) hx hb dL_law_354 (by decide) ?_
    refine z_callVi X hH (c_X5_plan l D k a G hf (nI z) 0) k_L_34 (rv_X5 X hH) [.int (fIf (G 0) z (nI mm) 1)] rfl rfl hl.1 (Nat.le_of_ble_eq_true rfl) ⟨Nat.le_of_ble_eq_true rfl, Nat.le_of_ble_eq_true rfl⟩ ⟨Nat.le_of_ble_eq_true rfl, Nat.le_of_ble_eq_true rfl⟩ dL_law_355 (fun r7 g8 H locs h9 hH => ?_)
    rw [h9.2] at hH
    rw [h9.1, kp0 (by omega) (fWhy_kept hw)]
    refine lv_icmp_ne (tgt := 422) hx hb dL_law_358 (by decide) (fun q => absurd (if_1h hw) q) (fun c10 => ?_)
    refine lv_iload hx hb dL_law_361 (lv_at hl 3 rfl) ?_
    refine lv_bipush (v := (-4)) hx hb dL_law_363 (by decide) ?_
    refine lv_icmp_ne (tgt := 422) hx hb dL_law_365 (by decide) (fun q => absurd (if_3h hw) q) (fun c11 => ?_)
    refine lv_goto (tgt := 389) hx hb dL_law_368 (by decide) ?_
    refine lv_iload hx hb dL_law_389 (lv_at hl 3 rfl) ?_
    refine lv_bipush (v := (-4)) hx hb dL_law_391 (by decide) ?_
    refine lv_icmp_eq (tgt := 418) hx hb dL_law_393 (by decide) (fun c12 => ?_) (fun q => absurd (if_3h hw) q)
    refine lv_iconst (v := 1) hx hb dL_law_418 (by decide) ?_
    refine lv_goto (tgt := 423) hx hb dL_law_419 (by decide) ?_
    refine lv_istore_n (lv' := [(2, .int 1), (23, .int (kPlan (G 0) (nI z) 8)), (22, .int (fCost (G 0) z (fBest (G 0) z (nI mm)) (nI mm))), (21, .int (fIf (G 0) z (nI mm) 4)), (20, .int (fIf (G 0) z (nI mm) 3)), (19, .int (fIf (G 0) z (nI mm) 2)), (18, .int (fIf (G 0) z (nI mm) 1)), (17, .int (fIf (G 0) z (nI mm) 0)), (16, .int (fWhy (G 0) z (nI mm))), (15, .int (G 0 8)), (14, .int (G 0 148)), (13, .int (G 0 151)), (12, .int (G 0 150)), (11, .int (G 0 146)), (10, .int (G 0 145)), (9, .int (G 6 1)), (8, .int (nI mm)), (7, .int (nI z)), (6, .int (nI (Y % 16))), (4, .int (nI Y)), (3, .int (nI i)), (1, .ref (a 6 0)), (0, .ref b)]) hx hb dL_law_423 rfl hl (by decide) rfl (fun ls hl => ?_)
    refine kk  _ _ _  ?_ ?_
    · exact hH
    · exact lv_sub hl [1, 2, 3, 4, 5, 6, 7, 8, 9, 10, 11, 12, 13, 14, 15, 16, 17, 18, 19, 20, 0, 21, 22] rfl
  · refine lv_iload hx hb dL_law_302 (lv_at hl 2 rfl) ?_
    refine lv_iload hx hb dL_law_304 (lv_at hl 6 rfl) ?_
    refine lv_iload hx hb dL_law_306 (lv_at hl 1 rfl) ?_
    refine lv_isub hx hb dL_law_308 ?_
    refine lv_icmp_ne (tgt := 422) hx hb dL_law_309 (by decide) (fun q => absurd if_4 q) (fun c13 => ?_)
    refine lv_iload hx hb dL_law_312 (lv_at hl 2 rfl) ?_
    refine i_if_lt (tgt := 422) hx hb dL_law_314 (by decide) (fun q => absurd q (if_4n hz (okN_m hm) hI)) (fun c14 => ?_)
    refine lv_iload hx hb dL_law_317 (lv_at hl 6 rfl) ?_
    refine lv_aload_n hx hb dL_law_319 rfl (lv_at hl 21 rfl) ?_
    refine lv_iload hx hb dL_law_320 (lv_at hl 16 rfl) ?_
    refine lv_iload hx hb dL_law_322 (lv_at hl 5 rfl) ?_
    refine lv_iload hx hb dL_law_324 (lv_at hl 15 rfl) ?_
    refine z_callVi X hH (c_X5_cost l D k a G (nI z) (fIf (G 0) z (nI mm) 1) (nI mm)) k_L_46 (rv_X5 X hH) [.int (fIf (G 0) z (nI mm) 0)] rfl rfl hl.1 (Nat.le_of_ble_eq_true rfl) ⟨Nat.le_of_ble_eq_true rfl, Nat.le_of_ble_eq_true rfl⟩ ⟨Nat.le_of_ble_eq_true rfl, Nat.le_of_ble_eq_true rfl⟩ dL_law_326 (fun r15 g16 H locs h17 hH => ?_)
    rw [h17.2] at hH
    rw [h17.1, kco (by omega) (if_w hz hI) (okN_m hm)]
    refine lv_iload hx hb dL_law_329 (lv_at hl 7 rfl) ?_
    refine lv_if_ne (tgt := 338) hx hb dL_law_331 (by decide) (fun _ => ?_) (fun q => absurd q hw)
    refine lv_iload hx hb dL_law_338 (lv_at hl 8 rfl) ?_
    refine lv_iadd hx hb dL_law_340 ?_
    refine lv_icmp_ne (tgt := 422) hx hb dL_law_341 (by decide) (fun q => absurd (if_0m hw) q) (fun c18 => ?_)
    refine lv_iload hx hb dL_law_344 (lv_at hl 7 rfl) ?_
    refine lv_if_ne (tgt := 371) hx hb dL_law_346 (by decide) (fun _ => ?_) (fun q => absurd q hw)
    refine lv_iload hx hb dL_law_371 (lv_at hl 4 rfl) ?_
    refine lv_if_ne (tgt := 422) hx hb dL_law_373 (by decide) (fun q => absurd (if_2m hw) q) (fun c19 => ?_)
    refine lv_iload hx hb dL_law_376 (lv_at hl 5 rfl) ?_
    refine lv_aload_n hx hb dL_law_378 rfl (lv_at hl 21 rfl) ?_
    refine lv_iload hx hb dL_law_379 (lv_at hl 16 rfl) ?_
    refine lv_iload hx hb dL_law_381 (lv_at hl 15 rfl) ?_
    refine z_callVi X hH (c_X5_cheapest l D k a G (nI z) (nI mm)) k_L_54 (rv_X5 X hH) [.int (fIf (G 0) z (nI mm) 1)] rfl rfl hl.1 (Nat.le_of_ble_eq_true rfl) ⟨Nat.le_of_ble_eq_true rfl, Nat.le_of_ble_eq_true rfl⟩ ⟨Nat.le_of_ble_eq_true rfl, Nat.le_of_ble_eq_true rfl⟩ dL_law_383 (fun r20 g21 H locs h22 hH => ?_)
    rw [h22.2] at hH
    rw [h22.1, kch (by omega) (okN_m hm)]
    refine lv_icmp_ne (tgt := 422) hx hb dL_law_386 (by decide) (fun q => absurd (if_1m hw) q) (fun c23 => ?_)
    refine lv_iload hx hb dL_law_389 (lv_at hl 3 rfl) ?_
    refine lv_bipush (v := (-4)) hx hb dL_law_391 (by decide) ?_
    refine lv_icmp_eq (tgt := 418) hx hb dL_law_393 (by decide) (fun c24 => ?_) (fun c24 => ?_)
    · refine lv_iconst (v := 1) hx hb dL_law_418 (by decide) ?_
      refine lv_goto (tgt := 423) hx hb dL_law_419 (by decide) ?_
      refine lv_istore_n (lv' := [(2, .int 1), (23, .int (kPlan (G 0) (nI z) 8)), (22, .int (fCost (G 0) z (fBest (G 0) z (nI mm)) (nI mm))), (21, .int (fIf (G 0) z (nI mm) 4)), (20, .int (fIf (G 0) z (nI mm) 3)), (19, .int (fIf (G 0) z (nI mm) 2)), (18, .int (fIf (G 0) z (nI mm) 1)), (17, .int (fIf (G 0) z (nI mm) 0)), (16, .int (fWhy (G 0) z (nI mm))), (15, .int (G 0 8)), (14, .int (G 0 148)), (13, .int (G 0 151)), (12, .int (G 0 150)), (11, .int (G 0 146)), (10, .int (G 0 145)), (9, .int (G 6 1)), (8, .int (nI mm)), (7, .int (nI z)), (6, .int (nI (Y % 16))), (4, .int (nI Y)), (3, .int (nI i)), (1, .ref (a 6 0)), (0, .ref b)]) hx hb dL_law_423 rfl hl (by decide) rfl (fun ls hl => ?_)
      refine kk  _ _ _  ?_ ?_
      · exact hH
      · exact lv_sub hl [1, 2, 3, 4, 5, 6, 7, 8, 9, 10, 11, 12, 13, 14, 15, 16, 17, 18, 19, 20, 0, 21, 22] rfl
    · refine lv_aload_n hx hb dL_law_396 rfl (lv_at hl 21 rfl) ?_
      refine lv_iload hx hb dL_law_397 (lv_at hl 3 rfl) ?_
      refine lv_bipush (v := 7) hx hb dL_law_399 (by decide) ?_
      refine z_callVi X hH (c_X5_plan l D k a G hf (fIf (G 0) z (nI mm) 3) 7) k_L_34 (rv_X5 X hH) [] rfl rfl hl.1 (Nat.le_of_ble_eq_true rfl) ⟨Nat.le_of_ble_eq_true rfl, Nat.le_of_ble_eq_true rfl⟩ ⟨Nat.le_of_ble_eq_true rfl, Nat.le_of_ble_eq_true rfl⟩ dL_law_401 (fun r25 g26 H locs h27 hH => ?_)
      rw [h27.2] at hH
      rw [h27.1]
      refine lv_if_ne (tgt := 422) hx hb dL_law_404 (by decide) (fun q => absurd (if_out7 hw c24).1 q) (fun c28 => ?_)
      refine lv_aload_n hx hb dL_law_407 rfl (lv_at hl 21 rfl) ?_
      refine lv_iload hx hb dL_law_408 (lv_at hl 16 rfl) ?_
      refine lv_iconst (v := 0) hx hb dL_law_410 (by decide) ?_
      refine z_callVi X hH (c_X5_plan l D k a G hf (nI z) 0) k_L_34 (rv_X5 X hH) [] rfl rfl hl.1 (Nat.le_of_ble_eq_true rfl) ⟨Nat.le_of_ble_eq_true rfl, Nat.le_of_ble_eq_true rfl⟩ ⟨Nat.le_of_ble_eq_true rfl, Nat.le_of_ble_eq_true rfl⟩ dL_law_411 (fun r29 g30 H locs h31 hH => ?_)
      rw [h31.2] at hH
      rw [h31.1]
      refine lv_iconst (v := (-1)) hx hb dL_law_414 (by decide) ?_
      refine lv_icmp_ne (tgt := 422) hx hb dL_law_415 (by decide) (fun q => absurd (kpn (by omega) (if_out7 hw c24).2) q) (fun c32 => ?_)
      refine lv_iconst (v := 1) hx hb dL_law_418 (by decide) ?_
      refine lv_goto (tgt := 423) hx hb dL_law_419 (by decide) ?_
      refine lv_istore_n (lv' := [(2, .int 1), (23, .int (kPlan (G 0) (nI z) 8)), (22, .int (fCost (G 0) z (fBest (G 0) z (nI mm)) (nI mm))), (21, .int (fIf (G 0) z (nI mm) 4)), (20, .int (fIf (G 0) z (nI mm) 3)), (19, .int (fIf (G 0) z (nI mm) 2)), (18, .int (fIf (G 0) z (nI mm) 1)), (17, .int (fIf (G 0) z (nI mm) 0)), (16, .int (fWhy (G 0) z (nI mm))), (15, .int (G 0 8)), (14, .int (G 0 148)), (13, .int (G 0 151)), (12, .int (G 0 150)), (11, .int (G 0 146)), (10, .int (G 0 145)), (9, .int (G 6 1)), (8, .int (nI mm)), (7, .int (nI z)), (6, .int (nI (Y % 16))), (4, .int (nI Y)), (3, .int (nI i)), (1, .ref (a 6 0)), (0, .ref b)]) hx hb dL_law_423 rfl hl (by decide) rfl (fun ls hl => ?_)
      refine kk  _ _ _  ?_ ?_
      · exact hH
      · exact lv_sub hl [1, 2, 3, 4, 5, 6, 7, 8, 9, 10, 11, 12, 13, 14, 15, 16, 17, 18, 19, 20, 0, 21, 22] rfl
set_option maxRecDepth 100000 in
set_option maxHeartbeats 4000000 in
theorem lw_s4 (Y0 : lwC p m c s args D k a b N xs) (hB : 0 ≤ B ∧ B ≤ 1000) (hI : zInv B (G 0)) (hf : zFl (G 0)) (x : Nat) (hx4 : x < 4) (e6 : G 6 0 = nI x) (hjk : ∀ j, 160 ≤ j → G (2 + x) j = G 0 j) (S : Nat) (hS : S ≤ 4) (e1 : G 6 1 = nI S) (hY : Y < 2 ^ 31) (hH : zH D k a s (G) H locs) (hl : lv_has ls 25 [(23, .int (kPlan (G 0) (nI z) 8)), (22, .int (fCost (G 0) z (fBest (G 0) z (nI mm)) (nI mm))), (21, .int (fIf (G 0) z (nI mm) 4)), (20, .int (fIf (G 0) z (nI mm) 3)), (19, .int (fIf (G 0) z (nI mm) 2)), (18, .int (fIf (G 0) z (nI mm) 1)), (17, .int (fIf (G 0) z (nI mm) 0)), (16, .int (fWhy (G 0) z (nI mm))), (15, .int (G 0 8)), (14, .int (G 0 148)), (13, .int (G 0 151)), (12, .int (G 0 150)), (11, .int (G 0 146)), (10, .int (G 0 145)), (9, .int (G 6 1)), (8, .int (nI mm)), (7, .int (nI z)), (6, .int (nI (Y % 16))), (4, .int (nI Y)), (3, .int (nI i)), (2, .int 1), (1, .ref (a 6 0)), (0, .ref b)]) (kk : ∀ (t : Int32) (o : Option V) (H : Heap) (locs : List Loc) (ls : Array Slot), aAct (G 0) Y = (t, o) → zStep B (t, o) → zH D k a s (zAct G o) H locs → lv_has ls 25 [(24, .int (t)), (23, .int (kPlan (G 0) (nI z) 8)), (22, .int (fCost (G 0) z (fBest (G 0) z (nI mm)) (nI mm))), (21, .int (fIf (G 0) z (nI mm) 4)), (20, .int (fIf (G 0) z (nI mm) 3)), (19, .int (fIf (G 0) z (nI mm) 2)), (18, .int (fIf (G 0) z (nI mm) 1)), (17, .int (fIf (G 0) z (nI mm) 0)), (16, .int (fWhy (G 0) z (nI mm))), (15, .int (G 0 8)), (14, .int (G 0 148)), (13, .int (G 0 151)), (12, .int (G 0 150)), (11, .int (G 0 146)), (10, .int (G 0 145)), (9, .int (G 6 1)), (8, .int (nI mm)), (7, .int (nI z)), (6, .int (nI (Y % 16))), (4, .int (nI Y)), (3, .int (nI i)), (2, .int 1), (1, .ref (a 6 0)), (0, .ref b)] → W p l e room_1 s m args below meth c H locs 128 1206 Q (F0 m 502 ls [])) : W p l e room_1 s m args below meth c H locs 128 1206 Q (F0 m 424 ls []) := by
  have X := Y0.1
  obtain ⟨hx, hb, hml, hown, hts⟩ := X.1
  refine lv_iload_n hx hb dL_law_424 rfl (lv_at hl 20 rfl) ?_
  refine lv_if_eq (tgt := 437) hx hb dL_law_425 (by decide) (fun q => absurd q (by decide)) (fun _ => ?_)
  refine lv_aload_n hx hb dL_law_428 rfl (lv_at hl 21 rfl) ?_
  refine lv_iload hx hb dL_law_429 (lv_at hl 18 rfl) ?_
  refine z_callSi X hH (c_L_acts l D k a G x hx4 e6 hjk hf Y hY) k_L_83 [] rfl rfl hl.1 (Nat.le_of_ble_eq_true rfl) ⟨Nat.le_of_ble_eq_true rfl, Nat.le_of_ble_eq_true rfl⟩ ⟨Nat.le_of_ble_eq_true rfl, Nat.le_of_ble_eq_true rfl⟩ dL_law_431 (fun r1 g2 H locs h3 hH => ?_)
  obtain ⟨t, o, ea⟩ : ∃ t o, aAct (G 0) Y = (t, o) := ⟨_, _, rfl⟩
  have hst : zStep B (t, o) := by rw [← ea]; exact aAct_st hB hI
  rw [ea] at h3
  rw [h3.2] at hH
  rw [h3.1]
  cases o with
  | none =>
    have ht : t < 0 := hst
    have hH : zH D k a s G H locs := hH
    refine lv_goto (tgt := 438) hx hb dL_law_434 (by decide) ?_
    refine lv_istore (lv' := [(24, .int (t)), (23, .int (kPlan (G 0) (nI z) 8)), (22, .int (fCost (G 0) z (fBest (G 0) z (nI mm)) (nI mm))), (21, .int (fIf (G 0) z (nI mm) 4)), (20, .int (fIf (G 0) z (nI mm) 3)), (19, .int (fIf (G 0) z (nI mm) 2)), (18, .int (fIf (G 0) z (nI mm) 1)), (17, .int (fIf (G 0) z (nI mm) 0)), (16, .int (fWhy (G 0) z (nI mm))), (15, .int (G 0 8)), (14, .int (G 0 148)), (13, .int (G 0 151)), (12, .int (G 0 150)), (11, .int (G 0 146)), (10, .int (G 0 145)), (9, .int (G 6 1)), (8, .int (nI mm)), (7, .int (nI z)), (6, .int (nI (Y % 16))), (4, .int (nI Y)), (3, .int (nI i)), (2, .int 1), (1, .ref (a 6 0)), (0, .ref b)]) hx hb dL_law_438 hl (by decide) rfl (fun ls hl => ?_)
    refine lv_iload_n hx hb dL_law_440 rfl (lv_at hl 21 rfl) ?_
    refine lv_if_eq (tgt := 500) hx hb dL_law_441 (by decide) (fun q => absurd q (by decide)) (fun _ => ?_)
    refine lv_iload hx hb dL_law_444 (lv_at hl 0 rfl) ?_
    refine i_if_lt (tgt := 475) hx hb dL_law_446 (by decide) (fun c4 => ?_) (fun q => absurd ht q)
    refine lv_aload_n hx hb dL_law_475 rfl (lv_at hl 22 rfl) ?_
    refine lv_bipush (v := 15) hx hb dL_law_476 (by decide) ?_
    refine z_callVi X hH (c_X5_count l D k a G 15) k_L_43 (rv_X5 X hH) [] rfl rfl hl.1 (Nat.le_of_ble_eq_true rfl) ⟨Nat.le_of_ble_eq_true rfl, Nat.le_of_ble_eq_true rfl⟩ ⟨Nat.le_of_ble_eq_true rfl, Nat.le_of_ble_eq_true rfl⟩ dL_law_478 (fun r5 g6 H locs h7 hH => ?_)
    rw [h7.2] at hH
    rw [h7.1, kcn15]
    refine lv_iload hx hb dL_law_481 (lv_at hl 15 rfl) ?_
    refine lv_icmp_ne (tgt := 500) hx hb dL_law_483 (by decide) (fun q => absurd rfl q) (fun c8 => ?_)
    refine lv_aload_n hx hb dL_law_486 rfl (lv_at hl 22 rfl) ?_
    refine lv_iconst (v := 3) hx hb dL_law_487 (by decide) ?_
    refine z_callVi X hH (c_X5_count l D k a G 3) k_L_43 (rv_X5 X hH) [] rfl rfl hl.1 (Nat.le_of_ble_eq_true rfl) ⟨Nat.le_of_ble_eq_true rfl, Nat.le_of_ble_eq_true rfl⟩ ⟨Nat.le_of_ble_eq_true rfl, Nat.le_of_ble_eq_true rfl⟩ dL_law_488 (fun r9 g10 H locs h11 hH => ?_)
    rw [h11.2] at hH
    rw [h11.1, kcn3]
    refine lv_iload hx hb dL_law_491 (lv_at hl 14 rfl) ?_
    refine lv_icmp_ne (tgt := 500) hx hb dL_law_493 (by decide) (fun q => absurd rfl q) (fun c12 => ?_)
    refine lv_iconst (v := 1) hx hb dL_law_496 (by decide) ?_
    refine lv_goto (tgt := 501) hx hb dL_law_497 (by decide) ?_
    refine lv_istore_n (lv' := [(2, .int 1), (24, .int (t)), (23, .int (kPlan (G 0) (nI z) 8)), (22, .int (fCost (G 0) z (fBest (G 0) z (nI mm)) (nI mm))), (21, .int (fIf (G 0) z (nI mm) 4)), (20, .int (fIf (G 0) z (nI mm) 3)), (19, .int (fIf (G 0) z (nI mm) 2)), (18, .int (fIf (G 0) z (nI mm) 1)), (17, .int (fIf (G 0) z (nI mm) 0)), (16, .int (fWhy (G 0) z (nI mm))), (15, .int (G 0 8)), (14, .int (G 0 148)), (13, .int (G 0 151)), (12, .int (G 0 150)), (11, .int (G 0 146)), (10, .int (G 0 145)), (9, .int (G 6 1)), (8, .int (nI mm)), (7, .int (nI z)), (6, .int (nI (Y % 16))), (4, .int (nI Y)), (3, .int (nI i)), (1, .ref (a 6 0)), (0, .ref b)]) hx hb dL_law_501 rfl hl (by decide) rfl (fun ls hl => ?_)
    refine kk t none _ _ _ ea hst ?_ ?_
    · exact hH
    · exact lv_sub hl [1, 2, 3, 4, 5, 6, 7, 8, 9, 10, 11, 12, 13, 14, 15, 16, 17, 18, 19, 20, 21, 0, 22, 23] rfl
  | some w1 =>
    have ht : ¬ t < 0 := hst.1
    have hH : zH D k a s (zAct G (some w1)) H locs := hH
    refine lv_goto (tgt := 438) hx hb dL_law_434 (by decide) ?_
    refine lv_istore (lv' := [(24, .int (t)), (23, .int (kPlan (G 0) (nI z) 8)), (22, .int (fCost (G 0) z (fBest (G 0) z (nI mm)) (nI mm))), (21, .int (fIf (G 0) z (nI mm) 4)), (20, .int (fIf (G 0) z (nI mm) 3)), (19, .int (fIf (G 0) z (nI mm) 2)), (18, .int (fIf (G 0) z (nI mm) 1)), (17, .int (fIf (G 0) z (nI mm) 0)), (16, .int (fWhy (G 0) z (nI mm))), (15, .int (G 0 8)), (14, .int (G 0 148)), (13, .int (G 0 151)), (12, .int (G 0 150)), (11, .int (G 0 146)), (10, .int (G 0 145)), (9, .int (G 6 1)), (8, .int (nI mm)), (7, .int (nI z)), (6, .int (nI (Y % 16))), (4, .int (nI Y)), (3, .int (nI i)), (2, .int 1), (1, .ref (a 6 0)), (0, .ref b)]) hx hb dL_law_438 hl (by decide) rfl (fun ls hl => ?_)
    refine lv_iload_n hx hb dL_law_440 rfl (lv_at hl 21 rfl) ?_
    refine lv_if_eq (tgt := 500) hx hb dL_law_441 (by decide) (fun q => absurd q (by decide)) (fun _ => ?_)
    refine lv_iload hx hb dL_law_444 (lv_at hl 0 rfl) ?_
    refine i_if_lt (tgt := 475) hx hb dL_law_446 (by decide) (fun q => absurd q ht) (fun c13 => ?_)
    refine lv_aload_n hx hb dL_law_449 rfl (lv_at hl 22 rfl) ?_
    refine lv_bipush (v := 15) hx hb dL_law_450 (by decide) ?_
    refine z_callVi X hH (c_X5_count l D k a (zAct G (some w1)) 15) k_L_43 (rv_X5 X hH) [] rfl rfl hl.1 (Nat.le_of_ble_eq_true rfl) ⟨Nat.le_of_ble_eq_true rfl, Nat.le_of_ble_eq_true rfl⟩ ⟨Nat.le_of_ble_eq_true rfl, Nat.le_of_ble_eq_true rfl⟩ dL_law_452 (fun r14 g15 H locs h16 hH => ?_)
    rw [h16.2] at hH
    rw [h16.1, kcn15]
    refine lv_iload hx hb dL_law_455 (lv_at hl 15 rfl) ?_
    refine lv_iconst (v := 4) hx hb dL_law_457 (by decide) ?_
    refine lv_icmp_ne (tgt := 465) hx hb dL_law_458 (by decide) (fun c17 => ?_) (fun c17 => ?_)
    · refine lv_iload hx hb dL_law_465 (lv_at hl 15 rfl) ?_
      refine lv_iconst (v := 1) hx hb dL_law_467 (by decide) ?_
      refine lv_iadd hx hb dL_law_468 ?_
      refine lv_icmp_ne (tgt := 500) hx hb dL_law_469 (by decide) (fun q => absurd (zAct_n4 hx4 e6 hS e1 c17) q) (fun c18 => ?_)
      refine lv_goto (tgt := 496) hx hb dL_law_472 (by decide) ?_
      refine lv_iconst (v := 1) hx hb dL_law_496 (by decide) ?_
      refine lv_goto (tgt := 501) hx hb dL_law_497 (by decide) ?_
      refine lv_istore_n (lv' := [(2, .int 1), (24, .int (t)), (23, .int (kPlan (G 0) (nI z) 8)), (22, .int (fCost (G 0) z (fBest (G 0) z (nI mm)) (nI mm))), (21, .int (fIf (G 0) z (nI mm) 4)), (20, .int (fIf (G 0) z (nI mm) 3)), (19, .int (fIf (G 0) z (nI mm) 2)), (18, .int (fIf (G 0) z (nI mm) 1)), (17, .int (fIf (G 0) z (nI mm) 0)), (16, .int (fWhy (G 0) z (nI mm))), (15, .int (G 0 8)), (14, .int (G 0 148)), (13, .int (G 0 151)), (12, .int (G 0 150)), (11, .int (G 0 146)), (10, .int (G 0 145)), (9, .int (G 6 1)), (8, .int (nI mm)), (7, .int (nI z)), (6, .int (nI (Y % 16))), (4, .int (nI Y)), (3, .int (nI i)), (1, .ref (a 6 0)), (0, .ref b)]) hx hb dL_law_501 rfl hl (by decide) rfl (fun ls hl => ?_)
      refine kk t (some w1) _ _ _ ea hst ?_ ?_
      · exact hH
      · exact lv_sub hl [1, 2, 3, 4, 5, 6, 7, 8, 9, 10, 11, 12, 13, 14, 15, 16, 17, 18, 19, 20, 21, 0, 22, 23] rfl
    · refine lv_iconst (v := 4) hx hb dL_law_461 (by decide) ?_
      refine lv_goto (tgt := 469) hx hb dL_law_462 (by decide) ?_
      refine lv_icmp_ne (tgt := 500) hx hb dL_law_469 (by decide) (fun q => absurd (zAct_4 hx4 e6 hS e1 c17) q) (fun c19 => ?_)
      refine lv_goto (tgt := 496) hx hb dL_law_472 (by decide) ?_
      refine lv_iconst (v := 1) hx hb dL_law_496 (by decide) ?_
      refine lv_goto (tgt := 501) hx hb dL_law_497 (by decide) ?_
      refine lv_istore_n (lv' := [(2, .int 1), (24, .int (t)), (23, .int (kPlan (G 0) (nI z) 8)), (22, .int (fCost (G 0) z (fBest (G 0) z (nI mm)) (nI mm))), (21, .int (fIf (G 0) z (nI mm) 4)), (20, .int (fIf (G 0) z (nI mm) 3)), (19, .int (fIf (G 0) z (nI mm) 2)), (18, .int (fIf (G 0) z (nI mm) 1)), (17, .int (fIf (G 0) z (nI mm) 0)), (16, .int (fWhy (G 0) z (nI mm))), (15, .int (G 0 8)), (14, .int (G 0 148)), (13, .int (G 0 151)), (12, .int (G 0 150)), (11, .int (G 0 146)), (10, .int (G 0 145)), (9, .int (G 6 1)), (8, .int (nI mm)), (7, .int (nI z)), (6, .int (nI (Y % 16))), (4, .int (nI Y)), (3, .int (nI i)), (1, .ref (a 6 0)), (0, .ref b)]) hx hb dL_law_501 rfl hl (by decide) rfl (fun ls hl => ?_)
      refine kk t (some w1) _ _ _ ea hst ?_ ?_
      · exact hH
      · exact lv_sub hl [1, 2, 3, 4, 5, 6, 7, 8, 9, 10, 11, 12, 13, 14, 15, 16, 17, 18, 19, 20, 21, 0, 22, 23] rfl
set_option maxRecDepth 100000 in
set_option maxHeartbeats 4000000 in
theorem lw_s5 (Y0 : lwC p m c s args D k a b N xs) (hz : z < 12) (hm : 1 ≤ mm ∧ mm ≤ 9999) (hB : 0 ≤ B ∧ B ≤ 1000) (hI : zInv B v) (hf : zFl (G1 0)) (hI1 : zInv (B + 1) (G1 0)) (hA : 3 < Y % 16 → t = (fAsk v z (nI mm)).1 ∧ G1 0 = (fAsk v z (nI mm)).2) (h2 : Y % 16 = 2 → ¬ t < 0 → t = fK (G1 0) 12) (hH : zH D k a s (G1) H locs) (hl : lv_has ls 25 [(24, .int (t)), (23, .int (kPlan v (nI z) 8)), (22, .int (fCost v z (fBest v z (nI mm)) (nI mm))), (21, .int (fIf v z (nI mm) 4)), (20, .int (fIf v z (nI mm) 3)), (19, .int (fIf v z (nI mm) 2)), (18, .int (fIf v z (nI mm) 1)), (17, .int (fIf v z (nI mm) 0)), (16, .int (fWhy v z (nI mm))), (15, .int (v 8)), (14, .int (v 148)), (13, .int (v 151)), (12, .int (v 150)), (11, .int (v 146)), (10, .int (v 145)), (9, .int (G 6 1)), (8, .int (nI mm)), (7, .int (nI z)), (6, .int (nI (Y % 16))), (4, .int (nI Y)), (3, .int (nI i)), (2, .int 1), (1, .ref (a 6 0)), (0, .ref b)]) (kk : ∀  (H : Heap) (locs : List Loc) (ls : Array Slot), zH D k a s (G1) H locs → lv_has ls 25 [(8, .int (nI mm)), (7, .int (nI z)), (3, .int (nI i)), (2, .int 1), (1, .ref (a 6 0)), (0, .ref b)] → W p l e room_1 s m args below meth c H locs 128 1206 Q (F0 m 779 ls [])) : W p l e room_1 s m args below meth c H locs 128 1206 Q (F0 m 502 ls []) := by
  have X := Y0.1
  obtain ⟨hx, hb, hml, hown, hts⟩ := X.1
  refine lv_iload_n hx hb dL_law_502 rfl (lv_at hl 21 rfl) ?_
  refine lv_if_eq (tgt := 748) hx hb dL_law_503 (by decide) (fun q => absurd q (by decide)) (fun _ => ?_)
  refine lv_iload hx hb dL_law_506 (lv_at hl 18 rfl) ?_
  refine lv_iconst (v := 3) hx hb dL_law_508 (by decide) ?_
  refine n_icmp_le (A := Y % 16) (B := 3) (tgt := 748) hx hb (by omega) (by omega) dL_law_509 (by decide) (fun c1 => ?_) (fun c1 => ?_)
  · refine lv_iload_n hx hb dL_law_748 rfl (lv_at hl 21 rfl) ?_
    refine lv_if_eq (tgt := 779) hx hb dL_law_749 (by decide) (fun q => absurd q (by decide)) (fun _ => ?_)
    refine lv_iload hx hb dL_law_752 (lv_at hl 18 rfl) ?_
    refine lv_iconst (v := 2) hx hb dL_law_754 (by decide) ?_
    refine n_icmp_ne (A := Y % 16) (B := 2) (tgt := 779) hx hb (by omega) (by omega) dL_law_755 (by decide) (fun c2 => ?_) (fun c2 => ?_)
    · refine kk  _ _ _  ?_ ?_
      · exact hH
      · exact lv_sub hl [16, 17, 20, 21, 22, 23] rfl
    · refine lv_iload hx hb dL_law_758 (lv_at hl 0 rfl) ?_
      refine i_if_lt (tgt := 779) hx hb dL_law_760 (by decide) (fun c3 => ?_) (fun c3 => ?_)
      · refine kk  _ _ _  ?_ ?_
        · exact hH
        · exact lv_sub hl [16, 17, 20, 21, 22, 23] rfl
      · refine lv_iload hx hb dL_law_763 (lv_at hl 0 rfl) ?_
        refine lv_aload_n hx hb dL_law_765 rfl (lv_at hl 22 rfl) ?_
        refine lv_iconst (v := 0) hx hb dL_law_766 (by decide) ?_
        refine z_callVi X hH (c_X5_count l D k a G1 0) k_L_43 (rv_X5 X hH) [.int (t)] rfl rfl hl.1 (Nat.le_of_ble_eq_true rfl) ⟨Nat.le_of_ble_eq_true rfl, Nat.le_of_ble_eq_true rfl⟩ ⟨Nat.le_of_ble_eq_true rfl, Nat.le_of_ble_eq_true rfl⟩ dL_law_767 (fun r4 g5 H locs h6 hH => ?_)
        rw [h6.2] at hH
        rw [h6.1, kcn0]
        refine lv_icmp_ne (tgt := 777) hx hb dL_law_770 (by decide) (fun q => absurd (h2 c2 c3) q) (fun c7 => ?_)
        refine lv_iconst (v := 1) hx hb dL_law_773 (by decide) ?_
        refine lv_goto (tgt := 778) hx hb dL_law_774 (by decide) ?_
        refine lv_istore_n (lv' := [(2, .int 1), (24, .int (t)), (23, .int (kPlan v (nI z) 8)), (22, .int (fCost v z (fBest v z (nI mm)) (nI mm))), (21, .int (fIf v z (nI mm) 4)), (20, .int (fIf v z (nI mm) 3)), (19, .int (fIf v z (nI mm) 2)), (18, .int (fIf v z (nI mm) 1)), (17, .int (fIf v z (nI mm) 0)), (16, .int (fWhy v z (nI mm))), (15, .int (v 8)), (14, .int (v 148)), (13, .int (v 151)), (12, .int (v 150)), (11, .int (v 146)), (10, .int (v 145)), (9, .int (G 6 1)), (8, .int (nI mm)), (7, .int (nI z)), (6, .int (nI (Y % 16))), (4, .int (nI Y)), (3, .int (nI i)), (1, .ref (a 6 0)), (0, .ref b)]) hx hb dL_law_778 rfl hl (by decide) rfl (fun ls hl => ?_)
        refine kk  _ _ _  ?_ ?_
        · exact hH
        · exact lv_sub hl [17, 18, 21, 0, 22, 23] rfl
  · obtain ⟨et, eG⟩ := hA c1
    by_cases hw : fWhy v z (nI mm) = 0
    · refine lv_iload hx hb dL_law_512 (lv_at hl 0 rfl) ?_
      refine lv_iload hx hb dL_law_514 (lv_at hl 7 rfl) ?_
      refine lv_icmp_ne (tgt := 743) hx hb dL_law_516 (by decide) (fun q => absurd (et.trans (ask_0 hz hI)) q) (fun c8 => ?_)
      refine lv_aload_n hx hb dL_law_519 rfl (lv_at hl 22 rfl) ?_
      refine lv_iconst (v := 3) hx hb dL_law_520 (by decide) ?_
      refine z_callVi X hH (c_X5_count l D k a G1 3) k_L_43 (rv_X5 X hH) [] rfl rfl hl.1 (Nat.le_of_ble_eq_true rfl) ⟨Nat.le_of_ble_eq_true rfl, Nat.le_of_ble_eq_true rfl⟩ ⟨Nat.le_of_ble_eq_true rfl, Nat.le_of_ble_eq_true rfl⟩ dL_law_521 (fun r9 g10 H locs h11 hH => ?_)
      rw [h11.2] at hH
      rw [h11.1, kcn3]
      refine lv_iload hx hb dL_law_524 (lv_at hl 14 rfl) ?_
      refine lv_iconst (v := 1) hx hb dL_law_526 (by decide) ?_
      refine lv_iadd hx hb dL_law_527 ?_
      refine lv_icmp_ne (tgt := 743) hx hb dL_law_528 (by decide) (fun q => absurd (by rw [eG]; exact ask_145 hz hI) q) (fun c12 => ?_)
      refine lv_aload_n hx hb dL_law_531 rfl (lv_at hl 22 rfl) ?_
      refine lv_iconst (v := 4) hx hb dL_law_532 (by decide) ?_
      refine z_callVi X hH (c_X5_count l D k a G1 4) k_L_43 (rv_X5 X hH) [] rfl rfl hl.1 (Nat.le_of_ble_eq_true rfl) ⟨Nat.le_of_ble_eq_true rfl, Nat.le_of_ble_eq_true rfl⟩ ⟨Nat.le_of_ble_eq_true rfl, Nat.le_of_ble_eq_true rfl⟩ dL_law_533 (fun r13 g14 H locs h15 hH => ?_)
      rw [h15.2] at hH
      rw [h15.1, kcn4]
      refine lv_iload hx hb dL_law_536 (lv_at hl 13 rfl) ?_
      refine lv_iload hx hb dL_law_538 (lv_at hl 8 rfl) ?_
      refine lv_if_ne (tgt := 547) hx hb dL_law_540 (by decide) (fun q => absurd hw q) (fun _ => ?_)
      refine lv_iconst (v := 1) hx hb dL_law_543 (by decide) ?_
      refine lv_goto (tgt := 548) hx hb dL_law_544 (by decide) ?_
      refine lv_iadd hx hb dL_law_548 ?_
      refine lv_icmp_ne (tgt := 743) hx hb dL_law_549 (by decide) (fun q => absurd (by rw [eG]; exact ask_146h hz hw) q) (fun c16 => ?_)
      refine lv_aload_n hx hb dL_law_552 rfl (lv_at hl 22 rfl) ?_
      refine lv_bipush (v := 6) hx hb dL_law_553 (by decide) ?_
      refine z_callVi X hH (c_X5_count l D k a G1 6) k_L_43 (rv_X5 X hH) [] rfl rfl hl.1 (Nat.le_of_ble_eq_true rfl) ⟨Nat.le_of_ble_eq_true rfl, Nat.le_of_ble_eq_true rfl⟩ ⟨Nat.le_of_ble_eq_true rfl, Nat.le_of_ble_eq_true rfl⟩ dL_law_555 (fun r17 g18 H locs h19 hH => ?_)
      rw [h19.2] at hH
      rw [h19.1, kcn6]
      refine lv_iload hx hb dL_law_558 (lv_at hl 10 rfl) ?_
      refine lv_iload hx hb dL_law_560 (lv_at hl 0 rfl) ?_
      refine lv_iadd hx hb dL_law_562 ?_
      refine lv_icmp_ne (tgt := 743) hx hb dL_law_563 (by decide) (fun q => absurd (by rw [eG, et]; exact ask_148 hz hI) q) (fun c20 => ?_)
      refine lv_aload_n hx hb dL_law_566 rfl (lv_at hl 22 rfl) ?_
      refine lv_bipush (v := 8) hx hb dL_law_567 (by decide) ?_
      refine z_callVi X hH (c_X5_count l D k a G1 8) k_L_43 (rv_X5 X hH) [] rfl rfl hl.1 (Nat.le_of_ble_eq_true rfl) ⟨Nat.le_of_ble_eq_true rfl, Nat.le_of_ble_eq_true rfl⟩ ⟨Nat.le_of_ble_eq_true rfl, Nat.le_of_ble_eq_true rfl⟩ dL_law_569 (fun r21 g22 H locs h23 hH => ?_)
      rw [h23.2] at hH
      rw [h23.1, kcn8]
      refine lv_iload hx hb dL_law_572 (lv_at hl 12 rfl) ?_
      refine lv_iload hx hb dL_law_574 (lv_at hl 5 rfl) ?_
      refine lv_iadd hx hb dL_law_576 ?_
      refine lv_icmp_ne (tgt := 743) hx hb dL_law_577 (by decide) (fun q => absurd (by rw [eG]; exact ask_150 hz hI) q) (fun c24 => ?_)
      refine lv_iload hx hb dL_law_580 (lv_at hl 8 rfl) ?_
      refine lv_if_eq (tgt := 614) hx hb dL_law_582 (by decide) (fun _ => ?_) (fun q => absurd hw q)
      refine lv_iload hx hb dL_law_614 (lv_at hl 5 rfl) ?_
      refine lv_iconst (v := 1) hx hb dL_law_616 (by decide) ?_
      refine lv_icmp_ne (tgt := 634) hx hb dL_law_617 (by decide) (fun c25 => ?_) (fun c25 => ?_)
      · refine lv_iload hx hb dL_law_634 (lv_at hl 8 rfl) ?_
        refine lv_if_ne (tgt := 657) hx hb dL_law_636 (by decide) (fun q => absurd hw q) (fun _ => ?_)
        refine lv_aload_n hx hb dL_law_639 rfl (lv_at hl 22 rfl) ?_
        refine lv_iload hx hb dL_law_640 (lv_at hl 17 rfl) ?_
        refine lv_bipush (v := 8) hx hb dL_law_642 (by decide) ?_
        refine z_callVi X hH (c_X5_plan l D k a G1 hf (nI z) 8) k_L_34 (rv_X5 X hH) [] rfl rfl hl.1 (Nat.le_of_ble_eq_true rfl) ⟨Nat.le_of_ble_eq_true rfl, Nat.le_of_ble_eq_true rfl⟩ ⟨Nat.le_of_ble_eq_true rfl, Nat.le_of_ble_eq_true rfl⟩ dL_law_644 (fun r26 g27 H locs h28 hH => ?_)
        rw [h28.2] at hH
        rw [h28.1]
        refine lv_iload hx hb dL_law_647 (lv_at hl 1 rfl) ?_
        refine lv_iconst (v := 1) hx hb dL_law_649 (by decide) ?_
        refine lv_iadd hx hb dL_law_650 ?_
        refine lv_icmp_ne (tgt := 743) hx hb dL_law_651 (by decide) (fun q => absurd (by rw [eG]; exact ask_use hz hw c25) q) (fun c29 => ?_)
        refine lv_goto (tgt := 739) hx hb dL_law_654 (by decide) ?_
        refine lv_iconst (v := 1) hx hb dL_law_739 (by decide) ?_
        refine lv_goto (tgt := 744) hx hb dL_law_740 (by decide) ?_
        refine lv_istore_n (lv' := [(2, .int 1), (24, .int (t)), (23, .int (kPlan v (nI z) 8)), (22, .int (fCost v z (fBest v z (nI mm)) (nI mm))), (21, .int (fIf v z (nI mm) 4)), (20, .int (fIf v z (nI mm) 3)), (19, .int (fIf v z (nI mm) 2)), (18, .int (fIf v z (nI mm) 1)), (17, .int (fIf v z (nI mm) 0)), (16, .int (fWhy v z (nI mm))), (15, .int (v 8)), (14, .int (v 148)), (13, .int (v 151)), (12, .int (v 150)), (11, .int (v 146)), (10, .int (v 145)), (9, .int (G 6 1)), (8, .int (nI mm)), (7, .int (nI z)), (6, .int (nI (Y % 16))), (4, .int (nI Y)), (3, .int (nI i)), (1, .ref (a 6 0)), (0, .ref b)]) hx hb dL_law_744 rfl hl (by decide) rfl (fun ls hl => ?_)
        refine lv_goto (tgt := 779) hx hb dL_law_745 (by decide) ?_
        refine kk  _ _ _  ?_ ?_
        · exact hH
        · exact lv_sub hl [17, 18, 21, 0, 22, 23] rfl
      · refine lv_aload_n hx hb dL_law_620 rfl (lv_at hl 22 rfl) ?_
        refine lv_iload hx hb dL_law_621 (lv_at hl 17 rfl) ?_
        refine lv_iconst (v := 0) hx hb dL_law_623 (by decide) ?_
        refine z_callVi X hH (c_X5_plan l D k a G1 hf (nI z) 0) k_L_34 (rv_X5 X hH) [] rfl rfl hl.1 (Nat.le_of_ble_eq_true rfl) ⟨Nat.le_of_ble_eq_true rfl, Nat.le_of_ble_eq_true rfl⟩ ⟨Nat.le_of_ble_eq_true rfl, Nat.le_of_ble_eq_true rfl⟩ dL_law_624 (fun r30 g31 H locs h32 hH => ?_)
        rw [h32.2] at hH
        rw [h32.1]
        refine lv_iconst (v := (-1)) hx hb dL_law_627 (by decide) ?_
        refine lv_icmp_ne (tgt := 743) hx hb dL_law_628 (by decide) (fun q => absurd (kpn (by omega) (by rw [eG]; exact ask_bad hz c25)) q) (fun c33 => ?_)
        refine lv_goto (tgt := 739) hx hb dL_law_631 (by decide) ?_
        refine lv_iconst (v := 1) hx hb dL_law_739 (by decide) ?_
        refine lv_goto (tgt := 744) hx hb dL_law_740 (by decide) ?_
        refine lv_istore_n (lv' := [(2, .int 1), (24, .int (t)), (23, .int (kPlan v (nI z) 8)), (22, .int (fCost v z (fBest v z (nI mm)) (nI mm))), (21, .int (fIf v z (nI mm) 4)), (20, .int (fIf v z (nI mm) 3)), (19, .int (fIf v z (nI mm) 2)), (18, .int (fIf v z (nI mm) 1)), (17, .int (fIf v z (nI mm) 0)), (16, .int (fWhy v z (nI mm))), (15, .int (v 8)), (14, .int (v 148)), (13, .int (v 151)), (12, .int (v 150)), (11, .int (v 146)), (10, .int (v 145)), (9, .int (G 6 1)), (8, .int (nI mm)), (7, .int (nI z)), (6, .int (nI (Y % 16))), (4, .int (nI Y)), (3, .int (nI i)), (1, .ref (a 6 0)), (0, .ref b)]) hx hb dL_law_744 rfl hl (by decide) rfl (fun ls hl => ?_)
        refine lv_goto (tgt := 779) hx hb dL_law_745 (by decide) ?_
        refine kk  _ _ _  ?_ ?_
        · exact hH
        · exact lv_sub hl [17, 18, 21, 0, 22, 23] rfl
    · refine lv_iload hx hb dL_law_512 (lv_at hl 0 rfl) ?_
      refine lv_iload hx hb dL_law_514 (lv_at hl 7 rfl) ?_
      refine lv_icmp_ne (tgt := 743) hx hb dL_law_516 (by decide) (fun q => absurd (et.trans (ask_0 hz hI)) q) (fun c34 => ?_)
      refine lv_aload_n hx hb dL_law_519 rfl (lv_at hl 22 rfl) ?_
      refine lv_iconst (v := 3) hx hb dL_law_520 (by decide) ?_
      refine z_callVi X hH (c_X5_count l D k a G1 3) k_L_43 (rv_X5 X hH) [] rfl rfl hl.1 (Nat.le_of_ble_eq_true rfl) ⟨Nat.le_of_ble_eq_true rfl, Nat.le_of_ble_eq_true rfl⟩ ⟨Nat.le_of_ble_eq_true rfl, Nat.le_of_ble_eq_true rfl⟩ dL_law_521 (fun r35 g36 H locs h37 hH => ?_)
      rw [h37.2] at hH
      rw [h37.1, kcn3]
      refine lv_iload hx hb dL_law_524 (lv_at hl 14 rfl) ?_
      refine lv_iconst (v := 1) hx hb dL_law_526 (by decide) ?_
      refine lv_iadd hx hb dL_law_527 ?_
      refine lv_icmp_ne (tgt := 743) hx hb dL_law_528 (by decide) (fun q => absurd (by rw [eG]; exact ask_145 hz hI) q) (fun c38 => ?_)
      refine lv_aload_n hx hb dL_law_531 rfl (lv_at hl 22 rfl) ?_
      refine lv_iconst (v := 4) hx hb dL_law_532 (by decide) ?_
      refine z_callVi X hH (c_X5_count l D k a G1 4) k_L_43 (rv_X5 X hH) [] rfl rfl hl.1 (Nat.le_of_ble_eq_true rfl) ⟨Nat.le_of_ble_eq_true rfl, Nat.le_of_ble_eq_true rfl⟩ ⟨Nat.le_of_ble_eq_true rfl, Nat.le_of_ble_eq_true rfl⟩ dL_law_533 (fun r39 g40 H locs h41 hH => ?_)
      rw [h41.2] at hH
      rw [h41.1, kcn4]
      refine lv_iload hx hb dL_law_536 (lv_at hl 13 rfl) ?_
      refine lv_iload hx hb dL_law_538 (lv_at hl 8 rfl) ?_
      refine lv_if_ne (tgt := 547) hx hb dL_law_540 (by decide) (fun _ => ?_) (fun q => absurd q hw)
      refine lv_iconst (v := 0) hx hb dL_law_547 (by decide) ?_
      refine lv_iadd hx hb dL_law_548 ?_
      refine lv_icmp_ne (tgt := 743) hx hb dL_law_549 (by decide) (fun q => absurd (by rw [eG]; exact ask_146m hz hI hw) q) (fun c42 => ?_)
      refine lv_aload_n hx hb dL_law_552 rfl (lv_at hl 22 rfl) ?_
      refine lv_bipush (v := 6) hx hb dL_law_553 (by decide) ?_
      refine z_callVi X hH (c_X5_count l D k a G1 6) k_L_43 (rv_X5 X hH) [] rfl rfl hl.1 (Nat.le_of_ble_eq_true rfl) ⟨Nat.le_of_ble_eq_true rfl, Nat.le_of_ble_eq_true rfl⟩ ⟨Nat.le_of_ble_eq_true rfl, Nat.le_of_ble_eq_true rfl⟩ dL_law_555 (fun r43 g44 H locs h45 hH => ?_)
      rw [h45.2] at hH
      rw [h45.1, kcn6]
      refine lv_iload hx hb dL_law_558 (lv_at hl 10 rfl) ?_
      refine lv_iload hx hb dL_law_560 (lv_at hl 0 rfl) ?_
      refine lv_iadd hx hb dL_law_562 ?_
      refine lv_icmp_ne (tgt := 743) hx hb dL_law_563 (by decide) (fun q => absurd (by rw [eG, et]; exact ask_148 hz hI) q) (fun c46 => ?_)
      refine lv_aload_n hx hb dL_law_566 rfl (lv_at hl 22 rfl) ?_
      refine lv_bipush (v := 8) hx hb dL_law_567 (by decide) ?_
      refine z_callVi X hH (c_X5_count l D k a G1 8) k_L_43 (rv_X5 X hH) [] rfl rfl hl.1 (Nat.le_of_ble_eq_true rfl) ⟨Nat.le_of_ble_eq_true rfl, Nat.le_of_ble_eq_true rfl⟩ ⟨Nat.le_of_ble_eq_true rfl, Nat.le_of_ble_eq_true rfl⟩ dL_law_569 (fun r47 g48 H locs h49 hH => ?_)
      rw [h49.2] at hH
      rw [h49.1, kcn8]
      refine lv_iload hx hb dL_law_572 (lv_at hl 12 rfl) ?_
      refine lv_iload hx hb dL_law_574 (lv_at hl 5 rfl) ?_
      refine lv_iadd hx hb dL_law_576 ?_
      refine lv_icmp_ne (tgt := 743) hx hb dL_law_577 (by decide) (fun q => absurd (by rw [eG]; exact ask_150 hz hI) q) (fun c50 => ?_)
      refine lv_iload hx hb dL_law_580 (lv_at hl 8 rfl) ?_
      refine lv_if_eq (tgt := 614) hx hb dL_law_582 (by decide) (fun q => absurd q hw) (fun _ => ?_)
      refine lv_iload hx hb dL_law_585 (lv_at hl 4 rfl) ?_
      refine lv_bipush (v := (-4)) hx hb dL_law_587 (by decide) ?_
      refine lv_icmp_eq (tgt := 614) hx hb dL_law_589 (by decide) (fun c51 => ?_) (fun c51 => ?_)
      · refine lv_iload hx hb dL_law_614 (lv_at hl 5 rfl) ?_
        refine lv_iconst (v := 1) hx hb dL_law_616 (by decide) ?_
        refine lv_icmp_ne (tgt := 634) hx hb dL_law_617 (by decide) (fun c52 => ?_) (fun c52 => ?_)
        · refine lv_iload hx hb dL_law_634 (lv_at hl 8 rfl) ?_
          refine lv_if_ne (tgt := 657) hx hb dL_law_636 (by decide) (fun _ => ?_) (fun q => absurd q hw)
          refine lv_aload_n hx hb dL_law_657 rfl (lv_at hl 22 rfl) ?_
          refine lv_iload hx hb dL_law_658 (lv_at hl 17 rfl) ?_
          refine lv_iconst (v := 0) hx hb dL_law_660 (by decide) ?_
          refine z_callVi X hH (c_X5_plan l D k a G1 hf (nI z) 0) k_L_34 (rv_X5 X hH) [] rfl rfl hl.1 (Nat.le_of_ble_eq_true rfl) ⟨Nat.le_of_ble_eq_true rfl, Nat.le_of_ble_eq_true rfl⟩ ⟨Nat.le_of_ble_eq_true rfl, Nat.le_of_ble_eq_true rfl⟩ dL_law_661 (fun r53 g54 H locs h55 hH => ?_)
          rw [h55.2] at hH
          rw [h55.1]
          refine lv_iconst (v := (-1)) hx hb dL_law_664 (by decide) ?_
          refine lv_icmp_eq (tgt := 739) hx hb dL_law_665 (by decide) (fun c56 => ?_) (fun c56 => ?_)
          · refine lv_iconst (v := 1) hx hb dL_law_739 (by decide) ?_
            refine lv_goto (tgt := 744) hx hb dL_law_740 (by decide) ?_
            refine lv_istore_n (lv' := [(2, .int 1), (24, .int (t)), (23, .int (kPlan v (nI z) 8)), (22, .int (fCost v z (fBest v z (nI mm)) (nI mm))), (21, .int (fIf v z (nI mm) 4)), (20, .int (fIf v z (nI mm) 3)), (19, .int (fIf v z (nI mm) 2)), (18, .int (fIf v z (nI mm) 1)), (17, .int (fIf v z (nI mm) 0)), (16, .int (fWhy v z (nI mm))), (15, .int (v 8)), (14, .int (v 148)), (13, .int (v 151)), (12, .int (v 150)), (11, .int (v 146)), (10, .int (v 145)), (9, .int (G 6 1)), (8, .int (nI mm)), (7, .int (nI z)), (6, .int (nI (Y % 16))), (4, .int (nI Y)), (3, .int (nI i)), (1, .ref (a 6 0)), (0, .ref b)]) hx hb dL_law_744 rfl hl (by decide) rfl (fun ls hl => ?_)
            refine lv_goto (tgt := 779) hx hb dL_law_745 (by decide) ?_
            refine kk  _ _ _  ?_ ?_
            · exact hH
            · exact lv_sub hl [17, 18, 21, 0, 22, 23] rfl
          · have hk1 : ¬ G1 0 (13 + 11 * z + 0) = 0 := fun q => c56 (kpn (by omega) q)
            obtain ⟨n1, n2, n3, n4, n5⟩ := ask_new (n := nI mm) hz hI hw (by rw [← eG]; exact hk1)
            rw [← eG] at n1 n2 n3 n4 n5
            refine lv_aload_n hx hb dL_law_668 rfl (lv_at hl 22 rfl) ?_
            refine lv_iload hx hb dL_law_669 (lv_at hl 17 rfl) ?_
            refine lv_iconst (v := 3) hx hb dL_law_671 (by decide) ?_
            refine z_callVi X hH (c_X5_plan l D k a G1 hf (nI z) 3) k_L_34 (rv_X5 X hH) [] rfl rfl hl.1 (Nat.le_of_ble_eq_true rfl) ⟨Nat.le_of_ble_eq_true rfl, Nat.le_of_ble_eq_true rfl⟩ ⟨Nat.le_of_ble_eq_true rfl, Nat.le_of_ble_eq_true rfl⟩ dL_law_672 (fun r57 g58 H locs h59 hH => ?_)
            rw [h59.2] at hH
            rw [h59.1, kp3 (by omega) hk1]
            refine lv_iload hx hb dL_law_675 (lv_at hl 16 rfl) ?_
            refine lv_icmp_ne (tgt := 743) hx hb dL_law_677 (by decide) (fun q => absurd n1 q) (fun c60 => ?_)
            refine lv_aload_n hx hb dL_law_680 rfl (lv_at hl 22 rfl) ?_
            refine lv_iload hx hb dL_law_681 (lv_at hl 17 rfl) ?_
            refine lv_bipush (v := 8) hx hb dL_law_683 (by decide) ?_
            refine z_callVi X hH (c_X5_plan l D k a G1 hf (nI z) 8) k_L_34 (rv_X5 X hH) [] rfl rfl hl.1 (Nat.le_of_ble_eq_true rfl) ⟨Nat.le_of_ble_eq_true rfl, Nat.le_of_ble_eq_true rfl⟩ ⟨Nat.le_of_ble_eq_true rfl, Nat.le_of_ble_eq_true rfl⟩ dL_law_685 (fun r61 g62 H locs h63 hH => ?_)
            rw [h63.2] at hH
            rw [h63.1, kp8 (by omega) hk1]
            refine lv_if_ne (tgt := 743) hx hb dL_law_688 (by decide) (fun q => absurd n2 q) (fun c64 => ?_)
            refine lv_aload_n hx hb dL_law_691 rfl (lv_at hl 22 rfl) ?_
            refine lv_iload hx hb dL_law_692 (lv_at hl 17 rfl) ?_
            refine lv_iconst (v := 5) hx hb dL_law_694 (by decide) ?_
            refine z_callVi X hH (c_X5_plan l D k a G1 hf (nI z) 5) k_L_34 (rv_X5 X hH) [] rfl rfl hl.1 (Nat.le_of_ble_eq_true rfl) ⟨Nat.le_of_ble_eq_true rfl, Nat.le_of_ble_eq_true rfl⟩ ⟨Nat.le_of_ble_eq_true rfl, Nat.le_of_ble_eq_true rfl⟩ dL_law_695 (fun r65 g66 H locs h67 hH => ?_)
            rw [h67.2] at hH
            rw [h67.1, kp5 (by omega) hk1]
            refine lv_if_ne (tgt := 743) hx hb dL_law_698 (by decide) (fun q => absurd n3 q) (fun c68 => ?_)
            refine lv_aload_n hx hb dL_law_701 rfl (lv_at hl 22 rfl) ?_
            refine lv_iload hx hb dL_law_702 (lv_at hl 17 rfl) ?_
            refine lv_iconst (v := 1) hx hb dL_law_704 (by decide) ?_
            refine z_callVi X hH (c_X5_plan l D k a G1 hf (nI z) 1) k_L_34 (rv_X5 X hH) [] rfl rfl hl.1 (Nat.le_of_ble_eq_true rfl) ⟨Nat.le_of_ble_eq_true rfl, Nat.le_of_ble_eq_true rfl⟩ ⟨Nat.le_of_ble_eq_true rfl, Nat.le_of_ble_eq_true rfl⟩ dL_law_705 (fun r69 g70 H locs h71 hH => ?_)
            rw [h71.2] at hH
            rw [h71.1, kp1 (by omega) hk1]
            refine lv_iload hx hb dL_law_708 (lv_at hl 16 rfl) ?_
            refine lv_aload_n hx hb dL_law_710 rfl (lv_at hl 22 rfl) ?_
            refine lv_bipush (v := 11) hx hb dL_law_711 (by decide) ?_
            refine z_callVi X hH (c_X5_count l D k a G1 11) k_L_43 (rv_X5 X hH) [.int (nI mm), .int (G1 0 (13 + 11 * z + 2))] rfl rfl hl.1 (Nat.le_of_ble_eq_true rfl) ⟨Nat.le_of_ble_eq_true rfl, Nat.le_of_ble_eq_true rfl⟩ ⟨Nat.le_of_ble_eq_true rfl, Nat.le_of_ble_eq_true rfl⟩ dL_law_713 (fun r72 g73 H locs h74 hH => ?_)
            rw [h74.2] at hH
            rw [h74.1, kcn11]
            refine lv_idiv hx hb dL_law_716 (fun q => iS_9 hI1.1.2.2.1 (by rw [q]; decide)) ?_
            refine lv_icmp_ne (tgt := 743) hx hb dL_law_717 (by decide) (fun q => absurd n4 q) (fun c75 => ?_)
            refine lv_aload_n hx hb dL_law_720 rfl (lv_at hl 22 rfl) ?_
            refine lv_iload hx hb dL_law_721 (lv_at hl 17 rfl) ?_
            refine lv_iconst (v := 2) hx hb dL_law_723 (by decide) ?_
            refine z_callVi X hH (c_X5_plan l D k a G1 hf (nI z) 2) k_L_34 (rv_X5 X hH) [] rfl rfl hl.1 (Nat.le_of_ble_eq_true rfl) ⟨Nat.le_of_ble_eq_true rfl, Nat.le_of_ble_eq_true rfl⟩ ⟨Nat.le_of_ble_eq_true rfl, Nat.le_of_ble_eq_true rfl⟩ dL_law_724 (fun r76 g77 H locs h78 hH => ?_)
            rw [h78.2] at hH
            rw [h78.1, kp2 (by omega) hk1]
            refine lv_iload hx hb dL_law_727 (lv_at hl 16 rfl) ?_
            refine lv_aload_n hx hb dL_law_729 rfl (lv_at hl 22 rfl) ?_
            refine lv_bipush (v := 11) hx hb dL_law_730 (by decide) ?_
            refine z_callVi X hH (c_X5_count l D k a G1 11) k_L_43 (rv_X5 X hH) [.int (nI mm), .int (G1 0 (13 + 11 * z + 3))] rfl rfl hl.1 (Nat.le_of_ble_eq_true rfl) ⟨Nat.le_of_ble_eq_true rfl, Nat.le_of_ble_eq_true rfl⟩ ⟨Nat.le_of_ble_eq_true rfl, Nat.le_of_ble_eq_true rfl⟩ dL_law_732 (fun r79 g80 H locs h81 hH => ?_)
            rw [h81.2] at hH
            rw [h81.1, kcn11]
            refine lv_imul hx hb dL_law_735 ?_
            refine lv_icmp_ne (tgt := 743) hx hb dL_law_736 (by decide) (fun q => absurd n5 q) (fun c82 => ?_)
            refine lv_iconst (v := 1) hx hb dL_law_739 (by decide) ?_
            refine lv_goto (tgt := 744) hx hb dL_law_740 (by decide) ?_
            refine lv_istore_n (lv' := [(2, .int 1), (24, .int (t)), (23, .int (kPlan v (nI z) 8)), (22, .int (fCost v z (fBest v z (nI mm)) (nI mm))), (21, .int (fIf v z (nI mm) 4)), (20, .int (fIf v z (nI mm) 3)), (19, .int (fIf v z (nI mm) 2)), (18, .int (fIf v z (nI mm) 1)), (17, .int (fIf v z (nI mm) 0)), (16, .int (fWhy v z (nI mm))), (15, .int (v 8)), (14, .int (v 148)), (13, .int (v 151)), (12, .int (v 150)), (11, .int (v 146)), (10, .int (v 145)), (9, .int (G 6 1)), (8, .int (nI mm)), (7, .int (nI z)), (6, .int (nI (Y % 16))), (4, .int (nI Y)), (3, .int (nI i)), (1, .ref (a 6 0)), (0, .ref b)]) hx hb dL_law_744 rfl hl (by decide) rfl (fun ls hl => ?_)
            refine lv_goto (tgt := 779) hx hb dL_law_745 (by decide) ?_
            refine kk  _ _ _  ?_ ?_
            · exact hH
            · exact lv_sub hl [17, 18, 21, 0, 22, 23] rfl
        · refine lv_aload_n hx hb dL_law_620 rfl (lv_at hl 22 rfl) ?_
          refine lv_iload hx hb dL_law_621 (lv_at hl 17 rfl) ?_
          refine lv_iconst (v := 0) hx hb dL_law_623 (by decide) ?_
          refine z_callVi X hH (c_X5_plan l D k a G1 hf (nI z) 0) k_L_34 (rv_X5 X hH) [] rfl rfl hl.1 (Nat.le_of_ble_eq_true rfl) ⟨Nat.le_of_ble_eq_true rfl, Nat.le_of_ble_eq_true rfl⟩ ⟨Nat.le_of_ble_eq_true rfl, Nat.le_of_ble_eq_true rfl⟩ dL_law_624 (fun r83 g84 H locs h85 hH => ?_)
          rw [h85.2] at hH
          rw [h85.1]
          refine lv_iconst (v := (-1)) hx hb dL_law_627 (by decide) ?_
          refine lv_icmp_ne (tgt := 743) hx hb dL_law_628 (by decide) (fun q => absurd (kpn (by omega) (by rw [eG]; exact ask_bad hz c52)) q) (fun c86 => ?_)
          refine lv_goto (tgt := 739) hx hb dL_law_631 (by decide) ?_
          refine lv_iconst (v := 1) hx hb dL_law_739 (by decide) ?_
          refine lv_goto (tgt := 744) hx hb dL_law_740 (by decide) ?_
          refine lv_istore_n (lv' := [(2, .int 1), (24, .int (t)), (23, .int (kPlan v (nI z) 8)), (22, .int (fCost v z (fBest v z (nI mm)) (nI mm))), (21, .int (fIf v z (nI mm) 4)), (20, .int (fIf v z (nI mm) 3)), (19, .int (fIf v z (nI mm) 2)), (18, .int (fIf v z (nI mm) 1)), (17, .int (fIf v z (nI mm) 0)), (16, .int (fWhy v z (nI mm))), (15, .int (v 8)), (14, .int (v 148)), (13, .int (v 151)), (12, .int (v 150)), (11, .int (v 146)), (10, .int (v 145)), (9, .int (G 6 1)), (8, .int (nI mm)), (7, .int (nI z)), (6, .int (nI (Y % 16))), (4, .int (nI Y)), (3, .int (nI i)), (1, .ref (a 6 0)), (0, .ref b)]) hx hb dL_law_744 rfl hl (by decide) rfl (fun ls hl => ?_)
          refine lv_goto (tgt := 779) hx hb dL_law_745 (by decide) ?_
          refine kk  _ _ _  ?_ ?_
          · exact hH
          · exact lv_sub hl [17, 18, 21, 0, 22, 23] rfl
      · refine lv_aload_n hx hb dL_law_592 rfl (lv_at hl 22 rfl) ?_
        refine lv_bipush (v := 9) hx hb dL_law_593 (by decide) ?_
        refine z_callVi X hH (c_X5_count l D k a G1 9) k_L_43 (rv_X5 X hH) [] rfl rfl hl.1 (Nat.le_of_ble_eq_true rfl) ⟨Nat.le_of_ble_eq_true rfl, Nat.le_of_ble_eq_true rfl⟩ ⟨Nat.le_of_ble_eq_true rfl, Nat.le_of_ble_eq_true rfl⟩ dL_law_595 (fun r87 g88 H locs h89 hH => ?_)
        rw [h89.2] at hH
        rw [h89.1, kcn9]
        refine lv_iload hx hb dL_law_598 (lv_at hl 11 rfl) ?_
        refine i_icmp_le (tgt := 743) hx hb dL_law_600 (by decide) (fun q => absurd (by rw [eG]; exact (ask_out hz hB.2 hI hw c51).1) q) (fun c90 => ?_)
        refine lv_aload_n hx hb dL_law_603 rfl (lv_at hl 22 rfl) ?_
        refine lv_iload hx hb dL_law_604 (lv_at hl 4 rfl) ?_
        refine lv_iconst (v := 0) hx hb dL_law_606 (by decide) ?_
        refine z_callVi X hH (c_X5_plan l D k a G1 hf (fIf v z (nI mm) 3) 0) k_L_34 (rv_X5 X hH) [] rfl rfl hl.1 (Nat.le_of_ble_eq_true rfl) ⟨Nat.le_of_ble_eq_true rfl, Nat.le_of_ble_eq_true rfl⟩ ⟨Nat.le_of_ble_eq_true rfl, Nat.le_of_ble_eq_true rfl⟩ dL_law_607 (fun r91 g92 H locs h93 hH => ?_)
        rw [h93.2] at hH
        rw [h93.1]
        refine lv_iconst (v := (-1)) hx hb dL_law_610 (by decide) ?_
        refine lv_icmp_ne (tgt := 743) hx hb dL_law_611 (by decide) (fun q => absurd (by rw [eG]; exact (ask_out hz hB.2 hI hw c51).2) q) (fun c94 => ?_)
        refine lv_iload hx hb dL_law_614 (lv_at hl 5 rfl) ?_
        refine lv_iconst (v := 1) hx hb dL_law_616 (by decide) ?_
        refine lv_icmp_ne (tgt := 634) hx hb dL_law_617 (by decide) (fun c95 => ?_) (fun c95 => ?_)
        · refine lv_iload hx hb dL_law_634 (lv_at hl 8 rfl) ?_
          refine lv_if_ne (tgt := 657) hx hb dL_law_636 (by decide) (fun _ => ?_) (fun q => absurd q hw)
          refine lv_aload_n hx hb dL_law_657 rfl (lv_at hl 22 rfl) ?_
          refine lv_iload hx hb dL_law_658 (lv_at hl 17 rfl) ?_
          refine lv_iconst (v := 0) hx hb dL_law_660 (by decide) ?_
          refine z_callVi X hH (c_X5_plan l D k a G1 hf (nI z) 0) k_L_34 (rv_X5 X hH) [] rfl rfl hl.1 (Nat.le_of_ble_eq_true rfl) ⟨Nat.le_of_ble_eq_true rfl, Nat.le_of_ble_eq_true rfl⟩ ⟨Nat.le_of_ble_eq_true rfl, Nat.le_of_ble_eq_true rfl⟩ dL_law_661 (fun r96 g97 H locs h98 hH => ?_)
          rw [h98.2] at hH
          rw [h98.1]
          refine lv_iconst (v := (-1)) hx hb dL_law_664 (by decide) ?_
          refine lv_icmp_eq (tgt := 739) hx hb dL_law_665 (by decide) (fun c99 => ?_) (fun c99 => ?_)
          · refine lv_iconst (v := 1) hx hb dL_law_739 (by decide) ?_
            refine lv_goto (tgt := 744) hx hb dL_law_740 (by decide) ?_
            refine lv_istore_n (lv' := [(2, .int 1), (24, .int (t)), (23, .int (kPlan v (nI z) 8)), (22, .int (fCost v z (fBest v z (nI mm)) (nI mm))), (21, .int (fIf v z (nI mm) 4)), (20, .int (fIf v z (nI mm) 3)), (19, .int (fIf v z (nI mm) 2)), (18, .int (fIf v z (nI mm) 1)), (17, .int (fIf v z (nI mm) 0)), (16, .int (fWhy v z (nI mm))), (15, .int (v 8)), (14, .int (v 148)), (13, .int (v 151)), (12, .int (v 150)), (11, .int (v 146)), (10, .int (v 145)), (9, .int (G 6 1)), (8, .int (nI mm)), (7, .int (nI z)), (6, .int (nI (Y % 16))), (4, .int (nI Y)), (3, .int (nI i)), (1, .ref (a 6 0)), (0, .ref b)]) hx hb dL_law_744 rfl hl (by decide) rfl (fun ls hl => ?_)
            refine lv_goto (tgt := 779) hx hb dL_law_745 (by decide) ?_
            refine kk  _ _ _  ?_ ?_
            · exact hH
            · exact lv_sub hl [17, 18, 21, 0, 22, 23] rfl
          · have hk1 : ¬ G1 0 (13 + 11 * z + 0) = 0 := fun q => c99 (kpn (by omega) q)
            obtain ⟨n1, n2, n3, n4, n5⟩ := ask_new (n := nI mm) hz hI hw (by rw [← eG]; exact hk1)
            rw [← eG] at n1 n2 n3 n4 n5
            refine lv_aload_n hx hb dL_law_668 rfl (lv_at hl 22 rfl) ?_
            refine lv_iload hx hb dL_law_669 (lv_at hl 17 rfl) ?_
            refine lv_iconst (v := 3) hx hb dL_law_671 (by decide) ?_
            refine z_callVi X hH (c_X5_plan l D k a G1 hf (nI z) 3) k_L_34 (rv_X5 X hH) [] rfl rfl hl.1 (Nat.le_of_ble_eq_true rfl) ⟨Nat.le_of_ble_eq_true rfl, Nat.le_of_ble_eq_true rfl⟩ ⟨Nat.le_of_ble_eq_true rfl, Nat.le_of_ble_eq_true rfl⟩ dL_law_672 (fun r100 g101 H locs h102 hH => ?_)
            rw [h102.2] at hH
            rw [h102.1, kp3 (by omega) hk1]
            refine lv_iload hx hb dL_law_675 (lv_at hl 16 rfl) ?_
            refine lv_icmp_ne (tgt := 743) hx hb dL_law_677 (by decide) (fun q => absurd n1 q) (fun c103 => ?_)
            refine lv_aload_n hx hb dL_law_680 rfl (lv_at hl 22 rfl) ?_
            refine lv_iload hx hb dL_law_681 (lv_at hl 17 rfl) ?_
            refine lv_bipush (v := 8) hx hb dL_law_683 (by decide) ?_
            refine z_callVi X hH (c_X5_plan l D k a G1 hf (nI z) 8) k_L_34 (rv_X5 X hH) [] rfl rfl hl.1 (Nat.le_of_ble_eq_true rfl) ⟨Nat.le_of_ble_eq_true rfl, Nat.le_of_ble_eq_true rfl⟩ ⟨Nat.le_of_ble_eq_true rfl, Nat.le_of_ble_eq_true rfl⟩ dL_law_685 (fun r104 g105 H locs h106 hH => ?_)
            rw [h106.2] at hH
            rw [h106.1, kp8 (by omega) hk1]
            refine lv_if_ne (tgt := 743) hx hb dL_law_688 (by decide) (fun q => absurd n2 q) (fun c107 => ?_)
            refine lv_aload_n hx hb dL_law_691 rfl (lv_at hl 22 rfl) ?_
            refine lv_iload hx hb dL_law_692 (lv_at hl 17 rfl) ?_
            refine lv_iconst (v := 5) hx hb dL_law_694 (by decide) ?_
            refine z_callVi X hH (c_X5_plan l D k a G1 hf (nI z) 5) k_L_34 (rv_X5 X hH) [] rfl rfl hl.1 (Nat.le_of_ble_eq_true rfl) ⟨Nat.le_of_ble_eq_true rfl, Nat.le_of_ble_eq_true rfl⟩ ⟨Nat.le_of_ble_eq_true rfl, Nat.le_of_ble_eq_true rfl⟩ dL_law_695 (fun r108 g109 H locs h110 hH => ?_)
            rw [h110.2] at hH
            rw [h110.1, kp5 (by omega) hk1]
            refine lv_if_ne (tgt := 743) hx hb dL_law_698 (by decide) (fun q => absurd n3 q) (fun c111 => ?_)
            refine lv_aload_n hx hb dL_law_701 rfl (lv_at hl 22 rfl) ?_
            refine lv_iload hx hb dL_law_702 (lv_at hl 17 rfl) ?_
            refine lv_iconst (v := 1) hx hb dL_law_704 (by decide) ?_
            refine z_callVi X hH (c_X5_plan l D k a G1 hf (nI z) 1) k_L_34 (rv_X5 X hH) [] rfl rfl hl.1 (Nat.le_of_ble_eq_true rfl) ⟨Nat.le_of_ble_eq_true rfl, Nat.le_of_ble_eq_true rfl⟩ ⟨Nat.le_of_ble_eq_true rfl, Nat.le_of_ble_eq_true rfl⟩ dL_law_705 (fun r112 g113 H locs h114 hH => ?_)
            rw [h114.2] at hH
            rw [h114.1, kp1 (by omega) hk1]
            refine lv_iload hx hb dL_law_708 (lv_at hl 16 rfl) ?_
            refine lv_aload_n hx hb dL_law_710 rfl (lv_at hl 22 rfl) ?_
            refine lv_bipush (v := 11) hx hb dL_law_711 (by decide) ?_
            refine z_callVi X hH (c_X5_count l D k a G1 11) k_L_43 (rv_X5 X hH) [.int (nI mm), .int (G1 0 (13 + 11 * z + 2))] rfl rfl hl.1 (Nat.le_of_ble_eq_true rfl) ⟨Nat.le_of_ble_eq_true rfl, Nat.le_of_ble_eq_true rfl⟩ ⟨Nat.le_of_ble_eq_true rfl, Nat.le_of_ble_eq_true rfl⟩ dL_law_713 (fun r115 g116 H locs h117 hH => ?_)
            rw [h117.2] at hH
            rw [h117.1, kcn11]
            refine lv_idiv hx hb dL_law_716 (fun q => iS_9 hI1.1.2.2.1 (by rw [q]; decide)) ?_
            refine lv_icmp_ne (tgt := 743) hx hb dL_law_717 (by decide) (fun q => absurd n4 q) (fun c118 => ?_)
            refine lv_aload_n hx hb dL_law_720 rfl (lv_at hl 22 rfl) ?_
            refine lv_iload hx hb dL_law_721 (lv_at hl 17 rfl) ?_
            refine lv_iconst (v := 2) hx hb dL_law_723 (by decide) ?_
            refine z_callVi X hH (c_X5_plan l D k a G1 hf (nI z) 2) k_L_34 (rv_X5 X hH) [] rfl rfl hl.1 (Nat.le_of_ble_eq_true rfl) ⟨Nat.le_of_ble_eq_true rfl, Nat.le_of_ble_eq_true rfl⟩ ⟨Nat.le_of_ble_eq_true rfl, Nat.le_of_ble_eq_true rfl⟩ dL_law_724 (fun r119 g120 H locs h121 hH => ?_)
            rw [h121.2] at hH
            rw [h121.1, kp2 (by omega) hk1]
            refine lv_iload hx hb dL_law_727 (lv_at hl 16 rfl) ?_
            refine lv_aload_n hx hb dL_law_729 rfl (lv_at hl 22 rfl) ?_
            refine lv_bipush (v := 11) hx hb dL_law_730 (by decide) ?_
            refine z_callVi X hH (c_X5_count l D k a G1 11) k_L_43 (rv_X5 X hH) [.int (nI mm), .int (G1 0 (13 + 11 * z + 3))] rfl rfl hl.1 (Nat.le_of_ble_eq_true rfl) ⟨Nat.le_of_ble_eq_true rfl, Nat.le_of_ble_eq_true rfl⟩ ⟨Nat.le_of_ble_eq_true rfl, Nat.le_of_ble_eq_true rfl⟩ dL_law_732 (fun r122 g123 H locs h124 hH => ?_)
            rw [h124.2] at hH
            rw [h124.1, kcn11]
            refine lv_imul hx hb dL_law_735 ?_
            refine lv_icmp_ne (tgt := 743) hx hb dL_law_736 (by decide) (fun q => absurd n5 q) (fun c125 => ?_)
            refine lv_iconst (v := 1) hx hb dL_law_739 (by decide) ?_
            refine lv_goto (tgt := 744) hx hb dL_law_740 (by decide) ?_
            refine lv_istore_n (lv' := [(2, .int 1), (24, .int (t)), (23, .int (kPlan v (nI z) 8)), (22, .int (fCost v z (fBest v z (nI mm)) (nI mm))), (21, .int (fIf v z (nI mm) 4)), (20, .int (fIf v z (nI mm) 3)), (19, .int (fIf v z (nI mm) 2)), (18, .int (fIf v z (nI mm) 1)), (17, .int (fIf v z (nI mm) 0)), (16, .int (fWhy v z (nI mm))), (15, .int (v 8)), (14, .int (v 148)), (13, .int (v 151)), (12, .int (v 150)), (11, .int (v 146)), (10, .int (v 145)), (9, .int (G 6 1)), (8, .int (nI mm)), (7, .int (nI z)), (6, .int (nI (Y % 16))), (4, .int (nI Y)), (3, .int (nI i)), (1, .ref (a 6 0)), (0, .ref b)]) hx hb dL_law_744 rfl hl (by decide) rfl (fun ls hl => ?_)
            refine lv_goto (tgt := 779) hx hb dL_law_745 (by decide) ?_
            refine kk  _ _ _  ?_ ?_
            · exact hH
            · exact lv_sub hl [17, 18, 21, 0, 22, 23] rfl
        · refine lv_aload_n hx hb dL_law_620 rfl (lv_at hl 22 rfl) ?_
          refine lv_iload hx hb dL_law_621 (lv_at hl 17 rfl) ?_
          refine lv_iconst (v := 0) hx hb dL_law_623 (by decide) ?_
          refine z_callVi X hH (c_X5_plan l D k a G1 hf (nI z) 0) k_L_34 (rv_X5 X hH) [] rfl rfl hl.1 (Nat.le_of_ble_eq_true rfl) ⟨Nat.le_of_ble_eq_true rfl, Nat.le_of_ble_eq_true rfl⟩ ⟨Nat.le_of_ble_eq_true rfl, Nat.le_of_ble_eq_true rfl⟩ dL_law_624 (fun r126 g127 H locs h128 hH => ?_)
          rw [h128.2] at hH
          rw [h128.1]
          refine lv_iconst (v := (-1)) hx hb dL_law_627 (by decide) ?_
          refine lv_icmp_ne (tgt := 743) hx hb dL_law_628 (by decide) (fun q => absurd (kpn (by omega) (by rw [eG]; exact ask_bad hz c95)) q) (fun c129 => ?_)
          refine lv_goto (tgt := 739) hx hb dL_law_631 (by decide) ?_
          refine lv_iconst (v := 1) hx hb dL_law_739 (by decide) ?_
          refine lv_goto (tgt := 744) hx hb dL_law_740 (by decide) ?_
          refine lv_istore_n (lv' := [(2, .int 1), (24, .int (t)), (23, .int (kPlan v (nI z) 8)), (22, .int (fCost v z (fBest v z (nI mm)) (nI mm))), (21, .int (fIf v z (nI mm) 4)), (20, .int (fIf v z (nI mm) 3)), (19, .int (fIf v z (nI mm) 2)), (18, .int (fIf v z (nI mm) 1)), (17, .int (fIf v z (nI mm) 0)), (16, .int (fWhy v z (nI mm))), (15, .int (v 8)), (14, .int (v 148)), (13, .int (v 151)), (12, .int (v 150)), (11, .int (v 146)), (10, .int (v 145)), (9, .int (G 6 1)), (8, .int (nI mm)), (7, .int (nI z)), (6, .int (nI (Y % 16))), (4, .int (nI Y)), (3, .int (nI i)), (1, .ref (a 6 0)), (0, .ref b)]) hx hb dL_law_744 rfl hl (by decide) rfl (fun ls hl => ?_)
          refine lv_goto (tgt := 779) hx hb dL_law_745 (by decide) ?_
          refine kk  _ _ _  ?_ ?_
          · exact hH
          · exact lv_sub hl [17, 18, 21, 0, 22, 23] rfl
set_option maxRecDepth 100000 in
set_option maxHeartbeats 4000000 in
theorem lw_s6 (Y0 : lwC p m c s args D k a b N xs) (hi : i < 34) (hz : z < 12) (hm : 1 ≤ mm ∧ mm ≤ 9999) (hB : B ≤ 1000) (hI : zInv B (G 0)) (x : Nat) (hx4 : x < 4) (e6 : G 6 0 = nI x) (hjk : ∀ j, 160 ≤ j → G (2 + x) j = G 0 j) (hH : zH D k a s (G) H locs) (hl : lv_has ls 25 [(8, .int (nI mm)), (7, .int (nI z)), (3, .int (nI i)), (2, .int 1), (1, .ref (a 6 0)), (0, .ref b)]) (kk : ∀  (H : Heap) (locs : List Loc) (ls : Array Slot), zH D k a s (G) H locs → lv_has ls 25 [(3, .int (nI (i + 1))), (2, .int 1), (1, .ref (a 6 0)), (0, .ref b)] → W p l e room_1 s m args below meth c H locs 128 1206 Q (F0 m 79 ls [])) : W p l e room_1 s m args below meth c H locs 128 1206 Q (F0 m 779 ls []) := by
  have X := Y0.1
  obtain ⟨hx, hb, hml, hown, hts⟩ := X.1
  refine lv_iload_n hx hb dL_law_779 rfl (lv_at hl 3 rfl) ?_
  refine lv_if_eq (tgt := 814) hx hb dL_law_780 (by decide) (fun q => absurd q (by decide)) (fun _ => ?_)
  refine lv_aload_n hx hb dL_law_783 rfl (lv_at hl 4 rfl) ?_
  refine lv_iload hx hb dL_law_784 (lv_at hl 0 rfl) ?_
  refine z_callSi X hH (c_L_hangs l D k a G x hx4 e6 hjk B hB hI mm hm) k_L_70 [] rfl rfl hl.1 (Nat.le_of_ble_eq_true rfl) ⟨Nat.le_of_ble_eq_true rfl, Nat.le_of_ble_eq_true rfl⟩ ⟨Nat.le_of_ble_eq_true rfl, Nat.le_of_ble_eq_true rfl⟩ dL_law_786 (fun r1 g2 H locs h3 hH => ?_)
  rw [h3.2] at hH
  rw [h3.1]
  refine lv_if_eq (tgt := 814) hx hb dL_law_789 (by decide) (fun q => absurd q (by decide)) (fun _ => ?_)
  refine lv_iload_n hx hb dL_law_792 rfl (lv_at hl 2 rfl) ?_
  refine lv_bipush (v := 6) hx hb dL_law_793 (by decide) ?_
  refine n_irem (A := i) (B := 6) hx hb (i % 6) rfl (by omega) (by omega) (by omega) dL_law_795 ?_
  refine n_if_gt (A := i % 6) (tgt := 810) hx hb (by omega) dL_law_796 (by decide) (fun c4 => ?_) (fun c4 => ?_)
  · refine lv_iconst (v := 1) hx hb dL_law_810 (by decide) ?_
    refine lv_goto (tgt := 815) hx hb dL_law_811 (by decide) ?_
    refine lv_istore_n (lv' := [(2, .int 1), (8, .int (nI mm)), (7, .int (nI z)), (3, .int (nI i)), (1, .ref (a 6 0)), (0, .ref b)]) hx hb dL_law_815 rfl hl (by decide) rfl (fun ls hl => ?_)
    refine lv_iinc (v := nI (i + 1)) (lv' := [(3, .int (nI (i + 1))), (2, .int 1), (8, .int (nI mm)), (7, .int (nI z)), (1, .ref (a 6 0)), (0, .ref b)]) hx hb dL_law_816 hl (k := 3) rfl (z_inc1 _) (by decide) rfl (fun ls hl => ?_)
    refine lv_goto (tgt := 79) hx hb dL_law_819 (by decide) ?_
    refine kk  _ _ _  ?_ ?_
    · exact hH
    · exact lv_sub hl [0, 1, 4, 5] rfl
  · refine lv_aload_n hx hb dL_law_799 rfl (lv_at hl 4 rfl) ?_
    refine lv_iload hx hb dL_law_800 (lv_at hl 1 rfl) ?_
    refine lv_iload hx hb dL_law_802 (lv_at hl 0 rfl) ?_
    refine z_callSi X hH (c_L_ways l D k a G z mm hz hm) k_L_87 [] rfl rfl hl.1 (Nat.le_of_ble_eq_true rfl) ⟨Nat.le_of_ble_eq_true rfl, Nat.le_of_ble_eq_true rfl⟩ ⟨Nat.le_of_ble_eq_true rfl, Nat.le_of_ble_eq_true rfl⟩ dL_law_804 (fun r5 g6 H locs h7 hH => ?_)
    rw [h7.2] at hH
    rw [h7.1]
    refine lv_if_eq (tgt := 814) hx hb dL_law_807 (by decide) (fun q => absurd q (by decide)) (fun _ => ?_)
    refine lv_iconst (v := 1) hx hb dL_law_810 (by decide) ?_
    refine lv_goto (tgt := 815) hx hb dL_law_811 (by decide) ?_
    refine lv_istore_n (lv' := [(2, .int 1), (8, .int (nI mm)), (7, .int (nI z)), (3, .int (nI i)), (1, .ref (a 6 0)), (0, .ref b)]) hx hb dL_law_815 rfl hl (by decide) rfl (fun ls hl => ?_)
    refine lv_iinc (v := nI (i + 1)) (lv' := [(3, .int (nI (i + 1))), (2, .int 1), (8, .int (nI mm)), (7, .int (nI z)), (1, .ref (a 6 0)), (0, .ref b)]) hx hb dL_law_816 hl (k := 3) rfl (z_inc1 _) (by decide) rfl (fun ls hl => ?_)
    refine lv_goto (tgt := 79) hx hb dL_law_819 (by decide) ?_
    refine kk  _ _ _  ?_ ?_
    · exact hH
    · exact lv_sub hl [0, 1, 4, 5] rfl
set_option maxRecDepth 100000 in
set_option maxHeartbeats 4000000 in
theorem lw_s7 (Y0 : lwC p m c s args D k a b N xs) (hf : zFl (G 0)) (x : Nat) (hx4 : x < 4) (e6 : G 6 0 = nI x) (hjk : ∀ j, 160 ≤ j → G (2 + x) j = G 0 j) (hH : zH D k a s (G) H locs) (hl : lv_has ls 25 [(2, .int 1), (1, .ref (a 6 0)), (0, .ref b)]) (kk : ∀  (H : Heap) (locs : List Loc) (ls : Array Slot), zH D k a s (G) H locs → W p l e room_1 s m args below meth c H locs 128 1206 Q (F0 m 1077 ls [.int 1])) : W p l e room_1 s m args below meth c H locs 128 1206 Q (F0 m 822 ls []) := by
  have X := Y0.1
  obtain ⟨hx, hb, hml, hown, hts⟩ := X.1
  refine lv_iload_n hx hb dL_law_822 rfl (lv_at hl 0 rfl) ?_
  refine lv_if_eq (tgt := 1076) hx hb dL_law_823 (by decide) (fun q => absurd q (by decide)) (fun _ => ?_)
  refine lv_aload_n hx hb dL_law_826 rfl (lv_at hl 1 rfl) ?_
  refine lv_iconst (v := 4) hx hb dL_law_827 (by decide) ?_
  refine lv_iconst (v := 1) hx hb dL_law_828 (by decide) ?_
  refine lv_iconst (v := 1) hx hb dL_law_829 (by decide) ?_
  refine z_callVi X hH (c_X5_table l D k a G x hx4 e6 hf hjk 4 1 1 (Or.inr rfl)) k_L_9 (rv_X5 X hH) [] rfl rfl hl.1 (Nat.le_of_ble_eq_true rfl) ⟨Nat.le_of_ble_eq_true rfl, Nat.le_of_ble_eq_true rfl⟩ ⟨Nat.le_of_ble_eq_true rfl, Nat.le_of_ble_eq_true rfl⟩ dL_law_830 (fun r1 g2 H locs h3 hH => ?_)
  rw [show kTable (G 0) 4 1 1 = ((-1), none) from rfl] at h3
  rw [h3.2] at hH
  rw [h3.1]
  have hH : zH D k a s G H locs := hH
  refine lv_iconst (v := (-1)) hx hb dL_law_833 (by decide) ?_
  refine lv_icmp_ne (tgt := 1076) hx hb dL_law_834 (by decide) (fun q => absurd rfl q) (fun _ => ?_)
  refine lv_aload_n hx hb dL_law_837 rfl (lv_at hl 1 rfl) ?_
  refine lv_iconst (v := 0) hx hb dL_law_838 (by decide) ?_
  refine lv_iconst (v := 1) hx hb dL_law_839 (by decide) ?_
  refine lv_iconst (v := 0) hx hb dL_law_840 (by decide) ?_
  refine z_callVi X hH (c_X5_table l D k a G x hx4 e6 hf hjk 0 1 0 (Or.inr rfl)) k_L_9 (rv_X5 X hH) [] rfl rfl hl.1 (Nat.le_of_ble_eq_true rfl) ⟨Nat.le_of_ble_eq_true rfl, Nat.le_of_ble_eq_true rfl⟩ ⟨Nat.le_of_ble_eq_true rfl, Nat.le_of_ble_eq_true rfl⟩ dL_law_841 (fun r4 g5 H locs h6 hH => ?_)
  rw [show kTable (G 0) 0 1 0 = ((-2), none) from rfl] at h6
  rw [h6.2] at hH
  rw [h6.1]
  have hH : zH D k a s G H locs := hH
  refine lv_bipush (v := (-2)) hx hb dL_law_844 (by decide) ?_
  refine lv_icmp_ne (tgt := 1076) hx hb dL_law_846 (by decide) (fun q => absurd rfl q) (fun _ => ?_)
  refine lv_aload_n hx hb dL_law_849 rfl (lv_at hl 1 rfl) ?_
  refine lv_iconst (v := 0) hx hb dL_law_850 (by decide) ?_
  refine lv_iconst (v := 0) hx hb dL_law_851 (by decide) ?_
  refine lv_sipush (v := 10000) hx hb dL_law_852 (by decide) ?_
  refine z_callVi X hH (c_X5_table l D k a G x hx4 e6 hf hjk 0 0 10000 (Or.inl rfl)) k_L_9 (rv_X5 X hH) [] rfl rfl hl.1 (Nat.le_of_ble_eq_true rfl) ⟨Nat.le_of_ble_eq_true rfl, Nat.le_of_ble_eq_true rfl⟩ ⟨Nat.le_of_ble_eq_true rfl, Nat.le_of_ble_eq_true rfl⟩ dL_law_855 (fun r7 g8 H locs h9 hH => ?_)
  rw [show kTable (G 0) 0 0 10000 = ((-2), none) from rfl] at h9
  rw [h9.2] at hH
  rw [h9.1]
  have hH : zH D k a s G H locs := hH
  refine lv_bipush (v := (-2)) hx hb dL_law_858 (by decide) ?_
  refine lv_icmp_ne (tgt := 1076) hx hb dL_law_860 (by decide) (fun q => absurd rfl q) (fun _ => ?_)
  refine lv_aload_n hx hb dL_law_863 rfl (lv_at hl 1 rfl) ?_
  refine lv_bipush (v := 12) hx hb dL_law_864 (by decide) ?_
  refine lv_iconst (v := 1) hx hb dL_law_866 (by decide) ?_
  refine z_callVi X hH (c_X5_ask l D k a G x hx4 e6 hf hjk 12 1) k_L_31 (rv_X5 X hH) [] rfl rfl hl.1 (Nat.le_of_ble_eq_true rfl) ⟨Nat.le_of_ble_eq_true rfl, Nat.le_of_ble_eq_true rfl⟩ ⟨Nat.le_of_ble_eq_true rfl, Nat.le_of_ble_eq_true rfl⟩ dL_law_867 (fun r10 g11 H locs h12 hH => ?_)
  rw [show kAsk (G 0) 12 1 = ((-1), none) from rfl] at h12
  rw [h12.2] at hH
  rw [h12.1]
  have hH : zH D k a s G H locs := hH
  refine lv_iconst (v := (-1)) hx hb dL_law_870 (by decide) ?_
  refine lv_icmp_ne (tgt := 1076) hx hb dL_law_871 (by decide) (fun q => absurd rfl q) (fun _ => ?_)
  refine lv_aload_n hx hb dL_law_874 rfl (lv_at hl 1 rfl) ?_
  refine lv_iconst (v := 1) hx hb dL_law_875 (by decide) ?_
  refine lv_iconst (v := 0) hx hb dL_law_876 (by decide) ?_
  refine z_callVi X hH (c_X5_ask l D k a G x hx4 e6 hf hjk 1 0) k_L_31 (rv_X5 X hH) [] rfl rfl hl.1 (Nat.le_of_ble_eq_true rfl) ⟨Nat.le_of_ble_eq_true rfl, Nat.le_of_ble_eq_true rfl⟩ ⟨Nat.le_of_ble_eq_true rfl, Nat.le_of_ble_eq_true rfl⟩ dL_law_877 (fun r13 g14 H locs h15 hH => ?_)
  rw [show kAsk (G 0) 1 0 = ((-2), none) from rfl] at h15
  rw [h15.2] at hH
  rw [h15.1]
  have hH : zH D k a s G H locs := hH
  refine lv_bipush (v := (-2)) hx hb dL_law_880 (by decide) ?_
  refine lv_icmp_ne (tgt := 1076) hx hb dL_law_882 (by decide) (fun q => absurd rfl q) (fun _ => ?_)
  refine lv_aload_n hx hb dL_law_885 rfl (lv_at hl 1 rfl) ?_
  refine lv_iconst (v := 0) hx hb dL_law_886 (by decide) ?_
  refine lv_sipush (v := 10000) hx hb dL_law_887 (by decide) ?_
  refine z_callVi X hH (c_X5_ask l D k a G x hx4 e6 hf hjk 0 10000) k_L_31 (rv_X5 X hH) [] rfl rfl hl.1 (Nat.le_of_ble_eq_true rfl) ⟨Nat.le_of_ble_eq_true rfl, Nat.le_of_ble_eq_true rfl⟩ ⟨Nat.le_of_ble_eq_true rfl, Nat.le_of_ble_eq_true rfl⟩ dL_law_890 (fun r16 g17 H locs h18 hH => ?_)
  rw [show kAsk (G 0) 0 10000 = ((-2), none) from rfl] at h18
  rw [h18.2] at hH
  rw [h18.1]
  have hH : zH D k a s G H locs := hH
  refine lv_bipush (v := (-2)) hx hb dL_law_893 (by decide) ?_
  refine lv_icmp_ne (tgt := 1076) hx hb dL_law_895 (by decide) (fun q => absurd rfl q) (fun _ => ?_)
  refine lv_aload_n hx hb dL_law_898 rfl (lv_at hl 1 rfl) ?_
  refine lv_bipush (v := 12) hx hb dL_law_899 (by decide) ?_
  refine lv_iconst (v := 1) hx hb dL_law_901 (by decide) ?_
  refine z_callVi X hH (c_X5_pin l D k a G x hx4 e6 hf hjk 12 1 (Or.inr rfl)) k_L_15 (rv_X5 X hH) [] rfl rfl hl.1 (Nat.le_of_ble_eq_true rfl) ⟨Nat.le_of_ble_eq_true rfl, Nat.le_of_ble_eq_true rfl⟩ ⟨Nat.le_of_ble_eq_true rfl, Nat.le_of_ble_eq_true rfl⟩ dL_law_902 (fun r19 g20 H locs h21 hH => ?_)
  rw [show kPin (G 0) 12 1 = ((-1), none) from rfl] at h21
  rw [h21.2] at hH
  rw [h21.1]
  have hH : zH D k a s G H locs := hH
  refine lv_iconst (v := (-1)) hx hb dL_law_905 (by decide) ?_
  refine lv_icmp_ne (tgt := 1076) hx hb dL_law_906 (by decide) (fun q => absurd rfl q) (fun _ => ?_)
  refine lv_aload_n hx hb dL_law_909 rfl (lv_at hl 1 rfl) ?_
  refine lv_iconst (v := 0) hx hb dL_law_910 (by decide) ?_
  refine lv_iconst (v := 3) hx hb dL_law_911 (by decide) ?_
  refine lv_iconst (v := 1) hx hb dL_law_912 (by decide) ?_
  refine lv_iconst (v := 0) hx hb dL_law_913 (by decide) ?_
  refine lv_iconst (v := 1) hx hb dL_law_914 (by decide) ?_
  refine z_callVi X hH (c_X5_make l D k a G x hx4 e6 hf hjk 0 3 1 0 1) k_L_23 (rv_X5 X hH) [] rfl rfl hl.1 (Nat.le_of_ble_eq_true rfl) ⟨Nat.le_of_ble_eq_true rfl, Nat.le_of_ble_eq_true rfl⟩ ⟨Nat.le_of_ble_eq_true rfl, Nat.le_of_ble_eq_true rfl⟩ dL_law_915 (fun r22 g23 H locs h24 hH => ?_)
  rw [show kMake (G 0) 0 3 1 0 1 = ((-2), none) from rfl] at h24
  rw [h24.2] at hH
  rw [h24.1]
  have hH : zH D k a s G H locs := hH
  refine lv_bipush (v := (-2)) hx hb dL_law_918 (by decide) ?_
  refine lv_icmp_ne (tgt := 1076) hx hb dL_law_920 (by decide) (fun q => absurd rfl q) (fun _ => ?_)
  refine lv_aload_n hx hb dL_law_923 rfl (lv_at hl 1 rfl) ?_
  refine lv_iconst (v := 0) hx hb dL_law_924 (by decide) ?_
  refine lv_iconst (v := 0) hx hb dL_law_925 (by decide) ?_
  refine lv_iconst (v := 1) hx hb dL_law_926 (by decide) ?_
  refine lv_iconst (v := 5) hx hb dL_law_927 (by decide) ?_
  refine lv_iconst (v := 4) hx hb dL_law_928 (by decide) ?_
  refine z_callVi X hH (c_X5_make l D k a G x hx4 e6 hf hjk 0 0 1 5 4) k_L_23 (rv_X5 X hH) [] rfl rfl hl.1 (Nat.le_of_ble_eq_true rfl) ⟨Nat.le_of_ble_eq_true rfl, Nat.le_of_ble_eq_true rfl⟩ ⟨Nat.le_of_ble_eq_true rfl, Nat.le_of_ble_eq_true rfl⟩ dL_law_929 (fun r25 g26 H locs h27 hH => ?_)
  rw [show kMake (G 0) 0 0 1 5 4 = ((-2), none) from rfl] at h27
  rw [h27.2] at hH
  rw [h27.1]
  have hH : zH D k a s G H locs := hH
  refine lv_bipush (v := (-2)) hx hb dL_law_932 (by decide) ?_
  refine lv_icmp_ne (tgt := 1076) hx hb dL_law_934 (by decide) (fun q => absurd rfl q) (fun _ => ?_)
  refine lv_aload_n hx hb dL_law_937 rfl (lv_at hl 1 rfl) ?_
  refine lv_bipush (v := 12) hx hb dL_law_938 (by decide) ?_
  refine lv_iconst (v := 0) hx hb dL_law_940 (by decide) ?_
  refine lv_iconst (v := 1) hx hb dL_law_941 (by decide) ?_
  refine lv_iconst (v := 0) hx hb dL_law_942 (by decide) ?_
  refine lv_iconst (v := 1) hx hb dL_law_943 (by decide) ?_
  refine z_callVi X hH (c_X5_make l D k a G x hx4 e6 hf hjk 12 0 1 0 1) k_L_23 (rv_X5 X hH) [] rfl rfl hl.1 (Nat.le_of_ble_eq_true rfl) ⟨Nat.le_of_ble_eq_true rfl, Nat.le_of_ble_eq_true rfl⟩ ⟨Nat.le_of_ble_eq_true rfl, Nat.le_of_ble_eq_true rfl⟩ dL_law_944 (fun r28 g29 H locs h30 hH => ?_)
  rw [show kMake (G 0) 12 0 1 0 1 = ((-1), none) from rfl] at h30
  rw [h30.2] at hH
  rw [h30.1]
  have hH : zH D k a s G H locs := hH
  refine lv_iconst (v := (-1)) hx hb dL_law_947 (by decide) ?_
  refine lv_icmp_ne (tgt := 1076) hx hb dL_law_948 (by decide) (fun q => absurd rfl q) (fun _ => ?_)
  refine lv_aload_n hx hb dL_law_951 rfl (lv_at hl 1 rfl) ?_
  refine lv_iconst (v := 5) hx hb dL_law_952 (by decide) ?_
  refine lv_iconst (v := 1) hx hb dL_law_953 (by decide) ?_
  refine z_callVi X hH (c_X5_set l D k a G x hx4 e6 hf hjk 5 1) k_L_27 (rv_X5 X hH) [] rfl rfl hl.1 (Nat.le_of_ble_eq_true rfl) ⟨Nat.le_of_ble_eq_true rfl, Nat.le_of_ble_eq_true rfl⟩ ⟨Nat.le_of_ble_eq_true rfl, Nat.le_of_ble_eq_true rfl⟩ dL_law_954 (fun r31 g32 H locs h33 hH => ?_)
  rw [show kSet (G 0) 5 1 = ((-1), none) from rfl] at h33
  rw [h33.2] at hH
  rw [h33.1]
  have hH : zH D k a s G H locs := hH
  refine lv_iconst (v := (-1)) hx hb dL_law_957 (by decide) ?_
  refine lv_icmp_ne (tgt := 1076) hx hb dL_law_958 (by decide) (fun q => absurd rfl q) (fun _ => ?_)
  refine lv_aload_n hx hb dL_law_961 rfl (lv_at hl 1 rfl) ?_
  refine lv_iconst (v := 1) hx hb dL_law_962 (by decide) ?_
  refine lv_iconst (v := 0) hx hb dL_law_963 (by decide) ?_
  refine z_callVi X hH (c_X5_set l D k a G x hx4 e6 hf hjk 1 0) k_L_27 (rv_X5 X hH) [] rfl rfl hl.1 (Nat.le_of_ble_eq_true rfl) ⟨Nat.le_of_ble_eq_true rfl, Nat.le_of_ble_eq_true rfl⟩ ⟨Nat.le_of_ble_eq_true rfl, Nat.le_of_ble_eq_true rfl⟩ dL_law_964 (fun r34 g35 H locs h36 hH => ?_)
  rw [show kSet (G 0) 1 0 = ((-2), none) from rfl] at h36
  rw [h36.2] at hH
  rw [h36.1]
  have hH : zH D k a s G H locs := hH
  refine lv_bipush (v := (-2)) hx hb dL_law_967 (by decide) ?_
  refine lv_icmp_ne (tgt := 1076) hx hb dL_law_969 (by decide) (fun q => absurd rfl q) (fun _ => ?_)
  refine lv_aload_n hx hb dL_law_972 rfl (lv_at hl 1 rfl) ?_
  refine lv_iconst (v := 3) hx hb dL_law_973 (by decide) ?_
  refine lv_bipush (v := 13) hx hb dL_law_974 (by decide) ?_
  refine z_callVi X hH (c_X5_set l D k a G x hx4 e6 hf hjk 3 13) k_L_27 (rv_X5 X hH) [] rfl rfl hl.1 (Nat.le_of_ble_eq_true rfl) ⟨Nat.le_of_ble_eq_true rfl, Nat.le_of_ble_eq_true rfl⟩ ⟨Nat.le_of_ble_eq_true rfl, Nat.le_of_ble_eq_true rfl⟩ dL_law_976 (fun r37 g38 H locs h39 hH => ?_)
  rw [show kSet (G 0) 3 13 = ((-2), none) from rfl] at h39
  rw [h39.2] at hH
  rw [h39.1]
  have hH : zH D k a s G H locs := hH
  refine lv_bipush (v := (-2)) hx hb dL_law_979 (by decide) ?_
  refine lv_icmp_ne (tgt := 1076) hx hb dL_law_981 (by decide) (fun q => absurd rfl q) (fun _ => ?_)
  refine lv_aload_n hx hb dL_law_984 rfl (lv_at hl 1 rfl) ?_
  refine lv_iconst (v := 0) hx hb dL_law_985 (by decide) ?_
  refine lv_iconst (v := 3) hx hb dL_law_986 (by decide) ?_
  refine lv_iconst (v := 1) hx hb dL_law_987 (by decide) ?_
  refine z_callVi X hH (c_X5_cost l D k a G 0 3 1) k_L_46 (rv_X5 X hH) [] rfl rfl hl.1 (Nat.le_of_ble_eq_true rfl) ⟨Nat.le_of_ble_eq_true rfl, Nat.le_of_ble_eq_true rfl⟩ ⟨Nat.le_of_ble_eq_true rfl, Nat.le_of_ble_eq_true rfl⟩ dL_law_988 (fun r40 g41 H locs h42 hH => ?_)
  rw [show kCost (G 0) 0 3 1 = (-2) from rfl] at h42
  rw [h42.2] at hH
  rw [h42.1]
  refine lv_bipush (v := (-2)) hx hb dL_law_991 (by decide) ?_
  refine lv_icmp_ne (tgt := 1076) hx hb dL_law_993 (by decide) (fun q => absurd rfl q) (fun _ => ?_)
  refine lv_aload_n hx hb dL_law_996 rfl (lv_at hl 1 rfl) ?_
  refine lv_iconst (v := 2) hx hb dL_law_997 (by decide) ?_
  refine lv_iconst (v := 0) hx hb dL_law_998 (by decide) ?_
  refine z_callVi X hH (c_X5_cheapest l D k a G 2 0) k_L_54 (rv_X5 X hH) [] rfl rfl hl.1 (Nat.le_of_ble_eq_true rfl) ⟨Nat.le_of_ble_eq_true rfl, Nat.le_of_ble_eq_true rfl⟩ ⟨Nat.le_of_ble_eq_true rfl, Nat.le_of_ble_eq_true rfl⟩ dL_law_999 (fun r43 g44 H locs h45 hH => ?_)
  rw [show kCheap (G 0) 2 0 = (-2) from rfl] at h45
  rw [h45.2] at hH
  rw [h45.1]
  refine lv_bipush (v := (-2)) hx hb dL_law_1002 (by decide) ?_
  refine lv_icmp_ne (tgt := 1076) hx hb dL_law_1004 (by decide) (fun q => absurd rfl q) (fun _ => ?_)
  refine lv_aload_n hx hb dL_law_1007 rfl (lv_at hl 1 rfl) ?_
  refine lv_iconst (v := (-1)) hx hb dL_law_1008 (by decide) ?_
  refine lv_iconst (v := 1) hx hb dL_law_1009 (by decide) ?_
  refine z_callVi X hH (c_X5_reason l D k a G ((-1)) 1) k_L_37 (rv_X5 X hH) [] rfl rfl hl.1 (Nat.le_of_ble_eq_true rfl) ⟨Nat.le_of_ble_eq_true rfl, Nat.le_of_ble_eq_true rfl⟩ ⟨Nat.le_of_ble_eq_true rfl, Nat.le_of_ble_eq_true rfl⟩ dL_law_1010 (fun r46 g47 H locs h48 hH => ?_)
  rw [show kReason (G 0) ((-1)) 1 = (-1) from rfl] at h48
  rw [h48.2] at hH
  rw [h48.1]
  refine lv_iconst (v := (-1)) hx hb dL_law_1013 (by decide) ?_
  refine lv_icmp_ne (tgt := 1076) hx hb dL_law_1014 (by decide) (fun q => absurd rfl q) (fun _ => ?_)
  refine lv_aload_n hx hb dL_law_1017 rfl (lv_at hl 1 rfl) ?_
  refine lv_iconst (v := 0) hx hb dL_law_1018 (by decide) ?_
  refine lv_iconst (v := 1) hx hb dL_law_1019 (by decide) ?_
  refine lv_iconst (v := 5) hx hb dL_law_1020 (by decide) ?_
  refine z_callVi X hH (c_X5_ifAsked l D k a G 0 1 5) k_L_80 (rv_X5 X hH) [] rfl rfl hl.1 (Nat.le_of_ble_eq_true rfl) ⟨Nat.le_of_ble_eq_true rfl, Nat.le_of_ble_eq_true rfl⟩ ⟨Nat.le_of_ble_eq_true rfl, Nat.le_of_ble_eq_true rfl⟩ dL_law_1021 (fun r49 g50 H locs h51 hH => ?_)
  rw [show kIf (G 0) 0 1 5 = (-2) from rfl] at h51
  rw [h51.2] at hH
  rw [h51.1]
  refine lv_bipush (v := (-2)) hx hb dL_law_1024 (by decide) ?_
  refine lv_icmp_ne (tgt := 1076) hx hb dL_law_1026 (by decide) (fun q => absurd rfl q) (fun _ => ?_)
  refine lv_aload_n hx hb dL_law_1029 rfl (lv_at hl 1 rfl) ?_
  refine lv_iconst (v := 0) hx hb dL_law_1030 (by decide) ?_
  refine lv_iconst (v := 3) hx hb dL_law_1031 (by decide) ?_
  refine z_callVi X hH (c_X5_reach l D k a G 0 3) k_L_57 (rv_X5 X hH) [] rfl rfl hl.1 (Nat.le_of_ble_eq_true rfl) ⟨Nat.le_of_ble_eq_true rfl, Nat.le_of_ble_eq_true rfl⟩ ⟨Nat.le_of_ble_eq_true rfl, Nat.le_of_ble_eq_true rfl⟩ dL_law_1032 (fun r52 g53 H locs h54 hH => ?_)
  rw [show kReach (G 0) 0 3 = (-2) from rfl] at h54
  rw [h54.2] at hH
  rw [h54.1]
  refine lv_bipush (v := (-2)) hx hb dL_law_1035 (by decide) ?_
  refine lv_icmp_ne (tgt := 1076) hx hb dL_law_1037 (by decide) (fun q => absurd rfl q) (fun _ => ?_)
  refine lv_aload_n hx hb dL_law_1040 rfl (lv_at hl 1 rfl) ?_
  refine lv_iconst (v := 0) hx hb dL_law_1041 (by decide) ?_
  refine lv_iconst (v := 5) hx hb dL_law_1042 (by decide) ?_
  refine z_callVi X hH (c_X5_tableOf l D k a G 0 5) k_L_40 (rv_X5 X hH) [] rfl rfl hl.1 (Nat.le_of_ble_eq_true rfl) ⟨Nat.le_of_ble_eq_true rfl, Nat.le_of_ble_eq_true rfl⟩ ⟨Nat.le_of_ble_eq_true rfl, Nat.le_of_ble_eq_true rfl⟩ dL_law_1043 (fun r55 g56 H locs h57 hH => ?_)
  rw [show kTableOf (G 0) 0 5 = (-2) from rfl] at h57
  rw [h57.2] at hH
  rw [h57.1]
  refine lv_bipush (v := (-2)) hx hb dL_law_1046 (by decide) ?_
  refine lv_icmp_ne (tgt := 1076) hx hb dL_law_1048 (by decide) (fun q => absurd rfl q) (fun _ => ?_)
  refine lv_aload_n hx hb dL_law_1051 rfl (lv_at hl 1 rfl) ?_
  refine lv_iconst (v := 4) hx hb dL_law_1052 (by decide) ?_
  refine lv_iconst (v := 0) hx hb dL_law_1053 (by decide) ?_
  refine z_callVi X hH (c_X5_tableOf l D k a G 4 0) k_L_40 (rv_X5 X hH) [] rfl rfl hl.1 (Nat.le_of_ble_eq_true rfl) ⟨Nat.le_of_ble_eq_true rfl, Nat.le_of_ble_eq_true rfl⟩ ⟨Nat.le_of_ble_eq_true rfl, Nat.le_of_ble_eq_true rfl⟩ dL_law_1054 (fun r58 g59 H locs h60 hH => ?_)
  rw [show kTableOf (G 0) 4 0 = (-1) from rfl] at h60
  rw [h60.2] at hH
  rw [h60.1]
  refine lv_iconst (v := (-1)) hx hb dL_law_1057 (by decide) ?_
  refine lv_icmp_ne (tgt := 1076) hx hb dL_law_1058 (by decide) (fun q => absurd rfl q) (fun _ => ?_)
  refine lv_aload_n hx hb dL_law_1061 rfl (lv_at hl 1 rfl) ?_
  refine lv_bipush (v := 17) hx hb dL_law_1062 (by decide) ?_
  refine z_callVi X hH (c_X5_count l D k a G 17) k_L_43 (rv_X5 X hH) [] rfl rfl hl.1 (Nat.le_of_ble_eq_true rfl) ⟨Nat.le_of_ble_eq_true rfl, Nat.le_of_ble_eq_true rfl⟩ ⟨Nat.le_of_ble_eq_true rfl, Nat.le_of_ble_eq_true rfl⟩ dL_law_1064 (fun r61 g62 H locs h63 hH => ?_)
  rw [show kCount (G 0) (G 6 1) (G 6 2) 17 = (-2) from rfl] at h63
  rw [h63.2] at hH
  rw [h63.1]
  refine lv_bipush (v := (-2)) hx hb dL_law_1067 (by decide) ?_
  refine lv_icmp_ne (tgt := 1076) hx hb dL_law_1069 (by decide) (fun q => absurd rfl q) (fun _ => ?_)
  refine lv_iconst (v := 1) hx hb dL_law_1072 (by decide) ?_
  refine lv_goto (tgt := 1077) hx hb dL_law_1073 (by decide) ?_
  exact kk _ _ _ hH
end LB
