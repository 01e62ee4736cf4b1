set_option maxRecDepth 100000 in
set_option maxHeartbeats 4000000 in
theorem c_X6_asks (l : Launch) (D : va_G) (k : Nat → ClassId) (a : Nat → Nat → Nat) (g : Mem) (B : Nat) (hB : B < 7) (v u : V) (hf : zFl v) (hk : zKy v) (R : Nat) (eR : v 11 = nI R) (hR : 1 ≤ R) (hR2 : R ≤ 12) (h9 : ¬ v 9 < 1) (hg : zGu v) (z : Nat) (hz : z < 12) (n : Int32) : zI l yX6_asks cX6_asks 7 .int 4 90 D k a [.ref (a 6 8), .int (nI (160 * B)), .int (nI z), .int (n)] (zM g B v u) (zAskP g B v u z n) := by
  refine zI_of (own := RX6) (by decide +kernel) rfl (Nat.le_of_ble_eq_true rfl) ?_
  intro p e s m args below meth c X Q hret hH ls hl
  obtain ⟨hx, hb, hml, hown, hts⟩ := X.1
  have hl : lv_has ls 7 [(0, .ref (a 6 8)), (1, .int (nI (160 * B))), (2, .int (nI z)), (3, .int (n))] := hl
  have hH : zH D k a s (zM g B v u) s.heap [] := hH
  refine lv_iload_n hx hb dX6_asks_0 rfl (lv_at hl 1 rfl) ?_
  refine lv_iload_n hx hb dX6_asks_1 rfl (lv_at hl 2 rfl) ?_
  refine z_callSi X hH (c_X6_planAt l D k a (zM g B v u) B (z)) k_X6_38 [] rfl rfl hl.1 (Nat.le_of_ble_eq_true rfl) ⟨Nat.le_of_ble_eq_true rfl, Nat.le_of_ble_eq_true rfl⟩ ⟨Nat.le_refl _, Nat.le_refl _⟩ dX6_asks_2 (fun r1 g2 H locs h3 hH => ?_)
  rw [h3.2] at hH
  rw [h3.1]
  refine lv_istore (lv' := [(4, .int (nI (160 * B + 13 + 11 * z))), (0, .ref (a 6 8)), (1, .int (nI (160 * B))), (2, .int (nI z)), (3, .int (n))]) hx hb dX6_asks_5 hl (by decide) rfl (fun ls hl => ?_)
  refine lv_aload_n hx hb dX6_asks_7 rfl (lv_at hl 1 rfl) ?_
  refine lv_iload_n hx hb dX6_asks_8 rfl (lv_at hl 2 rfl) ?_
  refine lv_iload_n hx hb dX6_asks_9 rfl (lv_at hl 3 rfl) ?_
  refine lv_iload_n hx hb dX6_asks_10 rfl (lv_at hl 4 rfl) ?_
  refine z_callVi X hH (c_X6_why l D k a g B (by omega) v u (z) (by omega) n) k_X6_65 (rv_X6 X hH) [] rfl rfl hl.1 (Nat.le_of_ble_eq_true rfl) ⟨Nat.le_of_ble_eq_true rfl, Nat.le_of_ble_eq_true rfl⟩ ⟨Nat.le_refl _, Nat.le_refl _⟩ dX6_asks_11 (fun r4 g5 H locs h6 hH => ?_)
  rw [h6.2] at hH
  rw [h6.1]
  refine lv_if_ne (tgt := 21) hx hb dX6_asks_14 (by decide) (fun c7 => ?_) (fun c7 => ?_)
  · refine lv_iconst (v := 0) hx hb dX6_asks_21 (by decide) ?_
    refine lv_istore (lv' := [(5, .int 0), (4, .int (nI (160 * B + 13 + 11 * z))), (0, .ref (a 6 8)), (1, .int (nI (160 * B))), (2, .int (nI z)), (3, .int (n))]) hx hb dX6_asks_22 hl (by decide) rfl (fun ls hl => ?_)
    refine lv_aload_n hx hb dX6_asks_24 rfl (lv_at hl 2 rfl) ?_
    refine lv_iload hx hb dX6_asks_25 (lv_at hl 0 rfl) ?_
    refine lv_if_eq (tgt := 42) hx hb dX6_asks_27 (by decide) (fun _ => ?_) (fun q => absurd (by decide) q)
    refine lv_aload_n hx hb dX6_asks_42 rfl (lv_at hl 2 rfl) ?_
    refine lv_iload_n hx hb dX6_asks_43 rfl (lv_at hl 3 rfl) ?_
    refine lv_iload_n hx hb dX6_asks_44 rfl (lv_at hl 4 rfl) ?_
    refine lv_iload_n hx hb dX6_asks_45 rfl (lv_at hl 5 rfl) ?_
    refine z_callVi X hH (c_X6_cheapestOf l D k a g B (by omega) v u hk (z) (by omega) n) k_X6_69 (rv_X6 X hH) [.ref (a 6 8)] rfl rfl hl.1 (Nat.le_of_ble_eq_true rfl) ⟨Nat.le_of_ble_eq_true rfl, Nat.le_of_ble_eq_true rfl⟩ ⟨Nat.le_refl _, Nat.le_refl _⟩ dX6_asks_46 (fun r8 g9 H locs h10 hH => ?_)
    rw [h10.2] at hH
    rw [h10.1]
    refine pm_X6_way X hH q_585 dX6_asks_49 (fun H locs hH => ?_)
    refine lv_aload_n hx hb dX6_asks_52 rfl (lv_at hl 2 rfl) ?_
    refine lv_iconst (v := 0) hx hb dX6_asks_53 (by decide) ?_
    refine pm_X6_isBad X hH (Or.inl rfl) q_586 dX6_asks_54 (fun H locs hH => ?_)
    refine lv_aload_n hx hb dX6_asks_57 rfl (lv_at hl 2 rfl) ?_
    refine lv_bipush (v := (-4)) hx hb dX6_asks_58 (by decide) ?_
    refine pm_X6_gone X hH q_587 dX6_asks_60 (fun H locs hH => ?_)
    refine lv_aload_n hx hb dX6_asks_63 rfl (lv_at hl 2 rfl) ?_
    refine lv_iload_n hx hb dX6_asks_64 rfl (lv_at hl 3 rfl) ?_
    refine lv_iload_n hx hb dX6_asks_65 rfl (lv_at hl 4 rfl) ?_
    refine lv_aload_n hx hb dX6_asks_66 rfl (lv_at hl 2 rfl) ?_
    refine gm_X6_way X hH q_585 dX6_asks_67 ?_
    rw [show (upd (upd (upd u 7 (fBest v z n)) 8 0) 9 ((-4))) 7 = fBest v z n from ((zu_n _ _ (by omega)).trans ((zu_n _ _ (by omega)).trans (zu_s _ _ _)))]
    refine lv_iload_n hx hb dX6_asks_70 rfl (lv_at hl 5 rfl) ?_
    refine z_callVi X hH (c_X6_costs l D k a g B (by omega) v (upd (upd (upd u 7 (fBest v z n)) 8 0) 9 ((-4))) hk (z) (by omega) (fBest v z n) n) k_X6_34 (rv_X6 X hH) [] rfl rfl hl.1 (Nat.le_of_ble_eq_true rfl) ⟨Nat.le_of_ble_eq_true rfl, Nat.le_of_ble_eq_true rfl⟩ ⟨Nat.le_refl _, Nat.le_refl _⟩ dX6_asks_71 (fun r11 g12 H locs h13 hH => ?_)
    rw [h13.2] at hH
    rw [h13.1]
    refine lv_istore (lv' := [(6, .int (fCost v z (fBest v z n) n)), (5, .int 0), (4, .int (nI (160 * B + 13 + 11 * z))), (0, .ref (a 6 8)), (1, .int (nI (160 * B))), (2, .int (nI z)), (3, .int (n))]) hx hb dX6_asks_74 hl (by decide) rfl (fun ls hl => ?_)
    refine lv_aload_n hx hb dX6_asks_76 rfl (lv_at hl 3 rfl) ?_
    refine gf_X6_s X hH q_576 dX6_asks_77 ?_
    refine lv_iload_n hx hb dX6_asks_80 rfl (lv_at hl 4 rfl) ?_
    refine lv_sipush (v := 145) hx hb dX6_asks_81 (by decide) ?_
    refine n_iadd (A := 160 * B) (B := 145) hx hb (160 * B + 145) (by omega) dX6_asks_84 ?_
    refine lv_dup2_11 hx hb dX6_asks_85 rfl rfl ?_
    refine am_s X (by omega) hH (145) (by omega) (by omega) dX6_asks_86 ?_
    refine lv_iconst (v := 1) hx hb dX6_asks_87 (by decide) ?_
    refine lv_iadd hx hb dX6_asks_88 ?_
    refine sm_s X (by omega) hH (145) (by omega) (by omega) dX6_asks_89 (fun H locs hH => ?_)
    refine lv_iload hx hb dX6_asks_90 (lv_at hl 1 rfl) ?_
    refine lv_if_eq (tgt := 229) hx hb dX6_asks_92 (by decide) (fun _ => ?_) (fun q => absurd (by decide) q)
    refine lv_aload_n hx hb dX6_asks_229 rfl (lv_at hl 3 rfl) ?_
    refine gf_X6_s X hH q_576 dX6_asks_230 ?_
    refine lv_iload_n hx hb dX6_asks_233 rfl (lv_at hl 4 rfl) ?_
    refine lv_sipush (v := 147) hx hb dX6_asks_234 (by decide) ?_
    refine n_iadd (A := 160 * B) (B := 147) hx hb (160 * B + 147) (by omega) dX6_asks_237 ?_
    refine lv_dup2_11 hx hb dX6_asks_238 rfl rfl ?_
    refine am_s X (by omega) hH (147) (by omega) (by omega) dX6_asks_239 ?_
    rw [show (upd v 145 ((v 145) + 1)) 147 = v 147 from (zu_n _ _ (by omega))]
    refine lv_iconst (v := 1) hx hb dX6_asks_240 (by decide) ?_
    refine lv_iadd hx hb dX6_asks_241 ?_
    refine sm_s X (by omega) hH (147) (by omega) (by omega) dX6_asks_242 (fun H locs hH => ?_)
    refine lv_aload_n hx hb dX6_asks_243 rfl (lv_at hl 3 rfl) ?_
    refine gf_X6_s X hH q_576 dX6_asks_244 ?_
    refine lv_iload_n hx hb dX6_asks_247 rfl (lv_at hl 4 rfl) ?_
    refine lv_sipush (v := 149) hx hb dX6_asks_248 (by decide) ?_
    refine n_iadd (A := 160 * B) (B := 149) hx hb (160 * B + 149) (by omega) dX6_asks_251 ?_
    refine lv_dup2_11 hx hb dX6_asks_252 rfl rfl ?_
    refine am_s X (by omega) hH (149) (by omega) (by omega) dX6_asks_253 ?_
    rw [show (upd (upd v 145 ((v 145) + 1)) 147 ((v 147) + 1)) 149 = v 149 from ((zu_n _ _ (by omega)).trans (zu_n _ _ (by omega)))]
    refine lv_aload_n hx hb dX6_asks_254 rfl (lv_at hl 3 rfl) ?_
    refine gf_X6_s X hH q_576 dX6_asks_255 ?_
    refine lv_iload_n hx hb dX6_asks_258 rfl (lv_at hl 4 rfl) ?_
    refine lv_bipush (v := 8) hx hb dX6_asks_259 (by decide) ?_
    refine n_iadd (A := 160 * B) (B := 8) hx hb (160 * B + 8) (by omega) dX6_asks_261 ?_
    refine am_s X (by omega) hH (8) (by omega) (by omega) dX6_asks_262 ?_
    rw [show (upd (upd v 145 ((v 145) + 1)) 147 ((v 147) + 1)) 8 = v 8 from ((zu_n _ _ (by omega)).trans (zu_n _ _ (by omega)))]
    refine lv_iadd hx hb dX6_asks_263 ?_
    refine sm_s X (by omega) hH (149) (by omega) (by omega) dX6_asks_264 (fun H locs hH => ?_)
    refine lv_iload hx hb dX6_asks_265 (lv_at hl 0 rfl) ?_
    refine lv_aload_n hx hb dX6_asks_267 rfl (lv_at hl 3 rfl) ?_
    refine gf_X6_s X hH q_576 dX6_asks_268 ?_
    refine lv_iload_n hx hb dX6_asks_271 rfl (lv_at hl 4 rfl) ?_
    refine lv_bipush (v := 8) hx hb dX6_asks_272 (by decide) ?_
    refine n_iadd (A := 160 * B) (B := 8) hx hb (160 * B + 8) (by omega) dX6_asks_274 ?_
    refine am_s X (by omega) hH (8) (by omega) (by omega) dX6_asks_275 ?_
    rw [show (upd (upd (upd v 145 ((v 145) + 1)) 147 ((v 147) + 1)) 149 ((v 149) + (v 8))) 8 = v 8 from ((zu_n _ _ (by omega)).trans ((zu_n _ _ (by omega)).trans (zu_n _ _ (by omega))))]
    refine lv_iadd hx hb dX6_asks_276 ?_
    refine lv_istore (lv' := [(6, .int ((fCost v z (fBest v z n) n) + (v 8))), (5, .int 0), (4, .int (nI (160 * B + 13 + 11 * z))), (0, .ref (a 6 8)), (1, .int (nI (160 * B))), (2, .int (nI z)), (3, .int (n))]) hx hb dX6_asks_277 hl (by decide) rfl (fun ls hl => ?_)
    refine lv_aload_n hx hb dX6_asks_279 rfl (lv_at hl 3 rfl) ?_
    refine lv_iload_n hx hb dX6_asks_280 rfl (lv_at hl 4 rfl) ?_
    refine lv_iload_n hx hb dX6_asks_281 rfl (lv_at hl 5 rfl) ?_
    have hH : zH D k a s (zM g B (mMiss v) (upd (upd (upd u 7 (fBest v z n)) 8 0) 9 ((-4)))) H locs := hH
    refine z_callVi X hH (c_X6_hasRoom l D k a g B (by omega) (mMiss v) (upd (upd (upd u 7 (fBest v z n)) 8 0) 9 ((-4))) (zFl_co (fun j h1 h2 => mMiss_o (by omega) (by omega) (by omega)) hf) R ((mMiss_o (by omega) (by omega) (by omega)).trans eR) hR hR2 (z) (by omega)) k_X6_79 (rv_X6 X hH) [] rfl rfl hl.1 (Nat.le_of_ble_eq_true rfl) ⟨Nat.le_of_ble_eq_true rfl, Nat.le_of_ble_eq_true rfl⟩ ⟨Nat.le_refl _, Nat.le_refl _⟩ dX6_asks_282 (fun r14 g15 H locs h16 hH => ?_)
    rw [h16.2] at hH
    rw [h16.1]
    refine b_ifeq (P := fCould (fRoom (mMiss v) z) z = true) (tgt := 325) hx hb dX6_asks_285 (by decide) (fun c17 => ?_) (fun c17 => ?_)
    · refine lv_aload_n hx hb dX6_asks_325 rfl (lv_at hl 3 rfl) ?_
      refine gf_X6_s X hH q_576 dX6_asks_326 ?_
      refine lv_iload_n hx hb dX6_asks_329 rfl (lv_at hl 4 rfl) ?_
      refine lv_sipush (v := 148) hx hb dX6_asks_330 (by decide) ?_
      refine n_iadd (A := 160 * B) (B := 148) hx hb (160 * B + 148) (by omega) dX6_asks_333 ?_
      refine lv_dup2_11 hx hb dX6_asks_334 rfl rfl ?_
      refine am_s X (by omega) hH (148) (by omega) (by omega) dX6_asks_335 ?_
      refine lv_iload hx hb dX6_asks_336 (lv_at hl 0 rfl) ?_
      refine lv_iadd hx hb dX6_asks_338 ?_
      refine sm_s X (by omega) hH (148) (by omega) (by omega) dX6_asks_339 (fun H locs hH => ?_)
      refine lv_aload_n hx hb dX6_asks_340 rfl (lv_at hl 3 rfl) ?_
      refine gf_X6_s X hH q_576 dX6_asks_341 ?_
      refine lv_iload_n hx hb dX6_asks_344 rfl (lv_at hl 4 rfl) ?_
      refine lv_sipush (v := 152) hx hb dX6_asks_345 (by decide) ?_
      refine n_iadd (A := 160 * B) (B := 152) hx hb (160 * B + 152) (by omega) dX6_asks_348 ?_
      refine lv_iload_n hx hb dX6_asks_349 rfl (lv_at hl 5 rfl) ?_
      refine lv_iconst (v := 3) hx hb dX6_asks_350 (by decide) ?_
      refine n_idiv (A := z) (B := 3) hx hb (z / 3) rfl (by omega) (by omega) (by omega) dX6_asks_351 ?_
      refine n_iadd (A := 160 * B + 152) (B := z / 3) hx hb (160 * B + 152 + (z / 3)) (by omega) dX6_asks_352 ?_
      refine lv_dup2_11 hx hb dX6_asks_353 rfl rfl ?_
      refine am_s X (by omega) hH (152 + (z / 3)) (by omega) (by omega) dX6_asks_354 ?_
      rw [show (upd (fRoom (mMiss v) z) 148 (((fRoom (mMiss v) z) 148) + ((fCost v z (fBest v z n) n) + (v 8)))) (152 + (z / 3)) = (fRoom (mMiss v) z) (152 + (z / 3)) from (zu_n _ _ (by omega))]
      refine lv_iconst (v := 1) hx hb dX6_asks_355 (by decide) ?_
      refine lv_iadd hx hb dX6_asks_356 ?_
      refine sm_s X (by omega) hH (152 + (z / 3)) (by omega) (by omega) dX6_asks_357 (fun H locs hH => ?_)
      refine lv_aload_n hx hb dX6_asks_358 rfl (lv_at hl 3 rfl) ?_
      refine gf_X6_s X hH q_576 dX6_asks_359 ?_
      refine lv_iload_n hx hb dX6_asks_362 rfl (lv_at hl 4 rfl) ?_
      refine lv_sipush (v := 156) hx hb dX6_asks_363 (by decide) ?_
      refine n_iadd (A := 160 * B) (B := 156) hx hb (160 * B + 156) (by omega) dX6_asks_366 ?_
      refine lv_iload_n hx hb dX6_asks_367 rfl (lv_at hl 5 rfl) ?_
      refine lv_iconst (v := 3) hx hb dX6_asks_368 (by decide) ?_
      refine n_idiv (A := z) (B := 3) hx hb (z / 3) rfl (by omega) (by omega) (by omega) dX6_asks_369 ?_
      refine n_iadd (A := 160 * B + 156) (B := z / 3) hx hb (160 * B + 156 + (z / 3)) (by omega) dX6_asks_370 ?_
      refine lv_dup2_11 hx hb dX6_asks_371 rfl rfl ?_
      refine am_s X (by omega) hH (156 + (z / 3)) (by omega) (by omega) dX6_asks_372 ?_
      rw [show (upd (upd (fRoom (mMiss v) z) 148 (((fRoom (mMiss v) z) 148) + ((fCost v z (fBest v z n) n) + (v 8)))) (152 + (z / 3)) (((fRoom (mMiss v) z) (152 + (z / 3))) + 1)) (156 + (z / 3)) = (fRoom (mMiss v) z) (156 + (z / 3)) from ((zu_n _ _ (by omega)).trans (zu_n _ _ (by omega)))]
      refine lv_iload hx hb dX6_asks_373 (lv_at hl 0 rfl) ?_
      refine lv_iadd hx hb dX6_asks_375 ?_
      refine sm_s X (by omega) hH (156 + (z / 3)) (by omega) (by omega) dX6_asks_376 (fun H locs hH => ?_)
      refine lv_iload hx hb dX6_asks_377 (lv_at hl 0 rfl) ?_
      exact hret _ _ _ _ _ _ rfl ⟨(fAsk_m1 hz c7).symm, _, by rw [fAsk_m2 hz c7 h9, if_neg c17]; rfl, fun j hj => (mRoomU_o (by omega)).trans ((zu_n _ _ (by omega)).trans ((zu_n _ _ (by omega)).trans (zu_n _ _ (by omega)))), by rw [if_neg c7]; exact (mRoomU_o (by decide)).trans ((zu_n _ _ (by omega)).trans ((zu_n _ _ (by omega)).trans (zu_s _ _ _))), by rw [if_neg (fun q => c7 q.1)]; exact (mRoomU_o (by decide)).trans ((zu_n _ _ (by omega)).trans (zu_s _ _ _)), by rw [if_neg c7]; exact (zu_s _ _ _).trans ((congrArg (mGoneV (mMiss v) z) (zu_s _ _ _)).trans (mGone_first hz (fun j h1 h2 => mMiss_o (by omega) (by omega) (by omega)) (mMiss_o (by omega) (by omega) (by omega))))⟩ hH dX6_asks_379
    · refine lv_aload_n hx hb dX6_asks_288 rfl (lv_at hl 3 rfl) ?_
      refine lv_iload_n hx hb dX6_asks_289 rfl (lv_at hl 4 rfl) ?_
      refine lv_iload_n hx hb dX6_asks_290 rfl (lv_at hl 5 rfl) ?_
      refine lv_aload_n hx hb dX6_asks_291 rfl (lv_at hl 3 rfl) ?_
      refine gm_X6_way X hH q_585 dX6_asks_292 ?_
      rw [show (mRoomU (mMiss v) (upd (upd (upd u 7 (fBest v z n)) 8 0) 9 ((-4))) z) 7 = fBest v z n from (mRoomU_o (by decide)).trans ((zu_n _ _ (by omega)).trans ((zu_n _ _ (by omega)).trans (zu_s _ _ _)))]
      refine lv_iload_n hx hb dX6_asks_295 rfl (lv_at hl 6 rfl) ?_
      refine lv_iload_n hx hb dX6_asks_296 rfl (lv_at hl 6 rfl) ?_
      refine lv_aload_n hx hb dX6_asks_297 rfl (lv_at hl 3 rfl) ?_
      refine gf_X6_s X hH q_576 dX6_asks_298 ?_
      refine lv_iload_n hx hb dX6_asks_301 rfl (lv_at hl 4 rfl) ?_
      refine lv_bipush (v := 8) hx hb dX6_asks_302 (by decide) ?_
      refine n_iadd (A := 160 * B) (B := 8) hx hb (160 * B + 8) (by omega) dX6_asks_304 ?_
      refine lv_iconst (v := 1) hx hb dX6_asks_305 (by decide) ?_
      refine n_iadd (A := 160 * B + 8) (B := 1) hx hb (160 * B + 8 + 1) (by omega) dX6_asks_306 ?_
      refine am_s X (by omega) hH (9) (by omega) (by omega) dX6_asks_307 ?_
      rw [show (fRoom (mMiss v) z) 9 = v 9 from (fRoom_o (by omega)).trans (mMiss_o (by omega) (by omega) (by omega))]
      refine lv_idiv hx hb dX6_asks_308 (zn0 h9) ?_
      refine lv_iload_n hx hb dX6_asks_309 rfl (lv_at hl 6 rfl) ?_
      refine lv_aload_n hx hb dX6_asks_310 rfl (lv_at hl 3 rfl) ?_
      refine gf_X6_s X hH q_576 dX6_asks_311 ?_
      refine lv_iload_n hx hb dX6_asks_314 rfl (lv_at hl 4 rfl) ?_
      refine lv_bipush (v := 8) hx hb dX6_asks_315 (by decide) ?_
      refine n_iadd (A := 160 * B) (B := 8) hx hb (160 * B + 8) (by omega) dX6_asks_317 ?_
      refine lv_iconst (v := 1) hx hb dX6_asks_318 (by decide) ?_
      refine n_iadd (A := 160 * B + 8) (B := 1) hx hb (160 * B + 8 + 1) (by omega) dX6_asks_319 ?_
      refine am_s X (by omega) hH (9) (by omega) (by omega) dX6_asks_320 ?_
      rw [show (fRoom (mMiss v) z) 9 = v 9 from (fRoom_o (by omega)).trans (mMiss_o (by omega) (by omega) (by omega))]
      refine lv_imul hx hb dX6_asks_321 ?_
      refine z_callVv X hH (c_X6_lays l D k a g B (by omega) (fRoom (mMiss v) z) (mRoomU (mMiss v) (upd (upd (upd u 7 (fBest v z n)) 8 0) 9 ((-4))) z) (fun t ht => by rw [fRoom_o (by omega), mMiss_o (by omega) (by omega) (by omega)]; exact hk t ht) (z) (by omega) (fBest v z n) n (n / (v 9)) (n * (v 9))) k_X6_82 (rv_X6 X hH) [] rfl rfl hl.1 (Nat.le_of_ble_eq_true rfl) ⟨Nat.le_of_ble_eq_true rfl, Nat.le_of_ble_eq_true rfl⟩ ⟨Nat.le_refl _, Nat.le_refl _⟩ dX6_asks_322 (fun g18 H locs h19 hH => ?_)
      rw [h19] at hH
      refine lv_aload_n hx hb dX6_asks_325 rfl (lv_at hl 3 rfl) ?_
      refine gf_X6_s X hH q_576 dX6_asks_326 ?_
      refine lv_iload_n hx hb dX6_asks_329 rfl (lv_at hl 4 rfl) ?_
      refine lv_sipush (v := 148) hx hb dX6_asks_330 (by decide) ?_
      refine n_iadd (A := 160 * B) (B := 148) hx hb (160 * B + 148) (by omega) dX6_asks_333 ?_
      refine lv_dup2_11 hx hb dX6_asks_334 rfl rfl ?_
      refine am_s X (by omega) hH (148) (by omega) (by omega) dX6_asks_335 ?_
      refine lv_iload hx hb dX6_asks_336 (lv_at hl 0 rfl) ?_
      refine lv_iadd hx hb dX6_asks_338 ?_
      refine sm_s X (by omega) hH (148) (by omega) (by omega) dX6_asks_339 (fun H locs hH => ?_)
      refine lv_aload_n hx hb dX6_asks_340 rfl (lv_at hl 3 rfl) ?_
      refine gf_X6_s X hH q_576 dX6_asks_341 ?_
      refine lv_iload_n hx hb dX6_asks_344 rfl (lv_at hl 4 rfl) ?_
      refine lv_sipush (v := 152) hx hb dX6_asks_345 (by decide) ?_
      refine n_iadd (A := 160 * B) (B := 152) hx hb (160 * B + 152) (by omega) dX6_asks_348 ?_
      refine lv_iload_n hx hb dX6_asks_349 rfl (lv_at hl 5 rfl) ?_
      refine lv_iconst (v := 3) hx hb dX6_asks_350 (by decide) ?_
      refine n_idiv (A := z) (B := 3) hx hb (z / 3) rfl (by omega) (by omega) (by omega) dX6_asks_351 ?_
      refine n_iadd (A := 160 * B + 152) (B := z / 3) hx hb (160 * B + 152 + (z / 3)) (by omega) dX6_asks_352 ?_
      refine lv_dup2_11 hx hb dX6_asks_353 rfl rfl ?_
      refine am_s X (by omega) hH (152 + (z / 3)) (by omega) (by omega) dX6_asks_354 ?_
      rw [show (upd (fPlace (fRoom (mMiss v) z) z (fBest v z n) n (n / (v 9)) (n * (v 9))) 148 (((fPlace (fRoom (mMiss v) z) z (fBest v z n) n (n / (v 9)) (n * (v 9))) 148) + ((fCost v z (fBest v z n) n) + (v 8)))) (152 + (z / 3)) = (fPlace (fRoom (mMiss v) z) z (fBest v z n) n (n / (v 9)) (n * (v 9))) (152 + (z / 3)) from (zu_n _ _ (by omega))]
      refine lv_iconst (v := 1) hx hb dX6_asks_355 (by decide) ?_
      refine lv_iadd hx hb dX6_asks_356 ?_
      refine sm_s X (by omega) hH (152 + (z / 3)) (by omega) (by omega) dX6_asks_357 (fun H locs hH => ?_)
      refine lv_aload_n hx hb dX6_asks_358 rfl (lv_at hl 3 rfl) ?_
      refine gf_X6_s X hH q_576 dX6_asks_359 ?_
      refine lv_iload_n hx hb dX6_asks_362 rfl (lv_at hl 4 rfl) ?_
      refine lv_sipush (v := 156) hx hb dX6_asks_363 (by decide) ?_
      refine n_iadd (A := 160 * B) (B := 156) hx hb (160 * B + 156) (by omega) dX6_asks_366 ?_
      refine lv_iload_n hx hb dX6_asks_367 rfl (lv_at hl 5 rfl) ?_
      refine lv_iconst (v := 3) hx hb dX6_asks_368 (by decide) ?_
      refine n_idiv (A := z) (B := 3) hx hb (z / 3) rfl (by omega) (by omega) (by omega) dX6_asks_369 ?_
      refine n_iadd (A := 160 * B + 156) (B := z / 3) hx hb (160 * B + 156 + (z / 3)) (by omega) dX6_asks_370 ?_
      refine lv_dup2_11 hx hb dX6_asks_371 rfl rfl ?_
      refine am_s X (by omega) hH (156 + (z / 3)) (by omega) (by omega) dX6_asks_372 ?_
      rw [show (upd (upd (fPlace (fRoom (mMiss v) z) z (fBest v z n) n (n / (v 9)) (n * (v 9))) 148 (((fPlace (fRoom (mMiss v) z) z (fBest v z n) n (n / (v 9)) (n * (v 9))) 148) + ((fCost v z (fBest v z n) n) + (v 8)))) (152 + (z / 3)) (((fPlace (fRoom (mMiss v) z) z (fBest v z n) n (n / (v 9)) (n * (v 9))) (152 + (z / 3))) + 1)) (156 + (z / 3)) = (fPlace (fRoom (mMiss v) z) z (fBest v z n) n (n / (v 9)) (n * (v 9))) (156 + (z / 3)) from ((zu_n _ _ (by omega)).trans (zu_n _ _ (by omega)))]
      refine lv_iload hx hb dX6_asks_373 (lv_at hl 0 rfl) ?_
      refine lv_iadd hx hb dX6_asks_375 ?_
      refine sm_s X (by omega) hH (156 + (z / 3)) (by omega) (by omega) dX6_asks_376 (fun H locs hH => ?_)
      refine lv_iload hx hb dX6_asks_377 (lv_at hl 0 rfl) ?_
      exact hret _ _ _ _ _ _ rfl ⟨(fAsk_m1 hz c7).symm, _, by rw [fAsk_m2 hz c7 h9, if_pos c17]; rfl, fun j hj => (mRoomU_o (by omega)).trans ((zu_n _ _ (by omega)).trans ((zu_n _ _ (by omega)).trans (zu_n _ _ (by omega)))), by rw [if_neg c7]; exact (mRoomU_o (by decide)).trans ((zu_n _ _ (by omega)).trans ((zu_n _ _ (by omega)).trans (zu_s _ _ _))), by rw [if_neg (fun q => c7 q.1)]; exact (mRoomU_o (by decide)).trans ((zu_n _ _ (by omega)).trans (zu_s _ _ _)), by rw [if_neg c7]; exact (zu_s _ _ _).trans ((congrArg (mGoneV (mMiss v) z) (zu_s _ _ _)).trans (mGone_first hz (fun j h1 h2 => mMiss_o (by omega) (by omega) (by omega)) (mMiss_o (by omega) (by omega) (by omega))))⟩ hH dX6_asks_379
  · refine lv_iconst (v := 1) hx hb dX6_asks_17 (by decide) ?_
    refine lv_goto (tgt := 22) hx hb dX6_asks_18 (by decide) ?_
    refine lv_istore (lv' := [(5, .int 1), (4, .int (nI (160 * B + 13 + 11 * z))), (0, .ref (a 6 8)), (1, .int (nI (160 * B))), (2, .int (nI z)), (3, .int (n))]) hx hb dX6_asks_22 hl (by decide) rfl (fun ls hl => ?_)
    refine lv_aload_n hx hb dX6_asks_24 rfl (lv_at hl 2 rfl) ?_
    refine lv_iload hx hb dX6_asks_25 (lv_at hl 0 rfl) ?_
    refine lv_if_eq (tgt := 42) hx hb dX6_asks_27 (by decide) (fun q => absurd q (by decide)) (fun _ => ?_)
    refine lv_aload_n hx hb dX6_asks_30 rfl (lv_at hl 2 rfl) ?_
    refine gf_X6_s X hH q_576 dX6_asks_31 ?_
    refine lv_iload hx hb dX6_asks_34 (lv_at hl 1 rfl) ?_
    refine lv_iconst (v := 1) hx hb dX6_asks_36 (by decide) ?_
    refine n_iadd (A := 160 * B + 13 + 11 * z) (B := 1) hx hb (160 * B + 13 + 11 * z + 1) (by omega) dX6_asks_37 ?_
    refine am_s X (by omega) hH (13 + 11 * z + 1) (by omega) (by omega) dX6_asks_38 ?_
    refine lv_goto (tgt := 49) hx hb dX6_asks_39 (by decide) ?_
    refine pm_X6_way X hH q_585 dX6_asks_49 (fun H locs hH => ?_)
    refine lv_aload_n hx hb dX6_asks_52 rfl (lv_at hl 2 rfl) ?_
    refine lv_iconst (v := 0) hx hb dX6_asks_53 (by decide) ?_
    refine pm_X6_isBad X hH (Or.inl rfl) q_586 dX6_asks_54 (fun H locs hH => ?_)
    refine lv_aload_n hx hb dX6_asks_57 rfl (lv_at hl 2 rfl) ?_
    refine lv_bipush (v := (-4)) hx hb dX6_asks_58 (by decide) ?_
    refine pm_X6_gone X hH q_587 dX6_asks_60 (fun H locs hH => ?_)
    refine lv_aload_n hx hb dX6_asks_63 rfl (lv_at hl 2 rfl) ?_
    refine lv_iload_n hx hb dX6_asks_64 rfl (lv_at hl 3 rfl) ?_
    refine lv_iload_n hx hb dX6_asks_65 rfl (lv_at hl 4 rfl) ?_
    refine lv_aload_n hx hb dX6_asks_66 rfl (lv_at hl 2 rfl) ?_
    refine gm_X6_way X hH q_585 dX6_asks_67 ?_
    rw [show (upd (upd (upd u 7 (v (13 + 11 * z + 1))) 8 0) 9 ((-4))) 7 = v (13 + 11 * z + 1) from ((zu_n _ _ (by omega)).trans ((zu_n _ _ (by omega)).trans (zu_s _ _ _)))]
    refine lv_iload_n hx hb dX6_asks_70 rfl (lv_at hl 5 rfl) ?_
    refine z_callVi X hH (c_X6_costs l D k a g B (by omega) v (upd (upd (upd u 7 (v (13 + 11 * z + 1))) 8 0) 9 ((-4))) hk (z) (by omega) (v (13 + 11 * z + 1)) n) k_X6_34 (rv_X6 X hH) [] rfl rfl hl.1 (Nat.le_of_ble_eq_true rfl) ⟨Nat.le_of_ble_eq_true rfl, Nat.le_of_ble_eq_true rfl⟩ ⟨Nat.le_refl _, Nat.le_refl _⟩ dX6_asks_71 (fun r20 g21 H locs h22 hH => ?_)
    rw [h22.2] at hH
    rw [h22.1]
    refine lv_istore (lv' := [(6, .int (fCost v z (v (13 + 11 * z + 1)) n)), (5, .int 1), (4, .int (nI (160 * B + 13 + 11 * z))), (0, .ref (a 6 8)), (1, .int (nI (160 * B))), (2, .int (nI z)), (3, .int (n))]) hx hb dX6_asks_74 hl (by decide) rfl (fun ls hl => ?_)
    refine lv_aload_n hx hb dX6_asks_76 rfl (lv_at hl 3 rfl) ?_
    refine gf_X6_s X hH q_576 dX6_asks_77 ?_
    refine lv_iload_n hx hb dX6_asks_80 rfl (lv_at hl 4 rfl) ?_
    refine lv_sipush (v := 145) hx hb dX6_asks_81 (by decide) ?_
    refine n_iadd (A := 160 * B) (B := 145) hx hb (160 * B + 145) (by omega) dX6_asks_84 ?_
    refine lv_dup2_11 hx hb dX6_asks_85 rfl rfl ?_
    refine am_s X (by omega) hH (145) (by omega) (by omega) dX6_asks_86 ?_
    refine lv_iconst (v := 1) hx hb dX6_asks_87 (by decide) ?_
    refine lv_iadd hx hb dX6_asks_88 ?_
    refine sm_s X (by omega) hH (145) (by omega) (by omega) dX6_asks_89 (fun H locs hH => ?_)
    refine lv_iload hx hb dX6_asks_90 (lv_at hl 1 rfl) ?_
    refine lv_if_eq (tgt := 229) hx hb dX6_asks_92 (by decide) (fun q => absurd q (by decide)) (fun _ => ?_)
    refine lv_aload_n hx hb dX6_asks_95 rfl (lv_at hl 3 rfl) ?_
    refine gf_X6_s X hH q_576 dX6_asks_96 ?_
    refine lv_iload_n hx hb dX6_asks_99 rfl (lv_at hl 4 rfl) ?_
    refine lv_sipush (v := 146) hx hb dX6_asks_100 (by decide) ?_
    refine n_iadd (A := 160 * B) (B := 146) hx hb (160 * B + 146) (by omega) dX6_asks_103 ?_
    refine lv_dup2_11 hx hb dX6_asks_104 rfl rfl ?_
    refine am_s X (by omega) hH (146) (by omega) (by omega) dX6_asks_105 ?_
    rw [show (upd v 145 ((v 145) + 1)) 146 = v 146 from (zu_n _ _ (by omega))]
    refine lv_iconst (v := 1) hx hb dX6_asks_106 (by decide) ?_
    refine lv_iadd hx hb dX6_asks_107 ?_
    refine sm_s X (by omega) hH (146) (by omega) (by omega) dX6_asks_108 (fun H locs hH => ?_)
    refine lv_aload_n hx hb dX6_asks_109 rfl (lv_at hl 3 rfl) ?_
    refine gf_X6_s X hH q_576 dX6_asks_110 ?_
    refine lv_iload hx hb dX6_asks_113 (lv_at hl 2 rfl) ?_
    refine lv_bipush (v := 7) hx hb dX6_asks_115 (by decide) ?_
    refine n_iadd (A := 160 * B + 13 + 11 * z) (B := 7) hx hb (160 * B + 13 + 11 * z + 7) (by omega) dX6_asks_117 ?_
    refine lv_aload_n hx hb dX6_asks_118 rfl (lv_at hl 3 rfl) ?_
    refine gf_X6_s X hH q_576 dX6_asks_119 ?_
    refine lv_iload_n hx hb dX6_asks_122 rfl (lv_at hl 4 rfl) ?_
    refine lv_sipush (v := 145) hx hb dX6_asks_123 (by decide) ?_
    refine n_iadd (A := 160 * B) (B := 145) hx hb (160 * B + 145) (by omega) dX6_asks_126 ?_
    refine am_s X (by omega) hH (145) (by omega) (by omega) dX6_asks_127 ?_
    rw [show (upd (upd v 145 ((v 145) + 1)) 146 ((v 146) + 1)) 145 = (v 145) + 1 from ((zu_n _ _ (by omega)).trans (zu_s _ _ _))]
    refine sm_s X (by omega) hH (13 + 11 * z + 7) (by omega) (by omega) dX6_asks_128 (fun H locs hH => ?_)
    refine lv_aload_n hx hb dX6_asks_129 rfl (lv_at hl 3 rfl) ?_
    refine gf_X6_s X hH q_576 dX6_asks_130 ?_
    refine lv_iload hx hb dX6_asks_133 (lv_at hl 2 rfl) ?_
    refine lv_bipush (v := 9) hx hb dX6_asks_135 (by decide) ?_
    refine n_iadd (A := 160 * B + 13 + 11 * z) (B := 9) hx hb (160 * B + 13 + 11 * z + 9) (by omega) dX6_asks_137 ?_
    refine lv_dup2_11 hx hb dX6_asks_138 rfl rfl ?_
    refine am_s X (by omega) hH (13 + 11 * z + 9) (by omega) (by omega) dX6_asks_139 ?_
    rw [show (upd (upd (upd v 145 ((v 145) + 1)) 146 ((v 146) + 1)) (13 + 11 * z + 7) ((v 145) + 1)) (13 + 11 * z + 9) = v (13 + 11 * z + 9) from ((zu_n _ _ (by omega)).trans ((zu_n _ _ (by omega)).trans (zu_n _ _ (by omega))))]
    refine lv_iconst (v := 1) hx hb dX6_asks_140 (by decide) ?_
    refine lv_iadd hx hb dX6_asks_141 ?_
    refine sm_s X (by omega) hH (13 + 11 * z + 9) (by omega) (by omega) dX6_asks_142 (fun H locs hH => ?_)
    refine lv_aload_n hx hb dX6_asks_143 rfl (lv_at hl 3 rfl) ?_
    refine lv_iload hx hb dX6_asks_144 (lv_at hl 0 rfl) ?_
    refine lv_i2l hx hb dX6_asks_146 rfl ?_
    refine lv_aload_n hx hb dX6_asks_147 rfl (lv_at hl 3 rfl) ?_
    refine gf_X6_s X hH q_576 dX6_asks_148 ?_
    refine lv_iload_n hx hb dX6_asks_151 rfl (lv_at hl 4 rfl) ?_
    refine lv_bipush (v := 8) hx hb dX6_asks_152 (by decide) ?_
    refine n_iadd (A := 160 * B) (B := 8) hx hb (160 * B + 8) (by omega) dX6_asks_154 ?_
    refine lv_iconst (v := 4) hx hb dX6_asks_155 (by decide) ?_
    refine n_iadd (A := 160 * B + 8) (B := 4) hx hb (160 * B + 8 + 4) (by omega) dX6_asks_156 ?_
    refine am_s X (by omega) hH (12) (by omega) (by omega) dX6_asks_157 ?_
    rw [show (upd (upd (upd (upd v 145 ((v 145) + 1)) 146 ((v 146) + 1)) (13 + 11 * z + 7) ((v 145) + 1)) (13 + 11 * z + 9) ((v (13 + 11 * z + 9)) + 1)) 12 = v 12 from ((zu_n _ _ (by omega)).trans ((zu_n _ _ (by omega)).trans ((zu_n _ _ (by omega)).trans (zu_n _ _ (by omega)))))]
    refine lv_i2l hx hb dX6_asks_158 rfl ?_
    refine lv_aload_n hx hb dX6_asks_159 rfl (lv_at hl 3 rfl) ?_
    refine gf_X6_s X hH q_576 dX6_asks_160 ?_
    refine lv_iload hx hb dX6_asks_163 (lv_at hl 2 rfl) ?_
    refine lv_iconst (v := 5) hx hb dX6_asks_165 (by decide) ?_
    refine n_iadd (A := 160 * B + 13 + 11 * z) (B := 5) hx hb (160 * B + 13 + 11 * z + 5) (by omega) dX6_asks_166 ?_
    refine am_s X (by omega) hH (13 + 11 * z + 5) (by omega) (by omega) dX6_asks_167 ?_
    rw [show (upd (upd (upd (upd v 145 ((v 145) + 1)) 146 ((v 146) + 1)) (13 + 11 * z + 7) ((v 145) + 1)) (13 + 11 * z + 9) ((v (13 + 11 * z + 9)) + 1)) (13 + 11 * z + 5) = v (13 + 11 * z + 5) from ((zu_n _ _ (by omega)).trans ((zu_n _ _ (by omega)).trans ((zu_n _ _ (by omega)).trans (zu_n _ _ (by omega)))))]
    refine lv_i2l hx hb dX6_asks_168 rfl ?_
    refine lv_lmul hx hb dX6_asks_169 ?_
    refine W.lcmp hx hb dX6_asks_170 ?_
    refine i_if_le (tgt := 178) hx hb dX6_asks_171 (by decide) (fun c23 => ?_) (fun c23 => ?_)
    · refine lv_iconst (v := 0) hx hb dX6_asks_178 (by decide) ?_
      refine pm_X6_isBad X hH (Or.inl rfl) q_586 dX6_asks_179 (fun H locs hH => ?_)
      refine lv_aload_n hx hb dX6_asks_182 rfl (lv_at hl 3 rfl) ?_
      refine gf_X6_s X hH q_576 dX6_asks_183 ?_
      refine lv_iload hx hb dX6_asks_186 (lv_at hl 2 rfl) ?_
      refine lv_aload_n hx hb dX6_asks_188 rfl (lv_at hl 3 rfl) ?_
      refine gm_X6_isBad X hH q_586 dX6_asks_189 ?_
      rw [show (upd (upd (upd (upd u 7 (v (13 + 11 * z + 1))) 8 0) 9 ((-4))) 8 0) 8 = 0 from (zu_s _ _ _)]
      refine lv_if_eq (tgt := 199) hx hb dX6_asks_192 (by decide) (fun _ => ?_) (fun q => absurd (by decide) q)
      refine lv_iconst (v := 1) hx hb dX6_asks_199 (by decide) ?_
      refine sm_s X (by omega) hH (13 + 11 * z + 0) (by omega) (by omega) dX6_asks_200 (fun H locs hH => ?_)
      refine lv_aload_n hx hb dX6_asks_201 rfl (lv_at hl 3 rfl) ?_
      refine gf_X6_s X hH q_576 dX6_asks_202 ?_
      refine lv_iload_n hx hb dX6_asks_205 rfl (lv_at hl 4 rfl) ?_
      refine lv_sipush (v := 150) hx hb dX6_asks_206 (by decide) ?_
      refine n_iadd (A := 160 * B) (B := 150) hx hb (160 * B + 150) (by omega) dX6_asks_209 ?_
      refine lv_dup2_11 hx hb dX6_asks_210 rfl rfl ?_
      refine am_s X (by omega) hH (150) (by omega) (by omega) dX6_asks_211 ?_
      rw [show (upd (upd (upd (upd (upd v 145 ((v 145) + 1)) 146 ((v 146) + 1)) (13 + 11 * z + 7) ((v 145) + 1)) (13 + 11 * z + 9) ((v (13 + 11 * z + 9)) + 1)) (13 + 11 * z + 0) 1) 150 = v 150 from ((zu_n _ _ (by omega)).trans ((zu_n _ _ (by omega)).trans ((zu_n _ _ (by omega)).trans ((zu_n _ _ (by omega)).trans (zu_n _ _ (by omega))))))]
      refine lv_aload_n hx hb dX6_asks_212 rfl (lv_at hl 3 rfl) ?_
      refine gm_X6_isBad X hH q_586 dX6_asks_213 ?_
      rw [show (upd (upd (upd (upd u 7 (v (13 + 11 * z + 1))) 8 0) 9 ((-4))) 8 0) 8 = 0 from (zu_s _ _ _)]
      refine lv_if_eq (tgt := 223) hx hb dX6_asks_216 (by decide) (fun _ => ?_) (fun q => absurd (by decide) q)
      refine lv_iconst (v := 0) hx hb dX6_asks_223 (by decide) ?_
      refine lv_iadd hx hb dX6_asks_224 ?_
      refine sm_s X (by omega) hH (150) (by omega) (by omega) dX6_asks_225 (fun H locs hH => ?_)
      refine lv_goto (tgt := 325) hx hb dX6_asks_226 (by decide) ?_
      refine lv_aload_n hx hb dX6_asks_325 rfl (lv_at hl 3 rfl) ?_
      refine gf_X6_s X hH q_576 dX6_asks_326 ?_
      refine lv_iload_n hx hb dX6_asks_329 rfl (lv_at hl 4 rfl) ?_
      refine lv_sipush (v := 148) hx hb dX6_asks_330 (by decide) ?_
      refine n_iadd (A := 160 * B) (B := 148) hx hb (160 * B + 148) (by omega) dX6_asks_333 ?_
      refine lv_dup2_11 hx hb dX6_asks_334 rfl rfl ?_
      refine am_s X (by omega) hH (148) (by omega) (by omega) dX6_asks_335 ?_
      rw [show (upd (upd (upd (upd (upd (upd v 145 ((v 145) + 1)) 146 ((v 146) + 1)) (13 + 11 * z + 7) ((v 145) + 1)) (13 + 11 * z + 9) ((v (13 + 11 * z + 9)) + 1)) (13 + 11 * z + 0) 1) 150 ((v 150) + 0)) 148 = v 148 from ((zu_n _ _ (by omega)).trans ((zu_n _ _ (by omega)).trans ((zu_n _ _ (by omega)).trans ((zu_n _ _ (by omega)).trans ((zu_n _ _ (by omega)).trans (zu_n _ _ (by omega)))))))]
      refine lv_iload hx hb dX6_asks_336 (lv_at hl 0 rfl) ?_
      refine lv_iadd hx hb dX6_asks_338 ?_
      refine sm_s X (by omega) hH (148) (by omega) (by omega) dX6_asks_339 (fun H locs hH => ?_)
      refine lv_aload_n hx hb dX6_asks_340 rfl (lv_at hl 3 rfl) ?_
      refine gf_X6_s X hH q_576 dX6_asks_341 ?_
      refine lv_iload_n hx hb dX6_asks_344 rfl (lv_at hl 4 rfl) ?_
      refine lv_sipush (v := 152) hx hb dX6_asks_345 (by decide) ?_
      refine n_iadd (A := 160 * B) (B := 152) hx hb (160 * B + 152) (by omega) dX6_asks_348 ?_
      refine lv_iload_n hx hb dX6_asks_349 rfl (lv_at hl 5 rfl) ?_
      refine lv_iconst (v := 3) hx hb dX6_asks_350 (by decide) ?_
      refine n_idiv (A := z) (B := 3) hx hb (z / 3) rfl (by omega) (by omega) (by omega) dX6_asks_351 ?_
      refine n_iadd (A := 160 * B + 152) (B := z / 3) hx hb (160 * B + 152 + (z / 3)) (by omega) dX6_asks_352 ?_
      refine lv_dup2_11 hx hb dX6_asks_353 rfl rfl ?_
      refine am_s X (by omega) hH (152 + (z / 3)) (by omega) (by omega) dX6_asks_354 ?_
      rw [show (upd (upd (upd (upd (upd (upd (upd v 145 ((v 145) + 1)) 146 ((v 146) + 1)) (13 + 11 * z + 7) ((v 145) + 1)) (13 + 11 * z + 9) ((v (13 + 11 * z + 9)) + 1)) (13 + 11 * z + 0) 1) 150 ((v 150) + 0)) 148 ((v 148) + (fCost v z (v (13 + 11 * z + 1)) n))) (152 + (z / 3)) = v (152 + (z / 3)) from ((zu_n _ _ (by omega)).trans ((zu_n _ _ (by omega)).trans ((zu_n _ _ (by omega)).trans ((zu_n _ _ (by omega)).trans ((zu_n _ _ (by omega)).trans ((zu_n _ _ (by omega)).trans (zu_n _ _ (by omega))))))))]
      refine lv_iconst (v := 1) hx hb dX6_asks_355 (by decide) ?_
      refine lv_iadd hx hb dX6_asks_356 ?_
      refine sm_s X (by omega) hH (152 + (z / 3)) (by omega) (by omega) dX6_asks_357 (fun H locs hH => ?_)
      refine lv_aload_n hx hb dX6_asks_358 rfl (lv_at hl 3 rfl) ?_
      refine gf_X6_s X hH q_576 dX6_asks_359 ?_
      refine lv_iload_n hx hb dX6_asks_362 rfl (lv_at hl 4 rfl) ?_
      refine lv_sipush (v := 156) hx hb dX6_asks_363 (by decide) ?_
      refine n_iadd (A := 160 * B) (B := 156) hx hb (160 * B + 156) (by omega) dX6_asks_366 ?_
      refine lv_iload_n hx hb dX6_asks_367 rfl (lv_at hl 5 rfl) ?_
      refine lv_iconst (v := 3) hx hb dX6_asks_368 (by decide) ?_
      refine n_idiv (A := z) (B := 3) hx hb (z / 3) rfl (by omega) (by omega) (by omega) dX6_asks_369 ?_
      refine n_iadd (A := 160 * B + 156) (B := z / 3) hx hb (160 * B + 156 + (z / 3)) (by omega) dX6_asks_370 ?_
      refine lv_dup2_11 hx hb dX6_asks_371 rfl rfl ?_
      refine am_s X (by omega) hH (156 + (z / 3)) (by omega) (by omega) dX6_asks_372 ?_
      rw [show (upd (upd (upd (upd (upd (upd (upd (upd v 145 ((v 145) + 1)) 146 ((v 146) + 1)) (13 + 11 * z + 7) ((v 145) + 1)) (13 + 11 * z + 9) ((v (13 + 11 * z + 9)) + 1)) (13 + 11 * z + 0) 1) 150 ((v 150) + 0)) 148 ((v 148) + (fCost v z (v (13 + 11 * z + 1)) n))) (152 + (z / 3)) ((v (152 + (z / 3))) + 1)) (156 + (z / 3)) = v (156 + (z / 3)) from ((zu_n _ _ (by omega)).trans ((zu_n _ _ (by omega)).trans ((zu_n _ _ (by omega)).trans ((zu_n _ _ (by omega)).trans ((zu_n _ _ (by omega)).trans ((zu_n _ _ (by omega)).trans ((zu_n _ _ (by omega)).trans (zu_n _ _ (by omega)))))))))]
      refine lv_iload hx hb dX6_asks_373 (lv_at hl 0 rfl) ?_
      refine lv_iadd hx hb dX6_asks_375 ?_
      refine sm_s X (by omega) hH (156 + (z / 3)) (by omega) (by omega) dX6_asks_376 (fun H locs hH => ?_)
      refine lv_iload hx hb dX6_asks_377 (lv_at hl 0 rfl) ?_
      exact hret _ _ _ _ _ _ rfl ⟨(fAsk_h1 hz c7).symm, _, by rw [← fAsk_h3 hz c7 (fun q => c23 ((z_dear hg hz).mpr q)) ((hf z hz).1.resolve_left (fWhy_kept c7))], fun j hj => ((zu_n _ _ (by omega)).trans ((zu_n _ _ (by omega)).trans ((zu_n _ _ (by omega)).trans (zu_n _ _ (by omega))))), by rw [if_pos c7]; exact ((zu_n _ _ (by omega)).trans ((zu_n _ _ (by omega)).trans ((zu_n _ _ (by omega)).trans (zu_s _ _ _)))), by rw [if_neg (fun q => (fun q => c23 ((z_dear hg hz).mpr q)) q.2)]; exact (zu_s _ _ _), by rw [if_pos c7]; exact ((zu_n _ _ (by omega)).trans (zu_s _ _ _))⟩ hH dX6_asks_379
    · refine lv_iconst (v := 1) hx hb dX6_asks_174 (by decide) ?_
      refine lv_goto (tgt := 179) hx hb dX6_asks_175 (by decide) ?_
      refine pm_X6_isBad X hH (Or.inr rfl) q_586 dX6_asks_179 (fun H locs hH => ?_)
      refine lv_aload_n hx hb dX6_asks_182 rfl (lv_at hl 3 rfl) ?_
      refine gf_X6_s X hH q_576 dX6_asks_183 ?_
      refine lv_iload hx hb dX6_asks_186 (lv_at hl 2 rfl) ?_
      refine lv_aload_n hx hb dX6_asks_188 rfl (lv_at hl 3 rfl) ?_
      refine gm_X6_isBad X hH q_586 dX6_asks_189 ?_
      rw [show (upd (upd (upd (upd u 7 (v (13 + 11 * z + 1))) 8 0) 9 ((-4))) 8 1) 8 = 1 from (zu_s _ _ _)]
      refine lv_if_eq (tgt := 199) hx hb dX6_asks_192 (by decide) (fun q => absurd q (by decide)) (fun _ => ?_)
      refine lv_iconst (v := 0) hx hb dX6_asks_195 (by decide) ?_
      refine lv_goto (tgt := 200) hx hb dX6_asks_196 (by decide) ?_
      refine sm_s X (by omega) hH (13 + 11 * z + 0) (by omega) (by omega) dX6_asks_200 (fun H locs hH => ?_)
      refine lv_aload_n hx hb dX6_asks_201 rfl (lv_at hl 3 rfl) ?_
      refine gf_X6_s X hH q_576 dX6_asks_202 ?_
      refine lv_iload_n hx hb dX6_asks_205 rfl (lv_at hl 4 rfl) ?_
      refine lv_sipush (v := 150) hx hb dX6_asks_206 (by decide) ?_
      refine n_iadd (A := 160 * B) (B := 150) hx hb (160 * B + 150) (by omega) dX6_asks_209 ?_
      refine lv_dup2_11 hx hb dX6_asks_210 rfl rfl ?_
      refine am_s X (by omega) hH (150) (by omega) (by omega) dX6_asks_211 ?_
      rw [show (upd (upd (upd (upd (upd v 145 ((v 145) + 1)) 146 ((v 146) + 1)) (13 + 11 * z + 7) ((v 145) + 1)) (13 + 11 * z + 9) ((v (13 + 11 * z + 9)) + 1)) (13 + 11 * z + 0) 0) 150 = v 150 from ((zu_n _ _ (by omega)).trans ((zu_n _ _ (by omega)).trans ((zu_n _ _ (by omega)).trans ((zu_n _ _ (by omega)).trans (zu_n _ _ (by omega))))))]
      refine lv_aload_n hx hb dX6_asks_212 rfl (lv_at hl 3 rfl) ?_
      refine gm_X6_isBad X hH q_586 dX6_asks_213 ?_
      rw [show (upd (upd (upd (upd u 7 (v (13 + 11 * z + 1))) 8 0) 9 ((-4))) 8 1) 8 = 1 from (zu_s _ _ _)]
      refine lv_if_eq (tgt := 223) hx hb dX6_asks_216 (by decide) (fun q => absurd q (by decide)) (fun _ => ?_)
      refine lv_iconst (v := 1) hx hb dX6_asks_219 (by decide) ?_
      refine lv_goto (tgt := 224) hx hb dX6_asks_220 (by decide) ?_
      refine lv_iadd hx hb dX6_asks_224 ?_
      refine sm_s X (by omega) hH (150) (by omega) (by omega) dX6_asks_225 (fun H locs hH => ?_)
      refine lv_goto (tgt := 325) hx hb dX6_asks_226 (by decide) ?_
      refine lv_aload_n hx hb dX6_asks_325 rfl (lv_at hl 3 rfl) ?_
      refine gf_X6_s X hH q_576 dX6_asks_326 ?_
      refine lv_iload_n hx hb dX6_asks_329 rfl (lv_at hl 4 rfl) ?_
      refine lv_sipush (v := 148) hx hb dX6_asks_330 (by decide) ?_
      refine n_iadd (A := 160 * B) (B := 148) hx hb (160 * B + 148) (by omega) dX6_asks_333 ?_
      refine lv_dup2_11 hx hb dX6_asks_334 rfl rfl ?_
      refine am_s X (by omega) hH (148) (by omega) (by omega) dX6_asks_335 ?_
      rw [show (upd (upd (upd (upd (upd (upd v 145 ((v 145) + 1)) 146 ((v 146) + 1)) (13 + 11 * z + 7) ((v 145) + 1)) (13 + 11 * z + 9) ((v (13 + 11 * z + 9)) + 1)) (13 + 11 * z + 0) 0) 150 ((v 150) + 1)) 148 = v 148 from ((zu_n _ _ (by omega)).trans ((zu_n _ _ (by omega)).trans ((zu_n _ _ (by omega)).trans ((zu_n _ _ (by omega)).trans ((zu_n _ _ (by omega)).trans (zu_n _ _ (by omega)))))))]
      refine lv_iload hx hb dX6_asks_336 (lv_at hl 0 rfl) ?_
      refine lv_iadd hx hb dX6_asks_338 ?_
      refine sm_s X (by omega) hH (148) (by omega) (by omega) dX6_asks_339 (fun H locs hH => ?_)
      refine lv_aload_n hx hb dX6_asks_340 rfl (lv_at hl 3 rfl) ?_
      refine gf_X6_s X hH q_576 dX6_asks_341 ?_
      refine lv_iload_n hx hb dX6_asks_344 rfl (lv_at hl 4 rfl) ?_
      refine lv_sipush (v := 152) hx hb dX6_asks_345 (by decide) ?_
      refine n_iadd (A := 160 * B) (B := 152) hx hb (160 * B + 152) (by omega) dX6_asks_348 ?_
      refine lv_iload_n hx hb dX6_asks_349 rfl (lv_at hl 5 rfl) ?_
      refine lv_iconst (v := 3) hx hb dX6_asks_350 (by decide) ?_
      refine n_idiv (A := z) (B := 3) hx hb (z / 3) rfl (by omega) (by omega) (by omega) dX6_asks_351 ?_
      refine n_iadd (A := 160 * B + 152) (B := z / 3) hx hb (160 * B + 152 + (z / 3)) (by omega) dX6_asks_352 ?_
      refine lv_dup2_11 hx hb dX6_asks_353 rfl rfl ?_
      refine am_s X (by omega) hH (152 + (z / 3)) (by omega) (by omega) dX6_asks_354 ?_
      rw [show (upd (upd (upd (upd (upd (upd (upd v 145 ((v 145) + 1)) 146 ((v 146) + 1)) (13 + 11 * z + 7) ((v 145) + 1)) (13 + 11 * z + 9) ((v (13 + 11 * z + 9)) + 1)) (13 + 11 * z + 0) 0) 150 ((v 150) + 1)) 148 ((v 148) + (fCost v z (v (13 + 11 * z + 1)) n))) (152 + (z / 3)) = v (152 + (z / 3)) from ((zu_n _ _ (by omega)).trans ((zu_n _ _ (by omega)).trans ((zu_n _ _ (by omega)).trans ((zu_n _ _ (by omega)).trans ((zu_n _ _ (by omega)).trans ((zu_n _ _ (by omega)).trans (zu_n _ _ (by omega))))))))]
      refine lv_iconst (v := 1) hx hb dX6_asks_355 (by decide) ?_
      refine lv_iadd hx hb dX6_asks_356 ?_
      refine sm_s X (by omega) hH (152 + (z / 3)) (by omega) (by omega) dX6_asks_357 (fun H locs hH => ?_)
      refine lv_aload_n hx hb dX6_asks_358 rfl (lv_at hl 3 rfl) ?_
      refine gf_X6_s X hH q_576 dX6_asks_359 ?_
      refine lv_iload_n hx hb dX6_asks_362 rfl (lv_at hl 4 rfl) ?_
      refine lv_sipush (v := 156) hx hb dX6_asks_363 (by decide) ?_
      refine n_iadd (A := 160 * B) (B := 156) hx hb (160 * B + 156) (by omega) dX6_asks_366 ?_
      refine lv_iload_n hx hb dX6_asks_367 rfl (lv_at hl 5 rfl) ?_
      refine lv_iconst (v := 3) hx hb dX6_asks_368 (by decide) ?_
      refine n_idiv (A := z) (B := 3) hx hb (z / 3) rfl (by omega) (by omega) (by omega) dX6_asks_369 ?_
      refine n_iadd (A := 160 * B + 156) (B := z / 3) hx hb (160 * B + 156 + (z / 3)) (by omega) dX6_asks_370 ?_
      refine lv_dup2_11 hx hb dX6_asks_371 rfl rfl ?_
      refine am_s X (by omega) hH (156 + (z / 3)) (by omega) (by omega) dX6_asks_372 ?_
      rw [show (upd (upd (upd (upd (upd (upd (upd (upd v 145 ((v 145) + 1)) 146 ((v 146) + 1)) (13 + 11 * z + 7) ((v 145) + 1)) (13 + 11 * z + 9) ((v (13 + 11 * z + 9)) + 1)) (13 + 11 * z + 0) 0) 150 ((v 150) + 1)) 148 ((v 148) + (fCost v z (v (13 + 11 * z + 1)) n))) (152 + (z / 3)) ((v (152 + (z / 3))) + 1)) (156 + (z / 3)) = v (156 + (z / 3)) from ((zu_n _ _ (by omega)).trans ((zu_n _ _ (by omega)).trans ((zu_n _ _ (by omega)).trans ((zu_n _ _ (by omega)).trans ((zu_n _ _ (by omega)).trans ((zu_n _ _ (by omega)).trans ((zu_n _ _ (by omega)).trans (zu_n _ _ (by omega)))))))))]
      refine lv_iload hx hb dX6_asks_373 (lv_at hl 0 rfl) ?_
      refine lv_iadd hx hb dX6_asks_375 ?_
      refine sm_s X (by omega) hH (156 + (z / 3)) (by omega) (by omega) dX6_asks_376 (fun H locs hH => ?_)
      refine lv_iload hx hb dX6_asks_377 (lv_at hl 0 rfl) ?_
      exact hret _ _ _ _ _ _ rfl ⟨(fAsk_h1 hz c7).symm, _, by rw [← fAsk_h2 hz c7 ((z_dear hg hz).mp c23)], fun j hj => ((zu_n _ _ (by omega)).trans ((zu_n _ _ (by omega)).trans ((zu_n _ _ (by omega)).trans (zu_n _ _ (by omega))))), by rw [if_pos c7]; exact ((zu_n _ _ (by omega)).trans ((zu_n _ _ (by omega)).trans ((zu_n _ _ (by omega)).trans (zu_s _ _ _)))), by rw [if_pos ⟨c7, (z_dear hg hz).mp c23⟩]; exact (zu_s _ _ _), by rw [if_pos c7]; exact ((zu_n _ _ (by omega)).trans (zu_s _ _ _))⟩ hH dX6_asks_379
