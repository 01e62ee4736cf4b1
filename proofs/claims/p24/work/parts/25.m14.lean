theorem zT_o (g : Mem) (u w t n : V) {r : Nat} (h6 : r ≠ 6) (h8 : r ≠ 8) (h9 : r ≠ 9) (h17 : r ≠ 17) : zT g u w t n r = g r := by
  unfold zT
  rw [zUp_n _ _ h6, zUp_n _ _ h17, zUp_n _ _ h9, zUp_n _ _ h8]
theorem nI_nm4 {f : Nat} (h : f < 2 ^ 31) : ¬ nI f = -4 := fun q => by
  have h1 := congrArg Int32.toInt q
  rw [nI_toInt h] at h1
  have h2 : (-4 : Int32).toInt = -4 := by decide
  omega
theorem fRun_a {Wd T : Nat} {m : Int32} {ls : List (Int32 × Int32 × Int32)} {p : Int32} {v : V} (h3 : Wd ≠ 3) (h4 : Wd ≠ 4) (hW : Wd < 5) (hT : T < 4) : fRun ((nI Wd, nI T, m) :: ls) p v = fRun ls (p + (fAsk v (3 * T + Wd) m).1) (fAsk v (3 * T + Wd) m).2 := by
  have e1 : ¬ nI Wd = 3 := fun q => h3 ((nI_eq (b := 3) (by omega) (by omega)).mp q)
  have e2 : ¬ nI Wd = 4 := fun q => h4 ((nI_eq (b := 4) (by omega) (by omega)).mp q)
  have e3 : iN (nI T) = T := iNn (by omega)
  have e4 : iN (nI Wd) = Wd := iNn (by omega)
  simp only [fRun, e1, e2, e3, e4, if_false]
theorem fRun_3 {Wd T : Nat} {m : Int32} {ls : List (Int32 × Int32 × Int32)} {p : Int32} {v : V} (h3 : Wd = 3) (hT : T < 4) : fRun ((nI Wd, nI T, m) :: ls) p v = fRun ls p (fResize v T 0 m) := by
  have e1 : nI Wd = 3 := by rw [h3]; rfl
  have e3 : iN (nI T) = T := iNn (by omega)
  simp only [fRun, e1, e3, if_true]
theorem fRun_4 {Wd T : Nat} {m : Int32} {ls : List (Int32 × Int32 × Int32)} {p : Int32} {v : V} (h4 : Wd = 4) (hT : T < 4) : fRun ((nI Wd, nI T, m) :: ls) p v = fRun ls p (fResize v T 1 m) := by
  have e1 : ¬ nI Wd = 3 := by rw [h4]; decide
  have e2 : nI Wd = 4 := by rw [h4]; rfl
  have e3 : iN (nI T) = T := iNn (by omega)
  have e5 : ¬ (4 : Int32) = 3 := by decide
  simp only [fRun, e2, e3, e5, if_true, if_false]
/-- what stands behind askAll() -/
def zAll (g : Mem) (L : Nat) (r : Int32) (g' : Mem) : Prop := ∃ u1 w1 t1 n1 : V, (∀ j, j ≠ 3 → j ≠ 4 → u1 j = g 6 j) ∧ r = (kAll (g 7) L (g 0)).1 ∧ g' = zAct (zT g u1 w1 t1 n1) (kAll (g 7) L (g 0)).2
set_option maxRecDepth 100000 in
set_option maxHeartbeats 4000000 in
theorem c_X5_askAll (l : Launch) (D : va_G) (k : Nat → ClassId) (a : Nat → Nat → Nat) (g : Mem) (x : Nat) (hx4 : x < 4) (e6 : g 6 0 = nI x) (hf : zFl (g 0)) (hjk : ∀ j, 160 ≤ j → g (2 + x) j = g 0 j) (L : Nat) (eL : g 6 2 = nI L) (hL : L ≤ 80) : zI l yX5_askAll cX5_askAll 5 .int 9 191 D k a [.ref (a 6 0)] (g) (zAll g L) := by
  refine zI_of (own := RX5) (by decide +kernel) rfl (Nat.le_of_ble_eq_true rfl) ?_
  intro p e s m args below meth c X Q hret hH ls hl
  obtain ⟨hx, hb, hml, hown, hts⟩ := X.1
  have hl : lv_has ls 5 [(0, .ref (a 6 0))] := hl
  have hH : zH D k a s (g) s.heap [] := hH
  refine lv_aload_n hx hb dX5_askAll_0 rfl (lv_at hl 0 rfl) ?_
  refine gf_X5_text X hH q_216 dX5_askAll_1 ?_
  refine z_callVi X (by rw [zT_id]; exact hH) (c_X2_read l D k a g (g 6) (g 8) (g 9) (g 17) L eL hL) k_X5_73 (rv_X2 X hH) [] rfl rfl hl.1 (Nat.le_of_ble_eq_true rfl) ⟨Nat.le_of_ble_eq_true rfl, Nat.le_of_ble_eq_true rfl⟩ ⟨Nat.le_refl _, Nat.le_refl _⟩ dX5_askAll_4 (fun r1 g2 H locs h3 hH => ?_)
  obtain ⟨u1, w1, t1, n1, hg1, hu1, hno, hso⟩ := h3
  have e0 : g2 0 = g 0 := by rw [hg1]; exact zT_o _ _ _ _ _ (by decide) (by decide) (by decide) (by decide)
  have e6x : g2 6 0 = nI x := by rw [hg1, zT_6, hu1 0 (by decide) (by decide), e6]
  have hf3 : zFl (g2 0) := by rw [e0]; exact hf
  have hjk3 : ∀ j, 160 ≤ j → g2 (2 + x) j = g2 0 j := by rw [e0, hg1, zT_o _ _ _ _ _ (by omega) (by omega) (by omega) (by omega)]; exact hjk
  rcases hq : (fRd (g 7) L 11 0).2 with _ | f
  · obtain ⟨hr4, hu3, hel⟩ := hno hq
    rw [hr4]
    refine lv_istore_n (lv' := [(1, .int (-4)), (0, .ref (a 6 0))]) hx hb dX5_askAll_7 rfl hl (by decide) rfl (fun ls hl => ?_)
    refine lv_iload_n hx hb dX5_askAll_8 rfl (lv_at hl 0 rfl) ?_
    refine lv_bipush (v := (-4)) hx hb dX5_askAll_9 (by decide) ?_
    refine lv_icmp_eq (tgt := 19) hx hb dX5_askAll_11 (by decide) (fun _ => ?_) (fun q => absurd (by decide) q)
    refine lv_aload_n hx hb dX5_askAll_19 rfl (lv_at hl 1 rfl) ?_
    refine gf_X5_history X hH q_215 dX5_askAll_20 ?_
    refine lv_aload_n hx hb dX5_askAll_23 rfl (lv_at hl 1 rfl) ?_
    refine gf_X5_now X hH q_213 dX5_askAll_24 ?_
    refine z_callVv X hH (c_X0_record l D k a g2 x hx4 e6x hf3 hjk3) k_X5_54 (rv_X0 X hH) [] rfl rfl hl.1 (Nat.le_of_ble_eq_true rfl) ⟨Nat.le_of_ble_eq_true rfl, Nat.le_of_ble_eq_true rfl⟩ ⟨Nat.le_refl _, Nat.le_refl _⟩ dX5_askAll_27 (fun g4 H locs h5 hH => ?_)
    rw [h5] at hH
    have hH : zH D k a s (zUp (zRecX g2 x) 0 (g 0)) H locs := by rw [zNow ((zRecX_0 g2 x).trans e0)]; exact hH
    refine lv_iconst (v := 0) hx hb dX5_askAll_30 (by decide) ?_
    refine lv_istore_n (lv' := [(2, .int 0), (1, .int (-4)), (0, .ref (a 6 0))]) hx hb dX5_askAll_31 rfl hl (by decide) rfl (fun ls hl => ?_)
    refine lv_iconst (v := 0) hx hb dX5_askAll_32 (by decide) ?_
    refine lv_istore_n (lv' := [(3, .int 0), (2, .int 0), (1, .int (-4)), (0, .ref (a 6 0))]) hx hb dX5_askAll_33 rfl hl (by decide) rfl (fun ls hl => ?_)
    obtain ⟨Ls, hLs⟩ : ∃ Ls, Ls = (fRd (g 7) L 11 0).1 := ⟨_, rfl⟩
    rw [← hLs] at hel hu3
    have hok : ∀ q, q ∈ Ls → okL q := by rw [hLs]; exact fRd_ok _ _
    have hl10 : Ls.length ≤ 11 := by rw [hLs]; exact fRd_len _ _
    have Lp : ∀ (kx i : Nat) (p' : Int32) (v : V), i + kx = Ls.length → fRun (Ls.drop i) p' v = fRun Ls 0 (g 0) → ∀ (H : Heap) (locs : List Loc) (ls : Array Slot), zH D k a s (zUp (zRecX g2 x) 0 v) H locs → lv_has ls 5 [(3, .int (nI i)), (2, .int p'), (0, .ref (a 6 0))] → W p l e (zRoom 9 191) s m args below meth c H locs 0 0 Q (F0 m 34 ls []) := by
      intro kx
      induction kx with
      | zero =>
        intro i p' v hix hv H locs ls hH hl
        have hi : i = Ls.length := by omega
        have hdr : Ls.drop i = [] := by rw [hi]; exact List.drop_length
        refine lv_iload_n hx hb dX5_askAll_34 rfl (lv_at hl 0 rfl) ?_
        refine lv_aload_n hx hb dX5_askAll_35 rfl (lv_at hl 2 rfl) ?_
        refine gf_X5_text X hH q_216 dX5_askAll_36 ?_
        refine gf_X2_lines X hH q_195 dX5_askAll_39 ?_
        rw [show (zUp (zRecX g2 x) 0 v) 6 3 = ((zRecX g2 x) 6) 3 from (congrFun (zUp_n _ _ (by omega)) 3)]
        rw [show ((zRecX g2 x) 6) 3 = nI Ls.length from (zRecX_6 g2 x (by decide) (by decide)).trans (by rw [hg1, zT_6]; exact hu3)]
        refine n_icmp_ge (A := i) (B := Ls.length) (tgt := 146) hx hb (by omega) (by omega) dX5_askAll_42 (by decide) (fun c6 => ?_) (fun q => absurd q (by omega))
        refine lv_iload_n hx hb dX5_askAll_146 rfl (lv_at hl 1 rfl) ?_
        exact hret _ _ _ _ _ _ rfl ⟨u1, w1, t1, n1, hu1, by rw [kAll, hq]; show p' = (fRun (fRd (g 7) L 11 0).1 0 (g 0)).1; rw [← hLs, ← hv, hdr]; rfl, by rw [kAll, hq]; show zUp (zRecX g2 x) 0 v = zUp (zRec (zT g u1 w1 t1 n1)) 0 (fRun (fRd (g 7) L 11 0).1 0 (g 0)).2; rw [← hLs, ← hv, hdr, ← hg1, zRec_x hx4 e6x]; rfl⟩ hH dX5_askAll_147
      | succ kx ih =>
        intro i p' v hix hv H locs ls hH hl
        have hi : i < Ls.length := by omega
        have hel1 := hel i hi
        obtain ⟨⟨Wd, hWd, eW⟩, ⟨T, hT, eT⟩, -, -⟩ := hok _ (List.mem_of_getElem? hel1)
        have eW : w1 i = nI Wd := eW
        have eT : t1 i = nI T := eT
        have hdr : Ls.drop i = (nI Wd, nI T, n1 i) :: Ls.drop (i + 1) := by rw [List.drop_eq_getElem_cons hi]; rw [List.getElem?_eq_getElem hi, eW, eT] at hel1; rw [Option.some.inj hel1]
        refine lv_iload_n hx hb dX5_askAll_34 rfl (lv_at hl 0 rfl) ?_
        refine lv_aload_n hx hb dX5_askAll_35 rfl (lv_at hl 2 rfl) ?_
        refine gf_X5_text X hH q_216 dX5_askAll_36 ?_
        refine gf_X2_lines X hH q_195 dX5_askAll_39 ?_
        rw [show (zUp (zRecX g2 x) 0 v) 6 3 = ((zRecX g2 x) 6) 3 from (congrFun (zUp_n _ _ (by omega)) 3)]
        rw [show ((zRecX g2 x) 6) 3 = nI Ls.length from (zRecX_6 g2 x (by decide) (by decide)).trans (by rw [hg1, zT_6]; exact hu3)]
        refine n_icmp_ge (A := i) (B := Ls.length) (tgt := 146) hx hb (by omega) (by omega) dX5_askAll_42 (by decide) (fun q => absurd q (by omega)) (fun c7 => ?_)
        refine lv_aload_n hx hb dX5_askAll_45 rfl (lv_at hl 2 rfl) ?_
        refine gf_X5_text X hH q_216 dX5_askAll_46 ?_
        refine gf_X2_words X hH q_189 dX5_askAll_49 ?_
        refine lv_iload_n hx hb dX5_askAll_52 rfl (lv_at hl 0 rfl) ?_
        refine ar_words X hH (i) (by omega) dX5_askAll_53 ?_
        rw [show (zUp (zRecX g2 x) 0 v) 8 i = nI Wd from (congrFun ((zUp_n _ _ (by decide)).trans (zRecX_o g2 (by decide) (by omega))) i).trans (by rw [hg1, zT_8, eW])]
        refine lv_istore (lv' := [(4, .int (nI Wd)), (3, .int (nI i)), (2, .int (p')), (0, .ref (a 6 0))]) hx hb dX5_askAll_54 hl (by decide) rfl (fun ls hl => ?_)
        refine lv_iload hx hb dX5_askAll_56 (lv_at hl 0 rfl) ?_
        refine lv_iconst (v := 3) hx hb dX5_askAll_58 (by decide) ?_
        refine n_icmp_eq (A := Wd) (B := 3) (tgt := 68) hx hb (by omega) (by omega) dX5_askAll_59 (by decide) (fun c8 => ?_) (fun c8 => ?_)
        · refine lv_aload_n hx hb dX5_askAll_68 rfl (lv_at hl 3 rfl) ?_
          refine gf_X5_now X hH q_213 dX5_askAll_69 ?_
          refine lv_aload_n hx hb dX5_askAll_72 rfl (lv_at hl 3 rfl) ?_
          refine gf_X5_text X hH q_216 dX5_askAll_73 ?_
          refine gf_X2_tables X hH q_191 dX5_askAll_76 ?_
          refine lv_iload_n hx hb dX5_askAll_79 rfl (lv_at hl 1 rfl) ?_
          refine ar_tables X hH (i) (by omega) dX5_askAll_80 ?_
          rw [show (zUp (zRecX g2 x) 0 v) 9 i = nI T from (congrFun ((zUp_n _ _ (by decide)).trans (zRecX_o g2 (by decide) (by omega))) i).trans (by rw [hg1, zT_9, eT])]
          refine lv_iload hx hb dX5_askAll_81 (lv_at hl 0 rfl) ?_
          refine lv_iconst (v := 4) hx hb dX5_askAll_83 (by decide) ?_
          refine n_icmp_ne (A := Wd) (B := 4) (tgt := 91) hx hb (by omega) (by omega) dX5_askAll_84 (by decide) (fun c9 => ?_) (fun q => absurd q (by omega))
          refine lv_iconst (v := 0) hx hb dX5_askAll_91 (by decide) ?_
          refine lv_aload_n hx hb dX5_askAll_92 rfl (lv_at hl 3 rfl) ?_
          refine gf_X5_text X hH q_216 dX5_askAll_93 ?_
          refine gf_X2_numbers X hH q_193 dX5_askAll_96 ?_
          refine lv_iload_n hx hb dX5_askAll_99 rfl (lv_at hl 1 rfl) ?_
          refine ar_numbers X hH (i) (by omega) dX5_askAll_100 ?_
          rw [show (zUp (zRecX g2 x) 0 v) 17 i = n1 i from (congrFun ((zUp_n _ _ (by decide)).trans (zRecX_o g2 (by decide) (by omega))) i).trans (by rw [hg1, zT_17])]
          refine z_callVv X hH (c_X3_resize l D k a (zRecX g2 x) v (T) (by omega) 0 (n1 i)) k_X5_58 (rv_X3 X hH (by omega)) [] rfl rfl hl.1 (Nat.le_of_ble_eq_true rfl) ⟨Nat.le_of_ble_eq_true rfl, Nat.le_of_ble_eq_true rfl⟩ ⟨Nat.le_refl _, Nat.le_refl _⟩ dX5_askAll_101 (fun g10 H locs h11 hH => ?_)
          rw [h11] at hH
          refine lv_goto (tgt := 140) hx hb dX5_askAll_104 (by decide) ?_
          refine lv_iinc (v := nI (i + 1)) (lv' := [(3, .int (nI (i + 1))), (4, .int (nI Wd)), (2, .int (p')), (0, .ref (a 6 0))]) hx hb dX5_askAll_140 hl (k := 1) rfl (z_inc1 _) (by decide) rfl (fun ls hl => ?_)
          refine lv_goto (tgt := 34) hx hb dX5_askAll_143 (by decide) ?_
          exact ih (i + 1) _ _ (by omega) (by rw [← hv, hdr, fRun_3 c8 hT]) _ _ _ hH (lv_sub hl [0, 2, 3] rfl)
        · refine lv_iload hx hb dX5_askAll_62 (lv_at hl 0 rfl) ?_
          refine lv_iconst (v := 4) hx hb dX5_askAll_64 (by decide) ?_
          refine n_icmp_ne (A := Wd) (B := 4) (tgt := 107) hx hb (by omega) (by omega) dX5_askAll_65 (by decide) (fun c12 => ?_) (fun c12 => ?_)
          · refine lv_iload_n hx hb dX5_askAll_107 rfl (lv_at hl 2 rfl) ?_
            refine lv_aload_n hx hb dX5_askAll_108 rfl (lv_at hl 3 rfl) ?_
            refine gf_X5_now X hH q_213 dX5_askAll_109 ?_
            refine lv_iconst (v := 3) hx hb dX5_askAll_112 (by decide) ?_
            refine lv_aload_n hx hb dX5_askAll_113 rfl (lv_at hl 3 rfl) ?_
            refine gf_X5_text X hH q_216 dX5_askAll_114 ?_
            refine gf_X2_tables X hH q_191 dX5_askAll_117 ?_
            refine lv_iload_n hx hb dX5_askAll_120 rfl (lv_at hl 1 rfl) ?_
            refine ar_tables X hH (i) (by omega) dX5_askAll_121 ?_
            rw [show (zUp (zRecX g2 x) 0 v) 9 i = nI T from (congrFun ((zUp_n _ _ (by decide)).trans (zRecX_o g2 (by decide) (by omega))) i).trans (by rw [hg1, zT_9, eT])]
            refine n_imul (A := 3) (B := T) hx hb (3 * T) (by omega) dX5_askAll_122 ?_
            refine lv_iload hx hb dX5_askAll_123 (lv_at hl 0 rfl) ?_
            refine n_iadd (A := 3 * T) (B := Wd) hx hb (3 * T + Wd) (by omega) dX5_askAll_125 ?_
            refine lv_aload_n hx hb dX5_askAll_126 rfl (lv_at hl 3 rfl) ?_
            refine gf_X5_text X hH q_216 dX5_askAll_127 ?_
            refine gf_X2_numbers X hH q_193 dX5_askAll_130 ?_
            refine lv_iload_n hx hb dX5_askAll_133 rfl (lv_at hl 1 rfl) ?_
            refine ar_numbers X hH (i) (by omega) dX5_askAll_134 ?_
            rw [show (zUp (zRecX g2 x) 0 v) 17 i = n1 i from (congrFun ((zUp_n _ _ (by decide)).trans (zRecX_o g2 (by decide) (by omega))) i).trans (by rw [hg1, zT_17])]
            refine z_callVi X hH (c_X3_answer l D k a (zRecX g2 x) v (3 * T + Wd) (by omega) (n1 i)) k_X5_69 (rv_X3 X hH (by omega)) [.int (p')] rfl rfl hl.1 (Nat.le_of_ble_eq_true rfl) ⟨Nat.le_of_ble_eq_true rfl, Nat.le_of_ble_eq_true rfl⟩ ⟨Nat.le_refl _, Nat.le_refl _⟩ dX5_askAll_135 (fun r13 g14 H locs h15 hH => ?_)
            rw [h15.2] at hH
            rw [h15.1]
            refine lv_iadd hx hb dX5_askAll_138 ?_
            refine lv_istore_n (lv' := [(2, .int (p' + ((fAsk v (3 * T + Wd) (n1 i)).1))), (4, .int (nI Wd)), (3, .int (nI i)), (0, .ref (a 6 0))]) hx hb dX5_askAll_139 rfl hl (by decide) rfl (fun ls hl => ?_)
            refine lv_iinc (v := nI (i + 1)) (lv' := [(3, .int (nI (i + 1))), (2, .int (p' + ((fAsk v (3 * T + Wd) (n1 i)).1))), (4, .int (nI Wd)), (0, .ref (a 6 0))]) hx hb dX5_askAll_140 hl (k := 2) rfl (z_inc1 _) (by decide) rfl (fun ls hl => ?_)
            refine lv_goto (tgt := 34) hx hb dX5_askAll_143 (by decide) ?_
            exact ih (i + 1) _ _ (by omega) (by rw [← hv, hdr, fRun_a c8 c12 hWd hT]) _ _ _ hH (lv_sub hl [0, 1, 3] rfl)
          · refine lv_aload_n hx hb dX5_askAll_68 rfl (lv_at hl 3 rfl) ?_
            refine gf_X5_now X hH q_213 dX5_askAll_69 ?_
            refine lv_aload_n hx hb dX5_askAll_72 rfl (lv_at hl 3 rfl) ?_
            refine gf_X5_text X hH q_216 dX5_askAll_73 ?_
            refine gf_X2_tables X hH q_191 dX5_askAll_76 ?_
            refine lv_iload_n hx hb dX5_askAll_79 rfl (lv_at hl 1 rfl) ?_
            refine ar_tables X hH (i) (by omega) dX5_askAll_80 ?_
            rw [show (zUp (zRecX g2 x) 0 v) 9 i = nI T from (congrFun ((zUp_n _ _ (by decide)).trans (zRecX_o g2 (by decide) (by omega))) i).trans (by rw [hg1, zT_9, eT])]
            refine lv_iload hx hb dX5_askAll_81 (lv_at hl 0 rfl) ?_
            refine lv_iconst (v := 4) hx hb dX5_askAll_83 (by decide) ?_
            refine n_icmp_ne (A := Wd) (B := 4) (tgt := 91) hx hb (by omega) (by omega) dX5_askAll_84 (by decide) (fun q => absurd q (by omega)) (fun c16 => ?_)
            refine lv_iconst (v := 1) hx hb dX5_askAll_87 (by decide) ?_
            refine lv_goto (tgt := 92) hx hb dX5_askAll_88 (by decide) ?_
            refine lv_aload_n hx hb dX5_askAll_92 rfl (lv_at hl 3 rfl) ?_
            refine gf_X5_text X hH q_216 dX5_askAll_93 ?_
            refine gf_X2_numbers X hH q_193 dX5_askAll_96 ?_
            refine lv_iload_n hx hb dX5_askAll_99 rfl (lv_at hl 1 rfl) ?_
            refine ar_numbers X hH (i) (by omega) dX5_askAll_100 ?_
            rw [show (zUp (zRecX g2 x) 0 v) 17 i = n1 i from (congrFun ((zUp_n _ _ (by decide)).trans (zRecX_o g2 (by decide) (by omega))) i).trans (by rw [hg1, zT_17])]
            refine z_callVv X hH (c_X3_resize l D k a (zRecX g2 x) v (T) (by omega) 1 (n1 i)) k_X5_58 (rv_X3 X hH (by omega)) [] rfl rfl hl.1 (Nat.le_of_ble_eq_true rfl) ⟨Nat.le_of_ble_eq_true rfl, Nat.le_of_ble_eq_true rfl⟩ ⟨Nat.le_refl _, Nat.le_refl _⟩ dX5_askAll_101 (fun g17 H locs h18 hH => ?_)
            rw [h18] at hH
            refine lv_goto (tgt := 140) hx hb dX5_askAll_104 (by decide) ?_
            refine lv_iinc (v := nI (i + 1)) (lv' := [(3, .int (nI (i + 1))), (4, .int (nI Wd)), (2, .int (p')), (0, .ref (a 6 0))]) hx hb dX5_askAll_140 hl (k := 1) rfl (z_inc1 _) (by decide) rfl (fun ls hl => ?_)
            refine lv_goto (tgt := 34) hx hb dX5_askAll_143 (by decide) ?_
            exact ih (i + 1) _ _ (by omega) (by rw [← hv, hdr, fRun_4 c12 hT]) _ _ _ hH (lv_sub hl [0, 2, 3] rfl)
    exact Lp Ls.length 0 0 (g 0) (by omega) rfl _ _ _ hH (lv_sub hl [0, 1, 3] rfl)
  · obtain ⟨hrf, hfL⟩ := hso f hq
    rw [hrf]
    refine lv_istore_n (lv' := [(1, .int (nI f)), (0, .ref (a 6 0))]) hx hb dX5_askAll_7 rfl hl (by decide) rfl (fun ls hl => ?_)
    refine lv_iload_n hx hb dX5_askAll_8 rfl (lv_at hl 0 rfl) ?_
    refine lv_bipush (v := (-4)) hx hb dX5_askAll_9 (by decide) ?_
    refine lv_icmp_eq (tgt := 19) hx hb dX5_askAll_11 (by decide) (fun q => absurd q (nI_nm4 (by omega))) (fun c19 => ?_)
    refine lv_bipush (v := (-100)) hx hb dX5_askAll_14 (by decide) ?_
    refine lv_iload_n hx hb dX5_askAll_16 rfl (lv_at hl 0 rfl) ?_
    refine lv_isub hx hb dX5_askAll_17 ?_
    exact hret _ _ _ _ _ _ rfl ⟨u1, w1, t1, n1, hu1, by rw [kAll, hq], by rw [kAll, hq]; exact hg1⟩ hH dX5_askAll_18
